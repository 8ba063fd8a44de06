theorem ww_10 : (Jvm.Cond.initialized "java/lang/IllegalStateException") ∈ gt_tbl := gt_m (List.mem_append_right _ (List.mem_append_left _ (List.mem_of_getElem? (i := 10) (by decide +kernel)))) (by decide)
theorem ww_16 : (Jvm.Cond.initialized "java/lang/UnsupportedOperationException") ∈ gt_tbl := gt_m (List.mem_append_right _ (List.mem_append_left _ (List.mem_of_getElem? (i := 16) (by decide +kernel)))) (by decide)
theorem ww_261 : (Jvm.Cond.classLink "PakeDesk" (57 : Nat) "java/lang/IllegalStateException") ∈ gt_tbl := gt_m (List.mem_append_right _ (List.mem_append_right _ (List.mem_append_left _ (List.mem_of_getElem? (i := 21) (by decide +kernel))))) (by decide)
theorem ww_594 : (Jvm.Cond.classLink "PakeDesk" (126 : Nat) "java/lang/UnsupportedOperationException") ∈ gt_tbl := gt_m (List.mem_append_right _ (List.mem_append_right _ (List.mem_append_right _ (List.mem_append_left _ (List.mem_of_getElem? (i := 114) (by decide +kernel)))))) (by decide)
set_option maxHeartbeats 4000000 in
set_option maxRecDepth 100000 in
theorem c_D_client0 (l : Launch) (hfl : l.flags = pinnedFlags ++ [noTraceFlag]) (G : va_G) (ct : Nat → ClassId) (sz : Nat) (hd : Nat) (us : Nat) (op : Nat) (n : Nat) (ck : Int32) (ua : Int32) (wy : Int32) (pw : Int64) (se : Int64) (hno : ¬ us_in ua) : tm_Met l my_D_client (tb_w my_D_client mb_D_client 8 (some .int)) ({ frames := 6, cells := 1, slots := 6, locals := 82 }) (wk_P4 [.ref hd, .int ua, .int wy, .long pw, .long se] G ct [(hd, .inr (0, [.ref us, .ref op, .int (nI n), .int ck]))] sz) (wk_T "java/lang/IllegalArgumentException" [(hd, .inr (0, [.ref us, .ref op, .int (nI n), .int ck]))] G (va_A [(hd, .inr (0, [.ref us, .ref op, .int (nI n), .int ck]))] sz)) 1 6 (va_A [(hd, .inr (0, [.ref us, .ref op, .int (nI n), .int ck]))] sz) := by
  refine tm_ofW (cc := mb_D_client) (maxL := 8) (ret := (some .int)) (by decide) rfl ?_
  intro p e s m args below meth c s₁ B hml hv
  obtain ⟨⟨⟨rfl, hsz, hP, hK, hD0⟩, hZ⟩, hR⟩ := hv
  have htr := Launch.traces_off hfl B.admits
  have hx := B.exec
  have hb := B.bytes
  have hr := B.returns
  have hts := atoms_spec (ws := tb_w my_D_client mb_D_client 8 (some .int)) B.pre
  have hw : ∀ w ∈ gt_tbl, w.before [.ref hd, .int ua, .int wy, .long pw, .long se].toArray s = true := fun w h => hts w (List.mem_cons_of_mem _ h)
  have hown : s.vm.findClass cr_D = some m.cls := findClass_of_methodNamed B.named
  have hlocks := B.notSynchronized
  subst hsz
  have hD := hD0.self (sz := s.heap.size)
  generalize hAe : va_A [(hd, .inr (0, [.ref us, .ref op, .int (nI n), .int ck]))] s.heap.size = A at hD hZ ⊢
  have hA : ∀ q : Nat, s.heap.size ≤ q → A q := fun q h => by rw [← hAe]; exact Or.inr h
  have hS : va_S A s.heap s.heap [] := va_S.rf
  have hP : va_P G classes [(hd, .inr (0, [.ref us, .ref op, .int (nI n), .int ck]))] s.heap := hP
  have hl := lv_entry ([.ref hd, .int ua, .int wy, .long pw, .long se]) (n := 8) (Nat.le_of_ble_eq_true rfl)
  rw [lg_entry_eq]
  generalize (lg_sl ([.ref hd, .int ua, .int wy, .long pw, .long se]) ++ List.replicate (8 - (lg_sl ([.ref hd, .int ua, .int wy, .long pw, .long se])).length) Slot.unset).toArray = ls at hl ⊢
  have hl : lv_has ls 8 [(0, .ref hd), (1, .int ua), (2, .int wy), (3, .long pw), (5, .long se)] := hl
  refine lv_aload_n hx hb d_D_client_0 rfl (lv_at hl 0 rfl) ?_
  refine lv_iload_n hx hb d_D_client_1 rfl (lv_at hl 1 rfl) ?_
  have hPc : va_P G classes [(hd, .inr (0, [.ref us, .ref op, .int (nI n), .int ck]))] s.heap := hP.sub [0] rfl
  have hDc := hD.sub (ws' := [(hd, .inr (0, [.ref us, .ref op, .int (nI n), .int ck]))]) [0] (by decide) rfl
  refine va_csq (W.runV (As := [.int ua]) (rest := []) ⟨hx, hb, hml, hown, hts⟩ (c_D_findUser0 l G ct s.heap.size hd us op n ck ua hno) (tb_V hw cy_D_findUser ww_85 ww_87 wp_D_findUser rfl rfl ⟨Nat.le_of_ble_eq_true rfl, Nat.le_of_ble_eq_true rfl⟩) (wk_preV (ci := 0) (q0 := 0) hPc hK hDc rfl rfl) rfl rfl hl.1 rfl (lv_room (Nat.le_of_ble_eq_true rfl)) d_D_client_2 ⟨Nat.le_of_ble_eq_true rfl, Nat.le_of_ble_eq_true rfl⟩) (fun r854 er854 => ?_)
  subst er854
  refine tp_v (y := .null) rfl ?_
  refine lv_astoreN (lv' := [(7, .null), (0, .ref hd), (1, .int ua), (2, .int wy), (3, .long pw), (5, .long se)]) hx hb d_D_client_5 hl (Nat.le_of_ble_eq_true rfl) rfl (fun ls hl => ?_)
  refine lv_aloadN hx hb d_D_client_7 (lv_at hl 0 rfl) ?_
  refine lv_ifnullN (tgt := 19) hx hb d_D_client_9 (by decide) ?_
  obtain ⟨sa, hstr⟩ := hR _ (List.mem_of_getElem? (l := st_tx) (i := 0) rfl)
  exact th_throw (own := "PakeDesk") (cls := "java/lang/IllegalArgumentException") (names := ["java/lang/RuntimeException", "java/lang/Exception"]) hx hb hlocks (st_out B _) (hl.1.trans hml.symm) htr hown (by decide) (by decide) (hw _ ww_192) (hw _ ww_193) (hw _ ww_9) (st_hat hw hK.2 hZ hS ow_IA) hstr d_D_client_19 d_D_client_22 d_D_client_23 d_D_client_25 d_D_client_28 (Nat.le_of_ble_eq_true rfl) (Nat.le_of_ble_eq_true rfl) (Nat.le_of_ble_eq_true rfl) (Nat.le_of_ble_eq_true rfl) hS.2.2 (wk_T.of hP hD hS)
set_option maxHeartbeats 4000000 in
set_option maxRecDepth 100000 in
theorem c_D_client0b (l : Launch) (hfl : l.flags = pinnedFlags ++ [noTraceFlag]) (G : va_G) (ct : Nat → ClassId) (sz : Nat) (hd : Nat) (us : Nat) (op : Nat) (n : Nat) (ck : Int32) (fu : Nat → Option Nat) (hu : Nat) (k : Nat) (wy : Int32) (pw : Int64) (se : Int64) (hk : k < 8) (hfu : fu k = some hu) (hwi : ¬ wy_in wy) : tm_Met l my_D_client (tb_w my_D_client mb_D_client 8 (some .int)) ({ frames := 6, cells := 1, slots := 6, locals := 82 }) (wk_P4 [.ref hd, .int (nI k), .int wy, .long pw, .long se] G ct [(hd, .inr (0, [.ref us, .ref op, .int (nI n), .int ck])), (us, .inl ((ct 3), 8, .inr (.inr (.inr (.inr fu)))))] sz) (wk_T "java/lang/IllegalArgumentException" [(hd, .inr (0, [.ref us, .ref op, .int (nI n), .int ck])), (us, .inl ((ct 3), 8, .inr (.inr (.inr (.inr fu)))))] G (va_A [(hd, .inr (0, [.ref us, .ref op, .int (nI n), .int ck])), (us, .inl ((ct 3), 8, .inr (.inr (.inr (.inr fu)))))] sz)) 1 6 (va_A [(hd, .inr (0, [.ref us, .ref op, .int (nI n), .int ck])), (us, .inl ((ct 3), 8, .inr (.inr (.inr (.inr fu)))))] sz) := by
  refine tm_ofW (cc := mb_D_client) (maxL := 8) (ret := (some .int)) (by decide) rfl ?_
  intro p e s m args below meth c s₁ B hml hv
  obtain ⟨⟨⟨rfl, hsz, hP, hK, hD0⟩, hZ⟩, hR⟩ := hv
  have htr := Launch.traces_off hfl B.admits
  have hx := B.exec
  have hb := B.bytes
  have hr := B.returns
  have hts := atoms_spec (ws := tb_w my_D_client mb_D_client 8 (some .int)) B.pre
  have hw : ∀ w ∈ gt_tbl, w.before [.ref hd, .int (nI k), .int wy, .long pw, .long se].toArray s = true := fun w h => hts w (List.mem_cons_of_mem _ h)
  have hown : s.vm.findClass cr_D = some m.cls := findClass_of_methodNamed B.named
  have hlocks := B.notSynchronized
  subst hsz
  have hD := hD0.self (sz := s.heap.size)
  generalize hAe : va_A [(hd, .inr (0, [.ref us, .ref op, .int (nI n), .int ck])), (us, .inl ((ct 3), 8, .inr (.inr (.inr (.inr fu)))))] s.heap.size = A at hD hZ ⊢
  have hA : ∀ q : Nat, s.heap.size ≤ q → A q := fun q h => by rw [← hAe]; exact Or.inr h
  have hS : va_S A s.heap s.heap [] := va_S.rf
  have hP : va_P G classes [(hd, .inr (0, [.ref us, .ref op, .int (nI n), .int ck])), (us, .inl ((ct 3), 8, .inr (.inr (.inr (.inr fu)))))] s.heap := hP
  have hl := lv_entry ([.ref hd, .int (nI k), .int wy, .long pw, .long se]) (n := 8) (Nat.le_of_ble_eq_true rfl)
  rw [lg_entry_eq]
  generalize (lg_sl ([.ref hd, .int (nI k), .int wy, .long pw, .long se]) ++ List.replicate (8 - (lg_sl ([.ref hd, .int (nI k), .int wy, .long pw, .long se])).length) Slot.unset).toArray = ls at hl ⊢
  have hl : lv_has ls 8 [(0, .ref hd), (1, .int (nI k)), (2, .int wy), (3, .long pw), (5, .long se)] := hl
  refine lv_aload_n hx hb d_D_client_0 rfl (lv_at hl 0 rfl) ?_
  refine lv_iload_n hx hb d_D_client_1 rfl (lv_at hl 1 rfl) ?_
  have hPc : va_P G classes [(hd, .inr (0, [.ref us, .ref op, .int (nI n), .int ck])), (us, .inl ((ct 3), 8, .inr (.inr (.inr (.inr fu)))))] s.heap := hP.sub [0, 1] rfl
  have hDc := hD.sub (ws' := [(hd, .inr (0, [.ref us, .ref op, .int (nI n), .int ck])), (us, .inl ((ct 3), 8, .inr (.inr (.inr (.inr fu)))))]) [0, 1] (by decide) rfl
  refine va_csq (W.runV (As := [.int (nI k)]) (rest := []) ⟨hx, hb, hml, hown, hts⟩ (c_D_findUser1 l G ct s.heap.size hd us op n ck fu hu k hk hfu) (tb_V hw cy_D_findUser ww_85 ww_87 wp_D_findUser rfl rfl ⟨Nat.le_of_ble_eq_true rfl, Nat.le_of_ble_eq_true rfl⟩) (wk_preV (ci := 0) (q0 := 0) hPc hK hDc rfl rfl) rfl rfl hl.1 rfl (lv_room (Nat.le_of_ble_eq_true rfl)) d_D_client_2 ⟨Nat.le_of_ble_eq_true rfl, Nat.le_of_ble_eq_true rfl⟩) (fun r855 er855 => ?_)
  subst er855
  refine tp_v (y := .ref hu) rfl ?_
  refine lv_astore (lv' := [(7, .ref hu), (0, .ref hd), (1, .int (nI k)), (2, .int wy), (3, .long pw), (5, .long se)]) hx hb d_D_client_5 hl (Nat.le_of_ble_eq_true rfl) rfl (fun ls hl => ?_)
  refine lv_aload hx hb d_D_client_7 (lv_at hl 0 rfl) ?_
  refine lv_ifnull hx hb d_D_client_9 ?_
  refine lv_iload_n hx hb d_D_client_12 rfl (lv_at hl 3 rfl) ?_
  refine vp_callSi (W.runS (As := [.int wy]) (rest := []) ⟨hx, hb, hml, hown, hts⟩ (c_D_isWay l wy) (tb_S hw cy_D_isWay ww_89 ww_90 rfl rfl ⟨Nat.le_of_ble_eq_true rfl, Nat.le_of_ble_eq_true rfl⟩) preEq rfl rfl hl.1 rfl (lv_room (Nat.le_of_ble_eq_true rfl)) d_D_client_13 ⟨Nat.le_of_ble_eq_true rfl, Nat.le_of_ble_eq_true rfl⟩) (fun r856 er856 => ?_)
  subst er856
  refine tp_i (if_neg hwi) ?_
  refine lv_if_ne (tgt := 29) hx hb d_D_client_16 (by decide) (fun h857 => ?_) (fun h857 => ?_)
  · exact absurd h857 (by decide)
  · obtain ⟨sa, hstr⟩ := hR _ (List.mem_of_getElem? (l := st_tx) (i := 0) rfl)
    exact th_throw (own := "PakeDesk") (cls := "java/lang/IllegalArgumentException") (names := ["java/lang/RuntimeException", "java/lang/Exception"]) hx hb hlocks (st_out B _) (hl.1.trans hml.symm) htr hown (by decide) (by decide) (hw _ ww_192) (hw _ ww_193) (hw _ ww_9) (st_hat hw hK.2 hZ hS ow_IA) hstr d_D_client_19 d_D_client_22 d_D_client_23 d_D_client_25 d_D_client_28 (Nat.le_of_ble_eq_true rfl) (Nat.le_of_ble_eq_true rfl) (Nat.le_of_ble_eq_true rfl) (Nat.le_of_ble_eq_true rfl) hS.2.2 (wk_T.of hP hD hS)
set_option maxHeartbeats 4000000 in
set_option maxRecDepth 100000 in
theorem c_D_client2 (l : Launch) (hfl : l.flags = pinnedFlags ++ [noTraceFlag]) (G : va_G) (ct : Nat → ClassId) (sz : Nat) (hd : Nat) (us : Nat) (op : Nat) (n : Nat) (ck : Int32) (fu : Nat → Option Nat) (hu : Nat) (k : Nat) (wy : Int32) (pw : Int64) (se : Int64) (hk : k < 8) (hfu : fu k = some hu) (hwi : wy_in wy) (hn : ¬ nI n < 40) : tm_Met l my_D_client (tb_w my_D_client mb_D_client 8 (some .int)) ({ frames := 6, cells := 1, slots := 6, locals := 82 }) (wk_P4 [.ref hd, .int (nI k), .int wy, .long pw, .long se] G ct [(hd, .inr (0, [.ref us, .ref op, .int (nI n), .int ck])), (us, .inl ((ct 3), 8, .inr (.inr (.inr (.inr fu)))))] sz) (wk_T "java/lang/IllegalStateException" [(hd, .inr (0, [.ref us, .ref op, .int (nI n), .int ck])), (us, .inl ((ct 3), 8, .inr (.inr (.inr (.inr fu)))))] G (va_A [(hd, .inr (0, [.ref us, .ref op, .int (nI n), .int ck])), (us, .inl ((ct 3), 8, .inr (.inr (.inr (.inr fu)))))] sz)) 1 6 (va_A [(hd, .inr (0, [.ref us, .ref op, .int (nI n), .int ck])), (us, .inl ((ct 3), 8, .inr (.inr (.inr (.inr fu)))))] sz) := by
  refine tm_ofW (cc := mb_D_client) (maxL := 8) (ret := (some .int)) (by decide) rfl ?_
  intro p e s m args below meth c s₁ B hml hv
  obtain ⟨⟨⟨rfl, hsz, hP, hK, hD0⟩, hZ⟩, hR⟩ := hv
  have htr := Launch.traces_off hfl B.admits
  have hx := B.exec
  have hb := B.bytes
  have hr := B.returns
  have hts := atoms_spec (ws := tb_w my_D_client mb_D_client 8 (some .int)) B.pre
  have hw : ∀ w ∈ gt_tbl, w.before [.ref hd, .int (nI k), .int wy, .long pw, .long se].toArray s = true := fun w h => hts w (List.mem_cons_of_mem _ h)
  have hown : s.vm.findClass cr_D = some m.cls := findClass_of_methodNamed B.named
  have hlocks := B.notSynchronized
  subst hsz
  have hD := hD0.self (sz := s.heap.size)
  generalize hAe : va_A [(hd, .inr (0, [.ref us, .ref op, .int (nI n), .int ck])), (us, .inl ((ct 3), 8, .inr (.inr (.inr (.inr fu)))))] s.heap.size = A at hD hZ ⊢
  have hA : ∀ q : Nat, s.heap.size ≤ q → A q := fun q h => by rw [← hAe]; exact Or.inr h
  have hS : va_S A s.heap s.heap [] := va_S.rf
  have hP : va_P G classes [(hd, .inr (0, [.ref us, .ref op, .int (nI n), .int ck])), (us, .inl ((ct 3), 8, .inr (.inr (.inr (.inr fu)))))] s.heap := hP
  have hl := lv_entry ([.ref hd, .int (nI k), .int wy, .long pw, .long se]) (n := 8) (Nat.le_of_ble_eq_true rfl)
  rw [lg_entry_eq]
  generalize (lg_sl ([.ref hd, .int (nI k), .int wy, .long pw, .long se]) ++ List.replicate (8 - (lg_sl ([.ref hd, .int (nI k), .int wy, .long pw, .long se])).length) Slot.unset).toArray = ls at hl ⊢
  have hl : lv_has ls 8 [(0, .ref hd), (1, .int (nI k)), (2, .int wy), (3, .long pw), (5, .long se)] := hl
  refine lv_aload_n hx hb d_D_client_0 rfl (lv_at hl 0 rfl) ?_
  refine lv_iload_n hx hb d_D_client_1 rfl (lv_at hl 1 rfl) ?_
  have hPc : va_P G classes [(hd, .inr (0, [.ref us, .ref op, .int (nI n), .int ck])), (us, .inl ((ct 3), 8, .inr (.inr (.inr (.inr fu)))))] s.heap := hP.sub [0, 1] rfl
  have hDc := hD.sub (ws' := [(hd, .inr (0, [.ref us, .ref op, .int (nI n), .int ck])), (us, .inl ((ct 3), 8, .inr (.inr (.inr (.inr fu)))))]) [0, 1] (by decide) rfl
  refine va_csq (W.runV (As := [.int (nI k)]) (rest := []) ⟨hx, hb, hml, hown, hts⟩ (c_D_findUser1 l G ct s.heap.size hd us op n ck fu hu k hk hfu) (tb_V hw cy_D_findUser ww_85 ww_87 wp_D_findUser rfl rfl ⟨Nat.le_of_ble_eq_true rfl, Nat.le_of_ble_eq_true rfl⟩) (wk_preV (ci := 0) (q0 := 0) hPc hK hDc rfl rfl) rfl rfl hl.1 rfl (lv_room (Nat.le_of_ble_eq_true rfl)) d_D_client_2 ⟨Nat.le_of_ble_eq_true rfl, Nat.le_of_ble_eq_true rfl⟩) (fun r858 er858 => ?_)
  subst er858
  refine tp_v (y := .ref hu) rfl ?_
  refine lv_astore (lv' := [(7, .ref hu), (0, .ref hd), (1, .int (nI k)), (2, .int wy), (3, .long pw), (5, .long se)]) hx hb d_D_client_5 hl (Nat.le_of_ble_eq_true rfl) rfl (fun ls hl => ?_)
  refine lv_aload hx hb d_D_client_7 (lv_at hl 0 rfl) ?_
  refine lv_ifnull hx hb d_D_client_9 ?_
  refine lv_iload_n hx hb d_D_client_12 rfl (lv_at hl 3 rfl) ?_
  refine vp_callSi (W.runS (As := [.int wy]) (rest := []) ⟨hx, hb, hml, hown, hts⟩ (c_D_isWay l wy) (tb_S hw cy_D_isWay ww_89 ww_90 rfl rfl ⟨Nat.le_of_ble_eq_true rfl, Nat.le_of_ble_eq_true rfl⟩) preEq rfl rfl hl.1 rfl (lv_room (Nat.le_of_ble_eq_true rfl)) d_D_client_13 ⟨Nat.le_of_ble_eq_true rfl, Nat.le_of_ble_eq_true rfl⟩) (fun r859 er859 => ?_)
  subst er859
  refine tp_i (if_pos hwi) ?_
  refine lv_if_ne (tgt := 29) hx hb d_D_client_16 (by decide) (fun h860 => ?_) (fun h860 => ?_)
  · refine lv_aload_n hx hb d_D_client_29 rfl (lv_at hl 1 rfl) ?_
    refine va_get (D := G) (ci := 0) (v := .int (nI n)) (C := cr_D) (T := cf_D) (N := 4) hx hb hw uw_D hown hK.1 hP 0 rfl rfl 2 (by decide) (hw _ ww_70) (fun _ h9 => h9) rfl d_D_client_30 ?_
    refine lv_bipush (v := 40) hx hb d_D_client_33 (by decide) ?_
    refine lv_icmp_lt (tgt := 48) hx hb d_D_client_35 (by decide) (fun h861 => ?_) (fun h861 => ?_)
    · exact absurd h861 hn
    · obtain ⟨sa, hstr⟩ := hR _ (List.mem_of_getElem? (l := st_tx) (i := 1) rfl)
      exact th_throw (own := "PakeDesk") (cls := "java/lang/IllegalStateException") (names := ["java/lang/RuntimeException", "java/lang/Exception"]) hx hb hlocks (st_out B _) (hl.1.trans hml.symm) htr hown (by decide) (by decide) (hw _ ww_261) (hw _ ww_262) (hw _ ww_10) (st_hat hw hK.2 hZ hS ow_IS) hstr d_D_client_38 d_D_client_41 d_D_client_42 d_D_client_44 d_D_client_47 (Nat.le_of_ble_eq_true rfl) (Nat.le_of_ble_eq_true rfl) (Nat.le_of_ble_eq_true rfl) (Nat.le_of_ble_eq_true rfl) hS.2.2 (wk_T.of hP hD hS)
  · exact absurd h860 (by decide)
set_option maxHeartbeats 4000000 in
set_option maxRecDepth 100000 in
theorem c_D_server0 (l : Launch) (hfl : l.flags = pinnedFlags ++ [noTraceFlag]) (G : va_G) (ct : Nat → ClassId) (sz : Nat) (hd : Nat) (us : Nat) (op : Nat) (n : Nat) (ck : Int32) (ua : Int32) (wy : Int32) (se : Int64) (hno : ¬ us_in ua) : tm_Met l my_D_server (tb_w my_D_server mb_D_server 6 (some .int)) ({ frames := 6, cells := 1, slots := 6, locals := 82 }) (wk_P4 [.ref hd, .int ua, .int wy, .long se] G ct [(hd, .inr (0, [.ref us, .ref op, .int (nI n), .int ck]))] sz) (wk_T "java/lang/IllegalArgumentException" [(hd, .inr (0, [.ref us, .ref op, .int (nI n), .int ck]))] G (va_A [(hd, .inr (0, [.ref us, .ref op, .int (nI n), .int ck]))] sz)) 1 6 (va_A [(hd, .inr (0, [.ref us, .ref op, .int (nI n), .int ck]))] sz) := by
  refine tm_ofW (cc := mb_D_server) (maxL := 6) (ret := (some .int)) (by decide) rfl ?_
  intro p e s m args below meth c s₁ B hml hv
  obtain ⟨⟨⟨rfl, hsz, hP, hK, hD0⟩, hZ⟩, hR⟩ := hv
  have htr := Launch.traces_off hfl B.admits
  have hx := B.exec
  have hb := B.bytes
  have hr := B.returns
  have hts := atoms_spec (ws := tb_w my_D_server mb_D_server 6 (some .int)) B.pre
  have hw : ∀ w ∈ gt_tbl, w.before [.ref hd, .int ua, .int wy, .long se].toArray s = true := fun w h => hts w (List.mem_cons_of_mem _ h)
  have hown : s.vm.findClass cr_D = some m.cls := findClass_of_methodNamed B.named
  have hlocks := B.notSynchronized
  subst hsz
  have hD := hD0.self (sz := s.heap.size)
  generalize hAe : va_A [(hd, .inr (0, [.ref us, .ref op, .int (nI n), .int ck]))] s.heap.size = A at hD hZ ⊢
  have hA : ∀ q : Nat, s.heap.size ≤ q → A q := fun q h => by rw [← hAe]; exact Or.inr h
  have hS : va_S A s.heap s.heap [] := va_S.rf
  have hP : va_P G classes [(hd, .inr (0, [.ref us, .ref op, .int (nI n), .int ck]))] s.heap := hP
  have hl := lv_entry ([.ref hd, .int ua, .int wy, .long se]) (n := 6) (Nat.le_of_ble_eq_true rfl)
  rw [lg_entry_eq]
  generalize (lg_sl ([.ref hd, .int ua, .int wy, .long se]) ++ List.replicate (6 - (lg_sl ([.ref hd, .int ua, .int wy, .long se])).length) Slot.unset).toArray = ls at hl ⊢
  have hl : lv_has ls 6 [(0, .ref hd), (1, .int ua), (2, .int wy), (3, .long se)] := hl
  refine lv_aload_n hx hb d_D_server_0 rfl (lv_at hl 0 rfl) ?_
  refine lv_iload_n hx hb d_D_server_1 rfl (lv_at hl 1 rfl) ?_
  have hPc : va_P G classes [(hd, .inr (0, [.ref us, .ref op, .int (nI n), .int ck]))] s.heap := hP.sub [0] rfl
  have hDc := hD.sub (ws' := [(hd, .inr (0, [.ref us, .ref op, .int (nI n), .int ck]))]) [0] (by decide) rfl
  refine va_csq (W.runV (As := [.int ua]) (rest := []) ⟨hx, hb, hml, hown, hts⟩ (c_D_findUser0 l G ct s.heap.size hd us op n ck ua hno) (tb_V hw cy_D_findUser ww_85 ww_87 wp_D_findUser rfl rfl ⟨Nat.le_of_ble_eq_true rfl, Nat.le_of_ble_eq_true rfl⟩) (wk_preV (ci := 0) (q0 := 0) hPc hK hDc rfl rfl) rfl rfl hl.1 rfl (lv_room (Nat.le_of_ble_eq_true rfl)) d_D_server_2 ⟨Nat.le_of_ble_eq_true rfl, Nat.le_of_ble_eq_true rfl⟩) (fun r862 er862 => ?_)
  subst er862
  refine tp_v (y := .null) rfl ?_
  refine lv_astoreN (lv' := [(5, .null), (0, .ref hd), (1, .int ua), (2, .int wy), (3, .long se)]) hx hb d_D_server_5 hl (Nat.le_of_ble_eq_true rfl) rfl (fun ls hl => ?_)
  refine lv_aloadN hx hb d_D_server_7 (lv_at hl 0 rfl) ?_
  refine lv_ifnullN (tgt := 19) hx hb d_D_server_9 (by decide) ?_
  obtain ⟨sa, hstr⟩ := hR _ (List.mem_of_getElem? (l := st_tx) (i := 0) rfl)
  exact th_throw (own := "PakeDesk") (cls := "java/lang/IllegalArgumentException") (names := ["java/lang/RuntimeException", "java/lang/Exception"]) hx hb hlocks (st_out B _) (hl.1.trans hml.symm) htr hown (by decide) (by decide) (hw _ ww_192) (hw _ ww_193) (hw _ ww_9) (st_hat hw hK.2 hZ hS ow_IA) hstr d_D_server_19 d_D_server_22 d_D_server_23 d_D_server_25 d_D_server_28 (Nat.le_of_ble_eq_true rfl) (Nat.le_of_ble_eq_true rfl) (Nat.le_of_ble_eq_true rfl) (Nat.le_of_ble_eq_true rfl) hS.2.2 (wk_T.of hP hD hS)
set_option maxHeartbeats 4000000 in
set_option maxRecDepth 100000 in
theorem c_D_server0b (l : Launch) (hfl : l.flags = pinnedFlags ++ [noTraceFlag]) (G : va_G) (ct : Nat → ClassId) (sz : Nat) (hd : Nat) (us : Nat) (op : Nat) (n : Nat) (ck : Int32) (fu : Nat → Option Nat) (hu : Nat) (k : Nat) (wy : Int32) (se : Int64) (hk : k < 8) (hfu : fu k = some hu) (hwi : ¬ wy_in wy) : tm_Met l my_D_server (tb_w my_D_server mb_D_server 6 (some .int)) ({ frames := 6, cells := 1, slots := 6, locals := 82 }) (wk_P4 [.ref hd, .int (nI k), .int wy, .long se] G ct [(hd, .inr (0, [.ref us, .ref op, .int (nI n), .int ck])), (us, .inl ((ct 3), 8, .inr (.inr (.inr (.inr fu)))))] sz) (wk_T "java/lang/IllegalArgumentException" [(hd, .inr (0, [.ref us, .ref op, .int (nI n), .int ck])), (us, .inl ((ct 3), 8, .inr (.inr (.inr (.inr fu)))))] G (va_A [(hd, .inr (0, [.ref us, .ref op, .int (nI n), .int ck])), (us, .inl ((ct 3), 8, .inr (.inr (.inr (.inr fu)))))] sz)) 1 6 (va_A [(hd, .inr (0, [.ref us, .ref op, .int (nI n), .int ck])), (us, .inl ((ct 3), 8, .inr (.inr (.inr (.inr fu)))))] sz) := by
  refine tm_ofW (cc := mb_D_server) (maxL := 6) (ret := (some .int)) (by decide) rfl ?_
  intro p e s m args below meth c s₁ B hml hv
  obtain ⟨⟨⟨rfl, hsz, hP, hK, hD0⟩, hZ⟩, hR⟩ := hv
  have htr := Launch.traces_off hfl B.admits
  have hx := B.exec
  have hb := B.bytes
  have hr := B.returns
  have hts := atoms_spec (ws := tb_w my_D_server mb_D_server 6 (some .int)) B.pre
  have hw : ∀ w ∈ gt_tbl, w.before [.ref hd, .int (nI k), .int wy, .long se].toArray s = true := fun w h => hts w (List.mem_cons_of_mem _ h)
  have hown : s.vm.findClass cr_D = some m.cls := findClass_of_methodNamed B.named
  have hlocks := B.notSynchronized
  subst hsz
  have hD := hD0.self (sz := s.heap.size)
  generalize hAe : va_A [(hd, .inr (0, [.ref us, .ref op, .int (nI n), .int ck])), (us, .inl ((ct 3), 8, .inr (.inr (.inr (.inr fu)))))] s.heap.size = A at hD hZ ⊢
  have hA : ∀ q : Nat, s.heap.size ≤ q → A q := fun q h => by rw [← hAe]; exact Or.inr h
  have hS : va_S A s.heap s.heap [] := va_S.rf
  have hP : va_P G classes [(hd, .inr (0, [.ref us, .ref op, .int (nI n), .int ck])), (us, .inl ((ct 3), 8, .inr (.inr (.inr (.inr fu)))))] s.heap := hP
  have hl := lv_entry ([.ref hd, .int (nI k), .int wy, .long se]) (n := 6) (Nat.le_of_ble_eq_true rfl)
  rw [lg_entry_eq]
  generalize (lg_sl ([.ref hd, .int (nI k), .int wy, .long se]) ++ List.replicate (6 - (lg_sl ([.ref hd, .int (nI k), .int wy, .long se])).length) Slot.unset).toArray = ls at hl ⊢
  have hl : lv_has ls 6 [(0, .ref hd), (1, .int (nI k)), (2, .int wy), (3, .long se)] := hl
  refine lv_aload_n hx hb d_D_server_0 rfl (lv_at hl 0 rfl) ?_
  refine lv_iload_n hx hb d_D_server_1 rfl (lv_at hl 1 rfl) ?_
  have hPc : va_P G classes [(hd, .inr (0, [.ref us, .ref op, .int (nI n), .int ck])), (us, .inl ((ct 3), 8, .inr (.inr (.inr (.inr fu)))))] s.heap := hP.sub [0, 1] rfl
  have hDc := hD.sub (ws' := [(hd, .inr (0, [.ref us, .ref op, .int (nI n), .int ck])), (us, .inl ((ct 3), 8, .inr (.inr (.inr (.inr fu)))))]) [0, 1] (by decide) rfl
  refine va_csq (W.runV (As := [.int (nI k)]) (rest := []) ⟨hx, hb, hml, hown, hts⟩ (c_D_findUser1 l G ct s.heap.size hd us op n ck fu hu k hk hfu) (tb_V hw cy_D_findUser ww_85 ww_87 wp_D_findUser rfl rfl ⟨Nat.le_of_ble_eq_true rfl, Nat.le_of_ble_eq_true rfl⟩) (wk_preV (ci := 0) (q0 := 0) hPc hK hDc rfl rfl) rfl rfl hl.1 rfl (lv_room (Nat.le_of_ble_eq_true rfl)) d_D_server_2 ⟨Nat.le_of_ble_eq_true rfl, Nat.le_of_ble_eq_true rfl⟩) (fun r863 er863 => ?_)
  subst er863
  refine tp_v (y := .ref hu) rfl ?_
  refine lv_astore (lv' := [(5, .ref hu), (0, .ref hd), (1, .int (nI k)), (2, .int wy), (3, .long se)]) hx hb d_D_server_5 hl (Nat.le_of_ble_eq_true rfl) rfl (fun ls hl => ?_)
  refine lv_aload hx hb d_D_server_7 (lv_at hl 0 rfl) ?_
  refine lv_ifnull hx hb d_D_server_9 ?_
  refine lv_iload_n hx hb d_D_server_12 rfl (lv_at hl 3 rfl) ?_
  refine vp_callSi (W.runS (As := [.int wy]) (rest := []) ⟨hx, hb, hml, hown, hts⟩ (c_D_isWay l wy) (tb_S hw cy_D_isWay ww_89 ww_90 rfl rfl ⟨Nat.le_of_ble_eq_true rfl, Nat.le_of_ble_eq_true rfl⟩) preEq rfl rfl hl.1 rfl (lv_room (Nat.le_of_ble_eq_true rfl)) d_D_server_13 ⟨Nat.le_of_ble_eq_true rfl, Nat.le_of_ble_eq_true rfl⟩) (fun r864 er864 => ?_)
  subst er864
  refine tp_i (if_neg hwi) ?_
  refine lv_if_ne (tgt := 29) hx hb d_D_server_16 (by decide) (fun h865 => ?_) (fun h865 => ?_)
  · exact absurd h865 (by decide)
  · obtain ⟨sa, hstr⟩ := hR _ (List.mem_of_getElem? (l := st_tx) (i := 0) rfl)
    exact th_throw (own := "PakeDesk") (cls := "java/lang/IllegalArgumentException") (names := ["java/lang/RuntimeException", "java/lang/Exception"]) hx hb hlocks (st_out B _) (hl.1.trans hml.symm) htr hown (by decide) (by decide) (hw _ ww_192) (hw _ ww_193) (hw _ ww_9) (st_hat hw hK.2 hZ hS ow_IA) hstr d_D_server_19 d_D_server_22 d_D_server_23 d_D_server_25 d_D_server_28 (Nat.le_of_ble_eq_true rfl) (Nat.le_of_ble_eq_true rfl) (Nat.le_of_ble_eq_true rfl) (Nat.le_of_ble_eq_true rfl) hS.2.2 (wk_T.of hP hD hS)
set_option maxHeartbeats 4000000 in
set_option maxRecDepth 100000 in
theorem c_D_server2 (l : Launch) (hfl : l.flags = pinnedFlags ++ [noTraceFlag]) (G : va_G) (ct : Nat → ClassId) (sz : Nat) (hd : Nat) (us : Nat) (op : Nat) (n : Nat) (ck : Int32) (fu : Nat → Option Nat) (hu : Nat) (k : Nat) (wy : Int32) (se : Int64) (hk : k < 8) (hfu : fu k = some hu) (hwi : wy_in wy) (hn : ¬ nI n < 40) : tm_Met l my_D_server (tb_w my_D_server mb_D_server 6 (some .int)) ({ frames := 6, cells := 1, slots := 6, locals := 82 }) (wk_P4 [.ref hd, .int (nI k), .int wy, .long se] G ct [(hd, .inr (0, [.ref us, .ref op, .int (nI n), .int ck])), (us, .inl ((ct 3), 8, .inr (.inr (.inr (.inr fu)))))] sz) (wk_T "java/lang/IllegalStateException" [(hd, .inr (0, [.ref us, .ref op, .int (nI n), .int ck])), (us, .inl ((ct 3), 8, .inr (.inr (.inr (.inr fu)))))] G (va_A [(hd, .inr (0, [.ref us, .ref op, .int (nI n), .int ck])), (us, .inl ((ct 3), 8, .inr (.inr (.inr (.inr fu)))))] sz)) 1 6 (va_A [(hd, .inr (0, [.ref us, .ref op, .int (nI n), .int ck])), (us, .inl ((ct 3), 8, .inr (.inr (.inr (.inr fu)))))] sz) := by
  refine tm_ofW (cc := mb_D_server) (maxL := 6) (ret := (some .int)) (by decide) rfl ?_
  intro p e s m args below meth c s₁ B hml hv
  obtain ⟨⟨⟨rfl, hsz, hP, hK, hD0⟩, hZ⟩, hR⟩ := hv
  have htr := Launch.traces_off hfl B.admits
  have hx := B.exec
  have hb := B.bytes
  have hr := B.returns
  have hts := atoms_spec (ws := tb_w my_D_server mb_D_server 6 (some .int)) B.pre
  have hw : ∀ w ∈ gt_tbl, w.before [.ref hd, .int (nI k), .int wy, .long se].toArray s = true := fun w h => hts w (List.mem_cons_of_mem _ h)
  have hown : s.vm.findClass cr_D = some m.cls := findClass_of_methodNamed B.named
  have hlocks := B.notSynchronized
  subst hsz
  have hD := hD0.self (sz := s.heap.size)
  generalize hAe : va_A [(hd, .inr (0, [.ref us, .ref op, .int (nI n), .int ck])), (us, .inl ((ct 3), 8, .inr (.inr (.inr (.inr fu)))))] s.heap.size = A at hD hZ ⊢
  have hA : ∀ q : Nat, s.heap.size ≤ q → A q := fun q h => by rw [← hAe]; exact Or.inr h
  have hS : va_S A s.heap s.heap [] := va_S.rf
  have hP : va_P G classes [(hd, .inr (0, [.ref us, .ref op, .int (nI n), .int ck])), (us, .inl ((ct 3), 8, .inr (.inr (.inr (.inr fu)))))] s.heap := hP
  have hl := lv_entry ([.ref hd, .int (nI k), .int wy, .long se]) (n := 6) (Nat.le_of_ble_eq_true rfl)
  rw [lg_entry_eq]
  generalize (lg_sl ([.ref hd, .int (nI k), .int wy, .long se]) ++ List.replicate (6 - (lg_sl ([.ref hd, .int (nI k), .int wy, .long se])).length) Slot.unset).toArray = ls at hl ⊢
  have hl : lv_has ls 6 [(0, .ref hd), (1, .int (nI k)), (2, .int wy), (3, .long se)] := hl
  refine lv_aload_n hx hb d_D_server_0 rfl (lv_at hl 0 rfl) ?_
  refine lv_iload_n hx hb d_D_server_1 rfl (lv_at hl 1 rfl) ?_
  have hPc : va_P G classes [(hd, .inr (0, [.ref us, .ref op, .int (nI n), .int ck])), (us, .inl ((ct 3), 8, .inr (.inr (.inr (.inr fu)))))] s.heap := hP.sub [0, 1] rfl
  have hDc := hD.sub (ws' := [(hd, .inr (0, [.ref us, .ref op, .int (nI n), .int ck])), (us, .inl ((ct 3), 8, .inr (.inr (.inr (.inr fu)))))]) [0, 1] (by decide) rfl
  refine va_csq (W.runV (As := [.int (nI k)]) (rest := []) ⟨hx, hb, hml, hown, hts⟩ (c_D_findUser1 l G ct s.heap.size hd us op n ck fu hu k hk hfu) (tb_V hw cy_D_findUser ww_85 ww_87 wp_D_findUser rfl rfl ⟨Nat.le_of_ble_eq_true rfl, Nat.le_of_ble_eq_true rfl⟩) (wk_preV (ci := 0) (q0 := 0) hPc hK hDc rfl rfl) rfl rfl hl.1 rfl (lv_room (Nat.le_of_ble_eq_true rfl)) d_D_server_2 ⟨Nat.le_of_ble_eq_true rfl, Nat.le_of_ble_eq_true rfl⟩) (fun r866 er866 => ?_)
  subst er866
  refine tp_v (y := .ref hu) rfl ?_
  refine lv_astore (lv' := [(5, .ref hu), (0, .ref hd), (1, .int (nI k)), (2, .int wy), (3, .long se)]) hx hb d_D_server_5 hl (Nat.le_of_ble_eq_true rfl) rfl (fun ls hl => ?_)
  refine lv_aload hx hb d_D_server_7 (lv_at hl 0 rfl) ?_
  refine lv_ifnull hx hb d_D_server_9 ?_
  refine lv_iload_n hx hb d_D_server_12 rfl (lv_at hl 3 rfl) ?_
  refine vp_callSi (W.runS (As := [.int wy]) (rest := []) ⟨hx, hb, hml, hown, hts⟩ (c_D_isWay l wy) (tb_S hw cy_D_isWay ww_89 ww_90 rfl rfl ⟨Nat.le_of_ble_eq_true rfl, Nat.le_of_ble_eq_true rfl⟩) preEq rfl rfl hl.1 rfl (lv_room (Nat.le_of_ble_eq_true rfl)) d_D_server_13 ⟨Nat.le_of_ble_eq_true rfl, Nat.le_of_ble_eq_true rfl⟩) (fun r867 er867 => ?_)
  subst er867
  refine tp_i (if_pos hwi) ?_
  refine lv_if_ne (tgt := 29) hx hb d_D_server_16 (by decide) (fun h868 => ?_) (fun h868 => ?_)
  · refine lv_aload_n hx hb d_D_server_29 rfl (lv_at hl 1 rfl) ?_
    refine va_get (D := G) (ci := 0) (v := .int (nI n)) (C := cr_D) (T := cf_D) (N := 4) hx hb hw uw_D hown hK.1 hP 0 rfl rfl 2 (by decide) (hw _ ww_70) (fun _ h9 => h9) rfl d_D_server_30 ?_
    refine lv_bipush (v := 40) hx hb d_D_server_33 (by decide) ?_
    refine lv_icmp_lt (tgt := 48) hx hb d_D_server_35 (by decide) (fun h869 => ?_) (fun h869 => ?_)
    · exact absurd h869 hn
    · obtain ⟨sa, hstr⟩ := hR _ (List.mem_of_getElem? (l := st_tx) (i := 1) rfl)
      exact th_throw (own := "PakeDesk") (cls := "java/lang/IllegalStateException") (names := ["java/lang/RuntimeException", "java/lang/Exception"]) hx hb hlocks (st_out B _) (hl.1.trans hml.symm) htr hown (by decide) (by decide) (hw _ ww_261) (hw _ ww_262) (hw _ ww_10) (st_hat hw hK.2 hZ hS ow_IS) hstr d_D_server_38 d_D_server_41 d_D_server_42 d_D_server_44 d_D_server_47 (Nat.le_of_ble_eq_true rfl) (Nat.le_of_ble_eq_true rfl) (Nat.le_of_ble_eq_true rfl) (Nat.le_of_ble_eq_true rfl) hS.2.2 (wk_T.of hP hD hS)
  · exact absurd h868 (by decide)
set_option maxHeartbeats 4000000 in
set_option maxRecDepth 100000 in
theorem c_D_server3 (l : Launch) (hfl : l.flags = pinnedFlags ++ [noTraceFlag]) (G : va_G) (ct : Nat → ClassId) (sz : Nat) (hd : Nat) (us : Nat) (op : Nat) (n : Nat) (ck : Int32) (fu : Nat → Option Nat) (hu : Nat) (k : Nat) (nb : Int32) (sd : Int32) (uw : Int32) (uo : Nat) (ul : Int64) (uv : Nat) (uf : Int32) (u1 : Int32) (u2 : Int32) (u3 : Int32) (wy : Int32) (se : Int64) (hk : k < 8) (hfu : fu k = some hu) (hwi : wy_in wy) (hn : nI n < 40) (hbl : us_bl uf u3 ck) : tm_Met l my_D_server (tb_w my_D_server mb_D_server 6 (some .int)) ({ frames := 6, cells := 1, slots := 6, locals := 82 }) (wk_P4 [.ref hd, .int (nI k), .int wy, .long se] G ct [(hd, .inr (0, [.ref us, .ref op, .int (nI n), .int ck])), (us, .inl ((ct 3), 8, .inr (.inr (.inr (.inr fu))))), (hu, .inr (1, [.int nb, .int sd, .int uw, .long (lN uo), .long ul, .long (lN uv), .int uf, .int u1, .int u2, .int u3]))] sz) (wk_T "java/lang/IllegalStateException" [(hd, .inr (0, [.ref us, .ref op, .int (nI n), .int ck])), (us, .inl ((ct 3), 8, .inr (.inr (.inr (.inr fu))))), (hu, .inr (1, [.int nb, .int sd, .int uw, .long (lN uo), .long ul, .long (lN uv), .int uf, .int u1, .int u2, .int u3]))] G (va_A [(hd, .inr (0, [.ref us, .ref op, .int (nI n), .int ck])), (us, .inl ((ct 3), 8, .inr (.inr (.inr (.inr fu))))), (hu, .inr (1, [.int nb, .int sd, .int uw, .long (lN uo), .long ul, .long (lN uv), .int uf, .int u1, .int u2, .int u3]))] sz)) 1 6 (va_A [(hd, .inr (0, [.ref us, .ref op, .int (nI n), .int ck])), (us, .inl ((ct 3), 8, .inr (.inr (.inr (.inr fu))))), (hu, .inr (1, [.int nb, .int sd, .int uw, .long (lN uo), .long ul, .long (lN uv), .int uf, .int u1, .int u2, .int u3]))] sz) := by
  refine tm_ofW (cc := mb_D_server) (maxL := 6) (ret := (some .int)) (by decide) rfl ?_
  intro p e s m args below meth c s₁ B hml hv
  obtain ⟨⟨⟨rfl, hsz, hP, hK, hD0⟩, hZ⟩, hR⟩ := hv
  have htr := Launch.traces_off hfl B.admits
  have hx := B.exec
  have hb := B.bytes
  have hr := B.returns
  have hts := atoms_spec (ws := tb_w my_D_server mb_D_server 6 (some .int)) B.pre
  have hw : ∀ w ∈ gt_tbl, w.before [.ref hd, .int (nI k), .int wy, .long se].toArray s = true := fun w h => hts w (List.mem_cons_of_mem _ h)
  have hown : s.vm.findClass cr_D = some m.cls := findClass_of_methodNamed B.named
  have hlocks := B.notSynchronized
  subst hsz
  have hD := hD0.self (sz := s.heap.size)
  generalize hAe : va_A [(hd, .inr (0, [.ref us, .ref op, .int (nI n), .int ck])), (us, .inl ((ct 3), 8, .inr (.inr (.inr (.inr fu))))), (hu, .inr (1, [.int nb, .int sd, .int uw, .long (lN uo), .long ul, .long (lN uv), .int uf, .int u1, .int u2, .int u3]))] s.heap.size = A at hD hZ ⊢
  have hA : ∀ q : Nat, s.heap.size ≤ q → A q := fun q h => by rw [← hAe]; exact Or.inr h
  have hS : va_S A s.heap s.heap [] := va_S.rf
  have hP : va_P G classes [(hd, .inr (0, [.ref us, .ref op, .int (nI n), .int ck])), (us, .inl ((ct 3), 8, .inr (.inr (.inr (.inr fu))))), (hu, .inr (1, [.int nb, .int sd, .int uw, .long (lN uo), .long ul, .long (lN uv), .int uf, .int u1, .int u2, .int u3]))] s.heap := hP
  have hl := lv_entry ([.ref hd, .int (nI k), .int wy, .long se]) (n := 6) (Nat.le_of_ble_eq_true rfl)
  rw [lg_entry_eq]
  generalize (lg_sl ([.ref hd, .int (nI k), .int wy, .long se]) ++ List.replicate (6 - (lg_sl ([.ref hd, .int (nI k), .int wy, .long se])).length) Slot.unset).toArray = ls at hl ⊢
  have hl : lv_has ls 6 [(0, .ref hd), (1, .int (nI k)), (2, .int wy), (3, .long se)] := hl
  refine lv_aload_n hx hb d_D_server_0 rfl (lv_at hl 0 rfl) ?_
  refine lv_iload_n hx hb d_D_server_1 rfl (lv_at hl 1 rfl) ?_
  have hPc : va_P G classes [(hd, .inr (0, [.ref us, .ref op, .int (nI n), .int ck])), (us, .inl ((ct 3), 8, .inr (.inr (.inr (.inr fu)))))] s.heap := hP.sub [0, 1] rfl
  have hDc := hD.sub (ws' := [(hd, .inr (0, [.ref us, .ref op, .int (nI n), .int ck])), (us, .inl ((ct 3), 8, .inr (.inr (.inr (.inr fu)))))]) [0, 1] (by decide) rfl
  refine va_csq (W.runV (As := [.int (nI k)]) (rest := []) ⟨hx, hb, hml, hown, hts⟩ (c_D_findUser1 l G ct s.heap.size hd us op n ck fu hu k hk hfu) (tb_V hw cy_D_findUser ww_85 ww_87 wp_D_findUser rfl rfl ⟨Nat.le_of_ble_eq_true rfl, Nat.le_of_ble_eq_true rfl⟩) (wk_preV (ci := 0) (q0 := 0) hPc hK hDc rfl rfl) rfl rfl hl.1 rfl (lv_room (Nat.le_of_ble_eq_true rfl)) d_D_server_2 ⟨Nat.le_of_ble_eq_true rfl, Nat.le_of_ble_eq_true rfl⟩) (fun r870 er870 => ?_)
  subst er870
  refine tp_v (y := .ref hu) rfl ?_
  refine lv_astore (lv' := [(5, .ref hu), (0, .ref hd), (1, .int (nI k)), (2, .int wy), (3, .long se)]) hx hb d_D_server_5 hl (Nat.le_of_ble_eq_true rfl) rfl (fun ls hl => ?_)
  refine lv_aload hx hb d_D_server_7 (lv_at hl 0 rfl) ?_
  refine lv_ifnull hx hb d_D_server_9 ?_
  refine lv_iload_n hx hb d_D_server_12 rfl (lv_at hl 3 rfl) ?_
  refine vp_callSi (W.runS (As := [.int wy]) (rest := []) ⟨hx, hb, hml, hown, hts⟩ (c_D_isWay l wy) (tb_S hw cy_D_isWay ww_89 ww_90 rfl rfl ⟨Nat.le_of_ble_eq_true rfl, Nat.le_of_ble_eq_true rfl⟩) preEq rfl rfl hl.1 rfl (lv_room (Nat.le_of_ble_eq_true rfl)) d_D_server_13 ⟨Nat.le_of_ble_eq_true rfl, Nat.le_of_ble_eq_true rfl⟩) (fun r871 er871 => ?_)
  subst er871
  refine tp_i (if_pos hwi) ?_
  refine lv_if_ne (tgt := 29) hx hb d_D_server_16 (by decide) (fun h872 => ?_) (fun h872 => ?_)
  · refine lv_aload_n hx hb d_D_server_29 rfl (lv_at hl 1 rfl) ?_
    refine va_get (D := G) (ci := 0) (v := .int (nI n)) (C := cr_D) (T := cf_D) (N := 4) hx hb hw uw_D hown hK.1 hP 0 rfl rfl 2 (by decide) (hw _ ww_70) (fun _ h9 => h9) rfl d_D_server_30 ?_
    refine lv_bipush (v := 40) hx hb d_D_server_33 (by decide) ?_
    refine lv_icmp_lt (tgt := 48) hx hb d_D_server_35 (by decide) (fun h873 => ?_) (fun h873 => ?_)
    · refine lv_aload hx hb d_D_server_48 (lv_at hl 0 rfl) ?_
      refine lv_aload_n hx hb d_D_server_50 rfl (lv_at hl 1 rfl) ?_
      refine va_get (D := G) (ci := 0) (v := .int ck) (C := cr_D) (T := cf_D) (N := 4) hx hb hw uw_D hown hK.1 hP 0 rfl rfl 3 (by decide) (hw _ ww_71) (fun _ h9 => h9) rfl d_D_server_51 ?_
      have hPc : va_P G classes [(hu, .inr (1, [.int nb, .int sd, .int uw, .long (lN uo), .long ul, .long (lN uv), .int uf, .int u1, .int u2, .int u3]))] s.heap := hP.sub [2] rfl
      have hDc := hD.sub (ws' := [(hu, .inr (1, [.int nb, .int sd, .int uw, .long (lN uo), .long ul, .long (lN uv), .int uf, .int u1, .int u2, .int u3]))]) [2] (by decide) rfl
      refine vp_callSi (W.runV (As := [.int ck]) (rest := []) ⟨hx, hb, hml, hown, hts⟩ (c_U_isBlockedAt l G ct s.heap.size hu nb sd uw uo ul uv uf u1 u2 u3 ck) (tb_V hw cy_U_isBlockedAt ww_172 ww_173 ww_174 rfl rfl ⟨Nat.le_of_ble_eq_true rfl, Nat.le_of_ble_eq_true rfl⟩) (wk_preV (ci := 1) (q0 := 0) hPc hK hDc rfl rfl) rfl rfl hl.1 rfl (lv_room (Nat.le_of_ble_eq_true rfl)) d_D_server_54 ⟨Nat.le_of_ble_eq_true rfl, Nat.le_of_ble_eq_true rfl⟩) (fun r874 er874 => ?_)
      subst er874
      refine tp_i (if_pos hbl) ?_
      refine lv_if_eq (tgt := 70) hx hb d_D_server_57 (by decide) (fun h875 => ?_) (fun h875 => ?_)
      · exact absurd h875 (by decide)
      · obtain ⟨sa, hstr⟩ := hR _ (List.mem_of_getElem? (l := st_tx) (i := 2) rfl)
        exact th_throw (own := "PakeDesk") (cls := "java/lang/IllegalStateException") (names := ["java/lang/RuntimeException", "java/lang/Exception"]) hx hb hlocks (st_out B _) (hl.1.trans hml.symm) htr hown (by decide) (by decide) (hw _ ww_261) (hw _ ww_262) (hw _ ww_10) (st_hat hw hK.2 hZ hS ow_IS) hstr d_D_server_60 d_D_server_63 d_D_server_64 d_D_server_66 d_D_server_69 (Nat.le_of_ble_eq_true rfl) (Nat.le_of_ble_eq_true rfl) (Nat.le_of_ble_eq_true rfl) (Nat.le_of_ble_eq_true rfl) hS.2.2 (wk_T.of hP hD hS)
    · exact absurd hn h873
  · exact absurd h872 (by decide)
set_option maxHeartbeats 4000000 in
set_option maxRecDepth 100000 in
theorem c_D_key2C (l : Launch) (hfl : l.flags = pinnedFlags ++ [noTraceFlag]) (G : va_G) (ct : Nat → ClassId) (sz : Nat) (hd : Nat) (us : Nat) (op : Nat) (n : Nat) (ck : Int32) (fo : Nat → Option Nat) (k : Nat) (h0 : Nat) (hu : Nat) (wy : Int32) (sec : Nat) (bg : Int32) (st : Int32) (x : Nat) (y : Nat) (ky : Int64) (c1 : Int64) (c2 : Int64) (ms : Int64) (pw : Int64) (rc : Nat) (hn : n ≤ 40) (hkn : k < n) (hfo : fo k = some h0) (hst : ¬ st = 2) : tm_Met l my_D_key (tb_w my_D_key mb_D_key 3 (some .long)) ({ frames := 6, cells := 1, slots := 6, locals := 82 }) (wk_P4 [.ref hd, .int (nI k)] G ct [(hd, .inr (0, [.ref us, .ref op, .int (nI n), .int ck])), (op, .inl ((ct 4), 40, .inr (.inr (.inr (.inr fo))))), (h0, .inr (2, [.ref hu, .int wy, .long (lN sec), .int bg, .int st, .long (lN x), .long (lN y), .long ky, .long c1, .long c2, .long ms, .long pw, .long (lN rc)]))] sz) (wk_T "java/lang/IllegalStateException" [(hd, .inr (0, [.ref us, .ref op, .int (nI n), .int ck])), (op, .inl ((ct 4), 40, .inr (.inr (.inr (.inr fo))))), (h0, .inr (2, [.ref hu, .int wy, .long (lN sec), .int bg, .int st, .long (lN x), .long (lN y), .long ky, .long c1, .long c2, .long ms, .long pw, .long (lN rc)]))] G (va_A [(hd, .inr (0, [.ref us, .ref op, .int (nI n), .int ck])), (op, .inl ((ct 4), 40, .inr (.inr (.inr (.inr fo))))), (h0, .inr (2, [.ref hu, .int wy, .long (lN sec), .int bg, .int st, .long (lN x), .long (lN y), .long ky, .long c1, .long c2, .long ms, .long pw, .long (lN rc)]))] sz)) 1 6 (va_A [(hd, .inr (0, [.ref us, .ref op, .int (nI n), .int ck])), (op, .inl ((ct 4), 40, .inr (.inr (.inr (.inr fo))))), (h0, .inr (2, [.ref hu, .int wy, .long (lN sec), .int bg, .int st, .long (lN x), .long (lN y), .long ky, .long c1, .long c2, .long ms, .long pw, .long (lN rc)]))] sz) := by
  refine tm_ofW (cc := mb_D_key) (maxL := 3) (ret := (some .long)) (by decide) rfl ?_
  intro p e s m args below meth c s₁ B hml hv
  obtain ⟨⟨⟨rfl, hsz, hP, hK, hD0⟩, hZ⟩, hR⟩ := hv
  have htr := Launch.traces_off hfl B.admits
  have hx := B.exec
  have hb := B.bytes
  have hr := B.returns
  have hts := atoms_spec (ws := tb_w my_D_key mb_D_key 3 (some .long)) B.pre
  have hw : ∀ w ∈ gt_tbl, w.before [.ref hd, .int (nI k)].toArray s = true := fun w h => hts w (List.mem_cons_of_mem _ h)
  have hown : s.vm.findClass cr_D = some m.cls := findClass_of_methodNamed B.named
  have hlocks := B.notSynchronized
  subst hsz
  have hD := hD0.self (sz := s.heap.size)
  generalize hAe : va_A [(hd, .inr (0, [.ref us, .ref op, .int (nI n), .int ck])), (op, .inl ((ct 4), 40, .inr (.inr (.inr (.inr fo))))), (h0, .inr (2, [.ref hu, .int wy, .long (lN sec), .int bg, .int st, .long (lN x), .long (lN y), .long ky, .long c1, .long c2, .long ms, .long pw, .long (lN rc)]))] s.heap.size = A at hD hZ ⊢
  have hA : ∀ q : Nat, s.heap.size ≤ q → A q := fun q h => by rw [← hAe]; exact Or.inr h
  have hS : va_S A s.heap s.heap [] := va_S.rf
  have hP : va_P G classes [(hd, .inr (0, [.ref us, .ref op, .int (nI n), .int ck])), (op, .inl ((ct 4), 40, .inr (.inr (.inr (.inr fo))))), (h0, .inr (2, [.ref hu, .int wy, .long (lN sec), .int bg, .int st, .long (lN x), .long (lN y), .long ky, .long c1, .long c2, .long ms, .long pw, .long (lN rc)]))] s.heap := hP
  have hl := lv_entry ([.ref hd, .int (nI k)]) (n := 3) (Nat.le_of_ble_eq_true rfl)
  rw [lg_entry_eq]
  generalize (lg_sl ([.ref hd, .int (nI k)]) ++ List.replicate (3 - (lg_sl ([.ref hd, .int (nI k)])).length) Slot.unset).toArray = ls at hl ⊢
  have hl : lv_has ls 3 [(0, .ref hd), (1, .int (nI k))] := hl
  refine lv_aload_n hx hb d_D_key_0 rfl (lv_at hl 0 rfl) ?_
  refine lv_iload_n hx hb d_D_key_1 rfl (lv_at hl 1 rfl) ?_
  have hPc : va_P G classes [(hd, .inr (0, [.ref us, .ref op, .int (nI n), .int ck])), (op, .inl ((ct 4), 40, .inr (.inr (.inr (.inr fo)))))] s.heap := hP.sub [0, 1] rfl
  have hDc := hD.sub (ws' := [(hd, .inr (0, [.ref us, .ref op, .int (nI n), .int ck])), (op, .inl ((ct 4), 40, .inr (.inr (.inr (.inr fo)))))]) [0, 1] (by decide) rfl
  refine va_csq (W.runV (As := [.int (nI k)]) (rest := []) ⟨hx, hb, hml, hown, hts⟩ (c_D_findSession1 l G ct s.heap.size hd us op n ck fo h0 k hn hkn hfo) (tb_V hw cy_D_findSession ww_154 ww_156 wp_D_findSession rfl rfl ⟨Nat.le_of_ble_eq_true rfl, Nat.le_of_ble_eq_true rfl⟩) (wk_preV (ci := 0) (q0 := 0) hPc hK hDc rfl rfl) rfl rfl hl.1 rfl (lv_room (Nat.le_of_ble_eq_true rfl)) d_D_key_2 ⟨Nat.le_of_ble_eq_true rfl, Nat.le_of_ble_eq_true rfl⟩) (fun r876 er876 => ?_)
  subst er876
  refine tp_v (y := .ref h0) rfl ?_
  refine lv_astore_n (lv' := [(2, .ref h0), (0, .ref hd), (1, .int (nI k))]) hx hb d_D_key_5 rfl hl (Nat.le_of_ble_eq_true rfl) rfl (fun ls hl => ?_)
  refine lv_aload_n hx hb d_D_key_6 rfl (lv_at hl 0 rfl) ?_
  refine lv_ifnonnull (tgt := 20) hx hb d_D_key_7 (by decide) ?_
  refine lv_aload_n hx hb d_D_key_20 rfl (lv_at hl 0 rfl) ?_
  refine va_get (D := G) (ci := 2) (v := .int st) (C := cr_C) (T := cf_C) (N := 13) hx hb hw uw_C hown hK.1 hP 2 rfl rfl 4 (by decide) (hw _ ww_313) (fun _ h9 => h9) rfl d_D_key_21 ?_
  refine lv_iconst (v := 2) hx hb d_D_key_24 (by decide) ?_
  refine lv_icmp_eq (tgt := 38) hx hb d_D_key_25 (by decide) (fun h877 => ?_) (fun h877 => ?_)
  · exact absurd h877 hst
  · obtain ⟨sa, hstr⟩ := hR _ (List.mem_of_getElem? (l := st_tx) (i := 7) rfl)
    exact th_throw (own := "PakeDesk") (cls := "java/lang/IllegalStateException") (names := ["java/lang/RuntimeException", "java/lang/Exception"]) hx hb hlocks (st_out B _) (hl.1.trans hml.symm) htr hown (by decide) (by decide) (hw _ ww_261) (hw _ ww_262) (hw _ ww_10) (st_hat hw hK.2 hZ hS ow_IS) hstr d_D_key_28 d_D_key_31 d_D_key_32 d_D_key_34 d_D_key_37 (Nat.le_of_ble_eq_true rfl) (Nat.le_of_ble_eq_true rfl) (Nat.le_of_ble_eq_true rfl) (Nat.le_of_ble_eq_true rfl) hS.2.2 (wk_T.of hP hD hS)
set_option maxHeartbeats 4000000 in
set_option maxRecDepth 100000 in
theorem c_D_deliver_XC (l : Launch) (hfl : l.flags = pinnedFlags ++ [noTraceFlag]) (G : va_G) (ct : Nat → ClassId) (sz : Nat) (hd : Nat) (us : Nat) (op : Nat) (n : Nat) (ck : Int32) (fo : Nat → Option Nat) (k : Nat) (h0 : Nat) (hu : Nat) (wy : Int32) (sec : Nat) (bg : Int32) (st : Int32) (x : Nat) (y : Nat) (ky : Int64) (c1 : Int64) (c2 : Int64) (ms : Int64) (pw : Int64) (rc : Nat) (nb : Int32) (sd : Int32) (uw : Int32) (uo : Nat) (ul : Int64) (uv : Nat) (uf : Int32) (u1 : Int32) (u2 : Int32) (u3 : Int32) (a : Int64) (hn : n ≤ 40) (hkn : k < n) (hfo : fo k = some h0) (hst : se_at st bg ck = 0) (hs1 : sec < pq_Q) (hr0 : 1 ≤ rc) (hr1 : rc < pq_Q) (hrt : ¬ rt_c wy rc a) : tm_Met l my_D_deliver (tb_w my_D_deliver mb_D_deliver 6 (some .int)) ({ frames := 6, cells := 1, slots := 6, locals := 118 }) (wk_P4 [.ref hd, .int (nI k), .long a] G ct [(hd, .inr (0, [.ref us, .ref op, .int (nI n), .int ck])), (op, .inl ((ct 4), 40, .inr (.inr (.inr (.inr fo))))), (h0, .inr (2, [.ref hu, .int wy, .long (lN sec), .int bg, .int st, .long (lN x), .long (lN y), .long ky, .long c1, .long c2, .long ms, .long pw, .long (lN rc)])), (hu, .inr (1, [.int nb, .int sd, .int uw, .long (lN uo), .long ul, .long (lN uv), .int uf, .int u1, .int u2, .int u3]))] sz) (wk_T "java/lang/IllegalArgumentException" [(hd, .inr (0, [.ref us, .ref op, .int (nI n), .int ck])), (op, .inl ((ct 4), 40, .inr (.inr (.inr (.inr fo))))), (h0, .inr (2, [.ref hu, .int wy, .long (lN sec), .int bg, .int 3, .long (lN x), .long (lN y), .long ky, .long c1, .long c2, .long ms, .long pw, .long (lN rc)])), (hu, .inr (1, [.int nb, .int sd, .int uw, .long (lN uo), .long ul, .long (lN uv), .int uf, .int u1, .int u2, .int u3]))] G (va_A [(hd, .inr (0, [.ref us, .ref op, .int (nI n), .int ck])), (op, .inl ((ct 4), 40, .inr (.inr (.inr (.inr fo))))), (h0, .inr (2, [.ref hu, .int wy, .long (lN sec), .int bg, .int st, .long (lN x), .long (lN y), .long ky, .long c1, .long c2, .long ms, .long pw, .long (lN rc)])), (hu, .inr (1, [.int nb, .int sd, .int uw, .long (lN uo), .long ul, .long (lN uv), .int uf, .int u1, .int u2, .int u3]))] sz)) 1 6 (va_A [(hd, .inr (0, [.ref us, .ref op, .int (nI n), .int ck])), (op, .inl ((ct 4), 40, .inr (.inr (.inr (.inr fo))))), (h0, .inr (2, [.ref hu, .int wy, .long (lN sec), .int bg, .int st, .long (lN x), .long (lN y), .long ky, .long c1, .long c2, .long ms, .long pw, .long (lN rc)])), (hu, .inr (1, [.int nb, .int sd, .int uw, .long (lN uo), .long ul, .long (lN uv), .int uf, .int u1, .int u2, .int u3]))] sz) := by
  refine tm_ofW (cc := mb_D_deliver) (maxL := 6) (ret := (some .int)) (by decide) rfl ?_
  intro p e s m args below meth c s₁ B hml hv
  obtain ⟨⟨⟨rfl, hsz, hP, hK, hD0⟩, hZ⟩, hR⟩ := hv
  have htr := Launch.traces_off hfl B.admits
  have hx := B.exec
  have hb := B.bytes
  have hr := B.returns
  have hts := atoms_spec (ws := tb_w my_D_deliver mb_D_deliver 6 (some .int)) B.pre
  have hw : ∀ w ∈ gt_tbl, w.before [.ref hd, .int (nI k), .long a].toArray s = true := fun w h => hts w (List.mem_cons_of_mem _ h)
  have hown : s.vm.findClass cr_D = some m.cls := findClass_of_methodNamed B.named
  have hlocks := B.notSynchronized
  subst hsz
  have hD := hD0.self (sz := s.heap.size)
  generalize hAe : va_A [(hd, .inr (0, [.ref us, .ref op, .int (nI n), .int ck])), (op, .inl ((ct 4), 40, .inr (.inr (.inr (.inr fo))))), (h0, .inr (2, [.ref hu, .int wy, .long (lN sec), .int bg, .int st, .long (lN x), .long (lN y), .long ky, .long c1, .long c2, .long ms, .long pw, .long (lN rc)])), (hu, .inr (1, [.int nb, .int sd, .int uw, .long (lN uo), .long ul, .long (lN uv), .int uf, .int u1, .int u2, .int u3]))] s.heap.size = A at hD hZ ⊢
  have hA : ∀ q : Nat, s.heap.size ≤ q → A q := fun q h => by rw [← hAe]; exact Or.inr h
  have hS : va_S A s.heap s.heap [] := va_S.rf
  have hP : va_P G classes [(hd, .inr (0, [.ref us, .ref op, .int (nI n), .int ck])), (op, .inl ((ct 4), 40, .inr (.inr (.inr (.inr fo))))), (h0, .inr (2, [.ref hu, .int wy, .long (lN sec), .int bg, .int st, .long (lN x), .long (lN y), .long ky, .long c1, .long c2, .long ms, .long pw, .long (lN rc)])), (hu, .inr (1, [.int nb, .int sd, .int uw, .long (lN uo), .long ul, .long (lN uv), .int uf, .int u1, .int u2, .int u3]))] s.heap := hP
  have hl := lv_entry ([.ref hd, .int (nI k), .long a]) (n := 6) (Nat.le_of_ble_eq_true rfl)
  rw [lg_entry_eq]
  generalize (lg_sl ([.ref hd, .int (nI k), .long a]) ++ List.replicate (6 - (lg_sl ([.ref hd, .int (nI k), .long a])).length) Slot.unset).toArray = ls at hl ⊢
  have hl : lv_has ls 6 [(0, .ref hd), (1, .int (nI k)), (2, .long a)] := hl
  refine lv_aload_n hx hb d_D_deliver_0 rfl (lv_at hl 0 rfl) ?_
  refine lv_iload_n hx hb d_D_deliver_1 rfl (lv_at hl 1 rfl) ?_
  have hPc : va_P G classes [(hd, .inr (0, [.ref us, .ref op, .int (nI n), .int ck])), (op, .inl ((ct 4), 40, .inr (.inr (.inr (.inr fo)))))] s.heap := hP.sub [0, 1] rfl
  have hDc := hD.sub (ws' := [(hd, .inr (0, [.ref us, .ref op, .int (nI n), .int ck])), (op, .inl ((ct 4), 40, .inr (.inr (.inr (.inr fo)))))]) [0, 1] (by decide) rfl
  refine va_csq (W.runV (As := [.int (nI k)]) (rest := []) ⟨hx, hb, hml, hown, hts⟩ (c_D_findSession1 l G ct s.heap.size hd us op n ck fo h0 k hn hkn hfo) (tb_V hw cy_D_findSession ww_154 ww_156 wp_D_findSession rfl rfl ⟨Nat.le_of_ble_eq_true rfl, Nat.le_of_ble_eq_true rfl⟩) (wk_preV (ci := 0) (q0 := 0) hPc hK hDc rfl rfl) rfl rfl hl.1 rfl (lv_room (Nat.le_of_ble_eq_true rfl)) d_D_deliver_2 ⟨Nat.le_of_ble_eq_true rfl, Nat.le_of_ble_eq_true rfl⟩) (fun r878 er878 => ?_)
  subst er878
  refine tp_v (y := .ref h0) rfl ?_
  refine lv_astore (lv' := [(4, .ref h0), (0, .ref hd), (1, .int (nI k)), (2, .long a)]) hx hb d_D_deliver_5 hl (Nat.le_of_ble_eq_true rfl) rfl (fun ls hl => ?_)
  refine lv_aload hx hb d_D_deliver_7 (lv_at hl 0 rfl) ?_
  refine lv_ifnonnull (tgt := 22) hx hb d_D_deliver_9 (by decide) ?_
  refine lv_aload hx hb d_D_deliver_22 (lv_at hl 0 rfl) ?_
  refine lv_aload_n hx hb d_D_deliver_24 rfl (lv_at hl 1 rfl) ?_
  refine va_get (D := G) (ci := 0) (v := .int ck) (C := cr_D) (T := cf_D) (N := 4) hx hb hw uw_D hown hK.1 hP 0 rfl rfl 3 (by decide) (hw _ ww_71) (fun _ h9 => h9) rfl d_D_deliver_25 ?_
  have hPc : va_P G classes [(h0, .inr (2, [.ref hu, .int wy, .long (lN sec), .int bg, .int st, .long (lN x), .long (lN y), .long ky, .long c1, .long c2, .long ms, .long pw, .long (lN rc)]))] s.heap := hP.sub [2] rfl
  have hDc := hD.sub (ws' := [(h0, .inr (2, [.ref hu, .int wy, .long (lN sec), .int bg, .int st, .long (lN x), .long (lN y), .long ky, .long c1, .long c2, .long ms, .long pw, .long (lN rc)]))]) [2] (by decide) rfl
  refine vp_callSi (va_Run.run (va_runU (As := [.int ck]) (rest := []) ⟨hx, hb, hml, hown, hts⟩ (c_C_stateAt l G ct s.heap.size h0 hu wy sec bg st x y ky c1 c2 ms pw rc ck) (tb_U (owner := cr_S) (x := ⟨"PakeDesk$Session", "stateAt", "(I)I"⟩) hw cy_S_stateAt ww_162 ww_164 (va_Decl.of (hw _ ww_163) (hw _ ww_167)) ⟨by decide, by decide⟩ rfl ww_163 ww_165 rfl rfl ⟨Nat.le_of_ble_eq_true rfl, Nat.le_of_ble_eq_true rfl⟩) (wk_preV (ci := 2) (q0 := 0) hPc hK hDc rfl rfl) rfl rfl hl.1 rfl (lv_room (Nat.le_of_ble_eq_true rfl)) d_D_deliver_28 ⟨Nat.le_of_ble_eq_true rfl, Nat.le_of_ble_eq_true rfl⟩)) (fun r879 er879 => ?_)
  subst er879
  refine tp_i (hst) ?_
  refine lv_istore (lv' := [(5, .int 0), (4, .ref h0), (0, .ref hd), (1, .int (nI k)), (2, .long a)]) hx hb d_D_deliver_31 hl (Nat.le_of_ble_eq_true rfl) rfl (fun ls hl => ?_)
  refine lv_iload hx hb d_D_deliver_33 (lv_at hl 0 rfl) ?_
  refine lv_if_ne (tgt := 57) hx hb d_D_deliver_35 (by decide) (fun h880 => ?_) (fun h880 => ?_)
  · exact absurd h880 (by decide)
  · refine lv_aload hx hb d_D_deliver_38 (lv_at hl 1 rfl) ?_
    refine lv_lload_n hx hb d_D_deliver_40 rfl (lv_at hl 4 rfl) ?_
    have hPc : va_P G classes [(h0, .inr (2, [.ref hu, .int wy, .long (lN sec), .int bg, .int st, .long (lN x), .long (lN y), .long ky, .long c1, .long c2, .long ms, .long pw, .long (lN rc)])), (hu, .inr (1, [.int nb, .int sd, .int uw, .long (lN uo), .long ul, .long (lN uv), .int uf, .int u1, .int u2, .int u3]))] s.heap := hP.sub [2, 3] rfl
    have hDc := hD.sub (ws' := [(h0, .inr (2, [.ref hu, .int wy, .long (lN sec), .int bg, .int st, .long (lN x), .long (lN y), .long ky, .long c1, .long c2, .long ms, .long pw, .long (lN rc)])), (hu, .inr (1, [.int nb, .int sd, .int uw, .long (lN uo), .long ul, .long (lN uv), .int uf, .int u1, .int u2, .int u3]))]) [2, 3] (by decide) rfl
    refine wk_i (va_runU (As := [.long a]) (rest := []) ⟨hx, hb, hml, hown, hts⟩ (c_C_takesFirst0 l G ct s.heap.size h0 hu wy sec bg st x y ky c1 c2 ms pw rc nb sd uw uo ul uv uf u1 u2 u3 a hs1 hr0 hr1 hrt) (tb_U (owner := cr_S) (x := ⟨"PakeDesk$Session", "takesFirst", "(J)Z"⟩) hw cy_S_takesFirst ww_444 ww_446 (va_Decl.of (hw _ ww_445) (hw _ ww_449)) ⟨by decide, by decide⟩ rfl ww_445 ww_447 rfl rfl ⟨Nat.le_of_ble_eq_true rfl, Nat.le_of_ble_eq_true rfl⟩) (wk_preV (ci := 2) (q0 := 0) hPc hK hDc rfl rfl) rfl rfl hl.1 rfl (lv_room (Nat.le_of_ble_eq_true rfl)) d_D_deliver_41 ⟨Nat.le_of_ble_eq_true rfl, Nat.le_of_ble_eq_true rfl⟩) hP hD hS hA [2, 3] (by decide) rfl (fun _ => by simp only [List.map_cons, List.map_nil]) (fun _ H locs ok881 hP hD hS => ?_)
    have hP : va_P G classes [(hd, .inr (0, [.ref us, .ref op, .int (nI n), .int ck])), (op, .inl ((ct 4), 40, .inr (.inr (.inr (.inr fo))))), (h0, .inr (2, [.ref hu, .int wy, .long (lN sec), .int bg, .int 3, .long (lN x), .long (lN y), .long ky, .long c1, .long c2, .long ms, .long pw, .long (lN rc)])), (hu, .inr (1, [.int nb, .int sd, .int uw, .long (lN uo), .long ul, .long (lN uv), .int uf, .int u1, .int u2, .int u3]))] H := hP
    have hD : va_D A [(hd, .inr (0, [.ref us, .ref op, .int (nI n), .int ck])), (op, .inl ((ct 4), 40, .inr (.inr (.inr (.inr fo))))), (h0, .inr (2, [.ref hu, .int wy, .long (lN sec), .int bg, .int 3, .long (lN x), .long (lN y), .long ky, .long c1, .long c2, .long ms, .long pw, .long (lN rc)])), (hu, .inr (1, [.int nb, .int sd, .int uw, .long (lN uo), .long ul, .long (lN uv), .int uf, .int u1, .int u2, .int u3]))] := hD
    refine lv_if_ne (tgt := 96) hx hb d_D_deliver_44 (by decide) (fun h882 => ?_) (fun h882 => ?_)
    · exact absurd h882 (by decide)
    · obtain ⟨sa, hstr⟩ := hR _ (List.mem_of_getElem? (l := st_tx) (i := 4) rfl)
      exact th_throw (own := "PakeDesk") (cls := "java/lang/IllegalArgumentException") (names := ["java/lang/RuntimeException", "java/lang/Exception"]) hx hb hlocks (st_out B _) (hl.1.trans hml.symm) htr hown (by decide) (by decide) (hw _ ww_192) (hw _ ww_193) (hw _ ww_9) (st_hat hw hK.2 hZ hS ow_IA) hstr d_D_deliver_47 d_D_deliver_50 d_D_deliver_51 d_D_deliver_53 d_D_deliver_56 (Nat.le_of_ble_eq_true rfl) (Nat.le_of_ble_eq_true rfl) (Nat.le_of_ble_eq_true rfl) (Nat.le_of_ble_eq_true rfl) hS.2.2 (wk_T.of hP hD hS)
set_option maxHeartbeats 4000000 in
set_option maxRecDepth 100000 in
theorem c_D_deliver_YC (l : Launch) (hfl : l.flags = pinnedFlags ++ [noTraceFlag]) (G : va_G) (ct : Nat → ClassId) (sz : Nat) (hd : Nat) (us : Nat) (op : Nat) (n : Nat) (ck : Int32) (fo : Nat → Option Nat) (k : Nat) (h0 : Nat) (hu : Nat) (wy : Int32) (sec : Nat) (bg : Int32) (st : Int32) (x : Nat) (y : Nat) (ky : Int64) (c1 : Int64) (c2 : Int64) (ms : Int64) (pw : Int64) (rc : Nat) (nb : Int32) (sd : Int32) (uw : Int32) (uo : Nat) (ul : Int64) (uv : Nat) (uf : Int32) (u1 : Int32) (u2 : Int32) (u3 : Int32) (a : Int64) (hn : n ≤ 40) (hkn : k < n) (hfo : fo k = some h0) (hst : se_at st bg ck = 1) (haw : ¬ a = c2) : tm_Met l my_D_deliver (tb_w my_D_deliver mb_D_deliver 6 (some .int)) ({ frames := 6, cells := 1, slots := 6, locals := 82 }) (wk_P4 [.ref hd, .int (nI k), .long a] G ct [(hd, .inr (0, [.ref us, .ref op, .int (nI n), .int ck])), (op, .inl ((ct 4), 40, .inr (.inr (.inr (.inr fo))))), (h0, .inr (2, [.ref hu, .int wy, .long (lN sec), .int bg, .int st, .long (lN x), .long (lN y), .long ky, .long c1, .long c2, .long ms, .long pw, .long (lN rc)])), (hu, .inr (1, [.int nb, .int sd, .int uw, .long (lN uo), .long ul, .long (lN uv), .int uf, .int u1, .int u2, .int u3]))] sz) (wk_T "java/lang/UnsupportedOperationException" [(hd, .inr (0, [.ref us, .ref op, .int (nI n), .int ck])), (op, .inl ((ct 4), 40, .inr (.inr (.inr (.inr fo))))), (h0, .inr (2, [.ref hu, .int wy, .long (lN sec), .int bg, .int 3, .long (lN x), .long (lN y), .long ky, .long c1, .long c2, .long ms, .long pw, .long (lN rc)])), (hu, .inr (1, [.int nb, .int sd, .int uw, .long (lN uo), .long ul, .long (lN uv), .int uf, .int u1, .int u2, .int u3]))] G (va_A [(hd, .inr (0, [.ref us, .ref op, .int (nI n), .int ck])), (op, .inl ((ct 4), 40, .inr (.inr (.inr (.inr fo))))), (h0, .inr (2, [.ref hu, .int wy, .long (lN sec), .int bg, .int st, .long (lN x), .long (lN y), .long ky, .long c1, .long c2, .long ms, .long pw, .long (lN rc)])), (hu, .inr (1, [.int nb, .int sd, .int uw, .long (lN uo), .long ul, .long (lN uv), .int uf, .int u1, .int u2, .int u3]))] sz)) 1 6 (va_A [(hd, .inr (0, [.ref us, .ref op, .int (nI n), .int ck])), (op, .inl ((ct 4), 40, .inr (.inr (.inr (.inr fo))))), (h0, .inr (2, [.ref hu, .int wy, .long (lN sec), .int bg, .int st, .long (lN x), .long (lN y), .long ky, .long c1, .long c2, .long ms, .long pw, .long (lN rc)])), (hu, .inr (1, [.int nb, .int sd, .int uw, .long (lN uo), .long ul, .long (lN uv), .int uf, .int u1, .int u2, .int u3]))] sz) := by
  refine tm_ofW (cc := mb_D_deliver) (maxL := 6) (ret := (some .int)) (by decide) rfl ?_
  intro p e s m args below meth c s₁ B hml hv
  obtain ⟨⟨⟨rfl, hsz, hP, hK, hD0⟩, hZ⟩, hR⟩ := hv
  have htr := Launch.traces_off hfl B.admits
  have hx := B.exec
  have hb := B.bytes
  have hr := B.returns
  have hts := atoms_spec (ws := tb_w my_D_deliver mb_D_deliver 6 (some .int)) B.pre
  have hw : ∀ w ∈ gt_tbl, w.before [.ref hd, .int (nI k), .long a].toArray s = true := fun w h => hts w (List.mem_cons_of_mem _ h)
  have hown : s.vm.findClass cr_D = some m.cls := findClass_of_methodNamed B.named
  have hlocks := B.notSynchronized
  subst hsz
  have hD := hD0.self (sz := s.heap.size)
  generalize hAe : va_A [(hd, .inr (0, [.ref us, .ref op, .int (nI n), .int ck])), (op, .inl ((ct 4), 40, .inr (.inr (.inr (.inr fo))))), (h0, .inr (2, [.ref hu, .int wy, .long (lN sec), .int bg, .int st, .long (lN x), .long (lN y), .long ky, .long c1, .long c2, .long ms, .long pw, .long (lN rc)])), (hu, .inr (1, [.int nb, .int sd, .int uw, .long (lN uo), .long ul, .long (lN uv), .int uf, .int u1, .int u2, .int u3]))] s.heap.size = A at hD hZ ⊢
  have hA : ∀ q : Nat, s.heap.size ≤ q → A q := fun q h => by rw [← hAe]; exact Or.inr h
  have hS : va_S A s.heap s.heap [] := va_S.rf
  have hP : va_P G classes [(hd, .inr (0, [.ref us, .ref op, .int (nI n), .int ck])), (op, .inl ((ct 4), 40, .inr (.inr (.inr (.inr fo))))), (h0, .inr (2, [.ref hu, .int wy, .long (lN sec), .int bg, .int st, .long (lN x), .long (lN y), .long ky, .long c1, .long c2, .long ms, .long pw, .long (lN rc)])), (hu, .inr (1, [.int nb, .int sd, .int uw, .long (lN uo), .long ul, .long (lN uv), .int uf, .int u1, .int u2, .int u3]))] s.heap := hP
  have hl := lv_entry ([.ref hd, .int (nI k), .long a]) (n := 6) (Nat.le_of_ble_eq_true rfl)
  rw [lg_entry_eq]
  generalize (lg_sl ([.ref hd, .int (nI k), .long a]) ++ List.replicate (6 - (lg_sl ([.ref hd, .int (nI k), .long a])).length) Slot.unset).toArray = ls at hl ⊢
  have hl : lv_has ls 6 [(0, .ref hd), (1, .int (nI k)), (2, .long a)] := hl
  refine lv_aload_n hx hb d_D_deliver_0 rfl (lv_at hl 0 rfl) ?_
  refine lv_iload_n hx hb d_D_deliver_1 rfl (lv_at hl 1 rfl) ?_
  have hPc : va_P G classes [(hd, .inr (0, [.ref us, .ref op, .int (nI n), .int ck])), (op, .inl ((ct 4), 40, .inr (.inr (.inr (.inr fo)))))] s.heap := hP.sub [0, 1] rfl
  have hDc := hD.sub (ws' := [(hd, .inr (0, [.ref us, .ref op, .int (nI n), .int ck])), (op, .inl ((ct 4), 40, .inr (.inr (.inr (.inr fo)))))]) [0, 1] (by decide) rfl
  refine va_csq (W.runV (As := [.int (nI k)]) (rest := []) ⟨hx, hb, hml, hown, hts⟩ (c_D_findSession1 l G ct s.heap.size hd us op n ck fo h0 k hn hkn hfo) (tb_V hw cy_D_findSession ww_154 ww_156 wp_D_findSession rfl rfl ⟨Nat.le_of_ble_eq_true rfl, Nat.le_of_ble_eq_true rfl⟩) (wk_preV (ci := 0) (q0 := 0) hPc hK hDc rfl rfl) rfl rfl hl.1 rfl (lv_room (Nat.le_of_ble_eq_true rfl)) d_D_deliver_2 ⟨Nat.le_of_ble_eq_true rfl, Nat.le_of_ble_eq_true rfl⟩) (fun r883 er883 => ?_)
  subst er883
  refine tp_v (y := .ref h0) rfl ?_
  refine lv_astore (lv' := [(4, .ref h0), (0, .ref hd), (1, .int (nI k)), (2, .long a)]) hx hb d_D_deliver_5 hl (Nat.le_of_ble_eq_true rfl) rfl (fun ls hl => ?_)
  refine lv_aload hx hb d_D_deliver_7 (lv_at hl 0 rfl) ?_
  refine lv_ifnonnull (tgt := 22) hx hb d_D_deliver_9 (by decide) ?_
  refine lv_aload hx hb d_D_deliver_22 (lv_at hl 0 rfl) ?_
  refine lv_aload_n hx hb d_D_deliver_24 rfl (lv_at hl 1 rfl) ?_
  refine va_get (D := G) (ci := 0) (v := .int ck) (C := cr_D) (T := cf_D) (N := 4) hx hb hw uw_D hown hK.1 hP 0 rfl rfl 3 (by decide) (hw _ ww_71) (fun _ h9 => h9) rfl d_D_deliver_25 ?_
  have hPc : va_P G classes [(h0, .inr (2, [.ref hu, .int wy, .long (lN sec), .int bg, .int st, .long (lN x), .long (lN y), .long ky, .long c1, .long c2, .long ms, .long pw, .long (lN rc)]))] s.heap := hP.sub [2] rfl
  have hDc := hD.sub (ws' := [(h0, .inr (2, [.ref hu, .int wy, .long (lN sec), .int bg, .int st, .long (lN x), .long (lN y), .long ky, .long c1, .long c2, .long ms, .long pw, .long (lN rc)]))]) [2] (by decide) rfl
  refine vp_callSi (va_Run.run (va_runU (As := [.int ck]) (rest := []) ⟨hx, hb, hml, hown, hts⟩ (c_C_stateAt l G ct s.heap.size h0 hu wy sec bg st x y ky c1 c2 ms pw rc ck) (tb_U (owner := cr_S) (x := ⟨"PakeDesk$Session", "stateAt", "(I)I"⟩) hw cy_S_stateAt ww_162 ww_164 (va_Decl.of (hw _ ww_163) (hw _ ww_167)) ⟨by decide, by decide⟩ rfl ww_163 ww_165 rfl rfl ⟨Nat.le_of_ble_eq_true rfl, Nat.le_of_ble_eq_true rfl⟩) (wk_preV (ci := 2) (q0 := 0) hPc hK hDc rfl rfl) rfl rfl hl.1 rfl (lv_room (Nat.le_of_ble_eq_true rfl)) d_D_deliver_28 ⟨Nat.le_of_ble_eq_true rfl, Nat.le_of_ble_eq_true rfl⟩)) (fun r884 er884 => ?_)
  subst er884
  refine tp_i (hst) ?_
  refine lv_istore (lv' := [(5, .int 1), (4, .ref h0), (0, .ref hd), (1, .int (nI k)), (2, .long a)]) hx hb d_D_deliver_31 hl (Nat.le_of_ble_eq_true rfl) rfl (fun ls hl => ?_)
  refine lv_iload hx hb d_D_deliver_33 (lv_at hl 0 rfl) ?_
  refine lv_if_ne (tgt := 57) hx hb d_D_deliver_35 (by decide) (fun h885 => ?_) (fun h885 => ?_)
  · refine lv_iload hx hb d_D_deliver_57 (lv_at hl 0 rfl) ?_
    refine lv_iconst (v := 1) hx hb d_D_deliver_59 (by decide) ?_
    refine lv_icmp_ne (tgt := 86) hx hb d_D_deliver_60 (by decide) (fun h886 => ?_) (fun h886 => ?_)
    · exact absurd h886 (by decide)
    · refine lv_aload hx hb d_D_deliver_63 (lv_at hl 1 rfl) ?_
      refine lv_lload_n hx hb d_D_deliver_65 rfl (lv_at hl 4 rfl) ?_
      refine lv_aload_n hx hb d_D_deliver_66 rfl (lv_at hl 2 rfl) ?_
      refine va_get (D := G) (ci := 0) (v := .int ck) (C := cr_D) (T := cf_D) (N := 4) hx hb hw uw_D hown hK.1 hP 0 rfl rfl 3 (by decide) (hw _ ww_71) (fun _ h9 => h9) rfl d_D_deliver_67 ?_
      have hPc : va_P G classes [(h0, .inr (2, [.ref hu, .int wy, .long (lN sec), .int bg, .int st, .long (lN x), .long (lN y), .long ky, .long c1, .long c2, .long ms, .long pw, .long (lN rc)])), (hu, .inr (1, [.int nb, .int sd, .int uw, .long (lN uo), .long ul, .long (lN uv), .int uf, .int u1, .int u2, .int u3]))] s.heap := hP.sub [2, 3] rfl
      have hDc := hD.sub (ws' := [(h0, .inr (2, [.ref hu, .int wy, .long (lN sec), .int bg, .int st, .long (lN x), .long (lN y), .long ky, .long c1, .long c2, .long ms, .long pw, .long (lN rc)])), (hu, .inr (1, [.int nb, .int sd, .int uw, .long (lN uo), .long ul, .long (lN uv), .int uf, .int u1, .int u2, .int u3]))]) [2, 3] (by decide) rfl
      refine wk_i (va_runU (As := [.long a, .int ck]) (rest := []) ⟨hx, hb, hml, hown, hts⟩ (c_C_takesConf0 l G ct s.heap.size h0 hu wy sec bg st x y ky c1 c2 ms pw rc nb sd uw uo ul uv uf u1 u2 u3 a ck haw) (tb_U (owner := cr_S) (x := ⟨"PakeDesk$Session", "takesConfirmation", "(JI)Z"⟩) hw cy_S_takesConfirmation ww_566 ww_568 (va_Decl.of (hw _ ww_567) (hw _ ww_571)) ⟨by decide, by decide⟩ rfl ww_567 ww_569 rfl rfl ⟨Nat.le_of_ble_eq_true rfl, Nat.le_of_ble_eq_true rfl⟩) (wk_preV (ci := 2) (q0 := 0) hPc hK hDc rfl rfl) rfl rfl hl.1 rfl (lv_room (Nat.le_of_ble_eq_true rfl)) d_D_deliver_70 ⟨Nat.le_of_ble_eq_true rfl, Nat.le_of_ble_eq_true rfl⟩) hP hD hS hA [2, 3] (by decide) rfl (fun _ => by simp only [List.map_cons, List.map_nil]) (fun _ H locs ok887 hP hD hS => ?_)
      have hP : va_P G classes [(hd, .inr (0, [.ref us, .ref op, .int (nI n), .int ck])), (op, .inl ((ct 4), 40, .inr (.inr (.inr (.inr fo))))), (h0, .inr (2, [.ref hu, .int wy, .long (lN sec), .int bg, .int 3, .long (lN x), .long (lN y), .long ky, .long c1, .long c2, .long ms, .long pw, .long (lN rc)])), (hu, .inr (1, [.int nb, .int sd, .int uw, .long (lN uo), .long ul, .long (lN uv), .int uf, .int u1, .int u2, .int u3]))] H := hP
      have hD : va_D A [(hd, .inr (0, [.ref us, .ref op, .int (nI n), .int ck])), (op, .inl ((ct 4), 40, .inr (.inr (.inr (.inr fo))))), (h0, .inr (2, [.ref hu, .int wy, .long (lN sec), .int bg, .int 3, .long (lN x), .long (lN y), .long ky, .long c1, .long c2, .long ms, .long pw, .long (lN rc)])), (hu, .inr (1, [.int nb, .int sd, .int uw, .long (lN uo), .long ul, .long (lN uv), .int uf, .int u1, .int u2, .int u3]))] := hD
      refine lv_if_ne (tgt := 96) hx hb d_D_deliver_73 (by decide) (fun h888 => ?_) (fun h888 => ?_)
      · exact absurd h888 (by decide)
      · obtain ⟨sa, hstr⟩ := hR _ (List.mem_of_getElem? (l := st_tx) (i := 5) rfl)
        exact th_throw (own := "PakeDesk") (cls := "java/lang/UnsupportedOperationException") (names := ["java/lang/RuntimeException", "java/lang/Exception"]) hx hb hlocks (st_out B _) (hl.1.trans hml.symm) htr hown (by decide) (by decide) (hw _ ww_594) (hw _ ww_595) (hw _ ww_16) (st_hat hw hK.2 hZ hS ow_UO) hstr d_D_deliver_76 d_D_deliver_79 d_D_deliver_80 d_D_deliver_82 d_D_deliver_85 (Nat.le_of_ble_eq_true rfl) (Nat.le_of_ble_eq_true rfl) (Nat.le_of_ble_eq_true rfl) (Nat.le_of_ble_eq_true rfl) hS.2.2 (wk_T.of hP hD hS)
  · exact absurd h885 (by decide)
set_option maxHeartbeats 4000000 in
set_option maxRecDepth 100000 in
theorem c_D_deliver_ZC (l : Launch) (hfl : l.flags = pinnedFlags ++ [noTraceFlag]) (G : va_G) (ct : Nat → ClassId) (sz : Nat) (hd : Nat) (us : Nat) (op : Nat) (n : Nat) (ck : Int32) (fo : Nat → Option Nat) (k : Nat) (h0 : Nat) (hu : Nat) (wy : Int32) (sec : Nat) (bg : Int32) (st : Int32) (x : Nat) (y : Nat) (ky : Int64) (c1 : Int64) (c2 : Int64) (ms : Int64) (pw : Int64) (rc : Nat) (a : Int64) (hn : n ≤ 40) (hkn : k < n) (hfo : fo k = some h0) (hs0 : ¬ se_at st bg ck = 0) (hs1 : ¬ se_at st bg ck = 1) : tm_Met l my_D_deliver (tb_w my_D_deliver mb_D_deliver 6 (some .int)) ({ frames := 6, cells := 1, slots := 6, locals := 82 }) (wk_P4 [.ref hd, .int (nI k), .long a] G ct [(hd, .inr (0, [.ref us, .ref op, .int (nI n), .int ck])), (op, .inl ((ct 4), 40, .inr (.inr (.inr (.inr fo))))), (h0, .inr (2, [.ref hu, .int wy, .long (lN sec), .int bg, .int st, .long (lN x), .long (lN y), .long ky, .long c1, .long c2, .long ms, .long pw, .long (lN rc)]))] sz) (wk_T "java/lang/IllegalStateException" [(hd, .inr (0, [.ref us, .ref op, .int (nI n), .int ck])), (op, .inl ((ct 4), 40, .inr (.inr (.inr (.inr fo))))), (h0, .inr (2, [.ref hu, .int wy, .long (lN sec), .int bg, .int st, .long (lN x), .long (lN y), .long ky, .long c1, .long c2, .long ms, .long pw, .long (lN rc)]))] G (va_A [(hd, .inr (0, [.ref us, .ref op, .int (nI n), .int ck])), (op, .inl ((ct 4), 40, .inr (.inr (.inr (.inr fo))))), (h0, .inr (2, [.ref hu, .int wy, .long (lN sec), .int bg, .int st, .long (lN x), .long (lN y), .long ky, .long c1, .long c2, .long ms, .long pw, .long (lN rc)]))] sz)) 1 6 (va_A [(hd, .inr (0, [.ref us, .ref op, .int (nI n), .int ck])), (op, .inl ((ct 4), 40, .inr (.inr (.inr (.inr fo))))), (h0, .inr (2, [.ref hu, .int wy, .long (lN sec), .int bg, .int st, .long (lN x), .long (lN y), .long ky, .long c1, .long c2, .long ms, .long pw, .long (lN rc)]))] sz) := by
  refine tm_ofW (cc := mb_D_deliver) (maxL := 6) (ret := (some .int)) (by decide) rfl ?_
  intro p e s m args below meth c s₁ B hml hv
  obtain ⟨⟨⟨rfl, hsz, hP, hK, hD0⟩, hZ⟩, hR⟩ := hv
  have htr := Launch.traces_off hfl B.admits
  have hx := B.exec
  have hb := B.bytes
  have hr := B.returns
  have hts := atoms_spec (ws := tb_w my_D_deliver mb_D_deliver 6 (some .int)) B.pre
  have hw : ∀ w ∈ gt_tbl, w.before [.ref hd, .int (nI k), .long a].toArray s = true := fun w h => hts w (List.mem_cons_of_mem _ h)
  have hown : s.vm.findClass cr_D = some m.cls := findClass_of_methodNamed B.named
  have hlocks := B.notSynchronized
  subst hsz
  have hD := hD0.self (sz := s.heap.size)
  generalize hAe : va_A [(hd, .inr (0, [.ref us, .ref op, .int (nI n), .int ck])), (op, .inl ((ct 4), 40, .inr (.inr (.inr (.inr fo))))), (h0, .inr (2, [.ref hu, .int wy, .long (lN sec), .int bg, .int st, .long (lN x), .long (lN y), .long ky, .long c1, .long c2, .long ms, .long pw, .long (lN rc)]))] s.heap.size = A at hD hZ ⊢
  have hA : ∀ q : Nat, s.heap.size ≤ q → A q := fun q h => by rw [← hAe]; exact Or.inr h
  have hS : va_S A s.heap s.heap [] := va_S.rf
  have hP : va_P G classes [(hd, .inr (0, [.ref us, .ref op, .int (nI n), .int ck])), (op, .inl ((ct 4), 40, .inr (.inr (.inr (.inr fo))))), (h0, .inr (2, [.ref hu, .int wy, .long (lN sec), .int bg, .int st, .long (lN x), .long (lN y), .long ky, .long c1, .long c2, .long ms, .long pw, .long (lN rc)]))] s.heap := hP
  have hl := lv_entry ([.ref hd, .int (nI k), .long a]) (n := 6) (Nat.le_of_ble_eq_true rfl)
  rw [lg_entry_eq]
  generalize (lg_sl ([.ref hd, .int (nI k), .long a]) ++ List.replicate (6 - (lg_sl ([.ref hd, .int (nI k), .long a])).length) Slot.unset).toArray = ls at hl ⊢
  have hl : lv_has ls 6 [(0, .ref hd), (1, .int (nI k)), (2, .long a)] := hl
  refine lv_aload_n hx hb d_D_deliver_0 rfl (lv_at hl 0 rfl) ?_
  refine lv_iload_n hx hb d_D_deliver_1 rfl (lv_at hl 1 rfl) ?_
  have hPc : va_P G classes [(hd, .inr (0, [.ref us, .ref op, .int (nI n), .int ck])), (op, .inl ((ct 4), 40, .inr (.inr (.inr (.inr fo)))))] s.heap := hP.sub [0, 1] rfl
  have hDc := hD.sub (ws' := [(hd, .inr (0, [.ref us, .ref op, .int (nI n), .int ck])), (op, .inl ((ct 4), 40, .inr (.inr (.inr (.inr fo)))))]) [0, 1] (by decide) rfl
  refine va_csq (W.runV (As := [.int (nI k)]) (rest := []) ⟨hx, hb, hml, hown, hts⟩ (c_D_findSession1 l G ct s.heap.size hd us op n ck fo h0 k hn hkn hfo) (tb_V hw cy_D_findSession ww_154 ww_156 wp_D_findSession rfl rfl ⟨Nat.le_of_ble_eq_true rfl, Nat.le_of_ble_eq_true rfl⟩) (wk_preV (ci := 0) (q0 := 0) hPc hK hDc rfl rfl) rfl rfl hl.1 rfl (lv_room (Nat.le_of_ble_eq_true rfl)) d_D_deliver_2 ⟨Nat.le_of_ble_eq_true rfl, Nat.le_of_ble_eq_true rfl⟩) (fun r889 er889 => ?_)
  subst er889
  refine tp_v (y := .ref h0) rfl ?_
  refine lv_astore (lv' := [(4, .ref h0), (0, .ref hd), (1, .int (nI k)), (2, .long a)]) hx hb d_D_deliver_5 hl (Nat.le_of_ble_eq_true rfl) rfl (fun ls hl => ?_)
  refine lv_aload hx hb d_D_deliver_7 (lv_at hl 0 rfl) ?_
  refine lv_ifnonnull (tgt := 22) hx hb d_D_deliver_9 (by decide) ?_
  refine lv_aload hx hb d_D_deliver_22 (lv_at hl 0 rfl) ?_
  refine lv_aload_n hx hb d_D_deliver_24 rfl (lv_at hl 1 rfl) ?_
  refine va_get (D := G) (ci := 0) (v := .int ck) (C := cr_D) (T := cf_D) (N := 4) hx hb hw uw_D hown hK.1 hP 0 rfl rfl 3 (by decide) (hw _ ww_71) (fun _ h9 => h9) rfl d_D_deliver_25 ?_
  have hPc : va_P G classes [(h0, .inr (2, [.ref hu, .int wy, .long (lN sec), .int bg, .int st, .long (lN x), .long (lN y), .long ky, .long c1, .long c2, .long ms, .long pw, .long (lN rc)]))] s.heap := hP.sub [2] rfl
  have hDc := hD.sub (ws' := [(h0, .inr (2, [.ref hu, .int wy, .long (lN sec), .int bg, .int st, .long (lN x), .long (lN y), .long ky, .long c1, .long c2, .long ms, .long pw, .long (lN rc)]))]) [2] (by decide) rfl
  refine vp_callSi (va_Run.run (va_runU (As := [.int ck]) (rest := []) ⟨hx, hb, hml, hown, hts⟩ (c_C_stateAt l G ct s.heap.size h0 hu wy sec bg st x y ky c1 c2 ms pw rc ck) (tb_U (owner := cr_S) (x := ⟨"PakeDesk$Session", "stateAt", "(I)I"⟩) hw cy_S_stateAt ww_162 ww_164 (va_Decl.of (hw _ ww_163) (hw _ ww_167)) ⟨by decide, by decide⟩ rfl ww_163 ww_165 rfl rfl ⟨Nat.le_of_ble_eq_true rfl, Nat.le_of_ble_eq_true rfl⟩) (wk_preV (ci := 2) (q0 := 0) hPc hK hDc rfl rfl) rfl rfl hl.1 rfl (lv_room (Nat.le_of_ble_eq_true rfl)) d_D_deliver_28 ⟨Nat.le_of_ble_eq_true rfl, Nat.le_of_ble_eq_true rfl⟩)) (fun r890 er890 => ?_)
  subst er890
  refine lv_istore (lv' := [(5, .int (se_at st bg ck)), (4, .ref h0), (0, .ref hd), (1, .int (nI k)), (2, .long a)]) hx hb d_D_deliver_31 hl (Nat.le_of_ble_eq_true rfl) rfl (fun ls hl => ?_)
  refine lv_iload hx hb d_D_deliver_33 (lv_at hl 0 rfl) ?_
  refine lv_if_ne (tgt := 57) hx hb d_D_deliver_35 (by decide) (fun h891 => ?_) (fun h891 => ?_)
  · refine lv_iload hx hb d_D_deliver_57 (lv_at hl 0 rfl) ?_
    refine lv_iconst (v := 1) hx hb d_D_deliver_59 (by decide) ?_
    refine lv_icmp_ne (tgt := 86) hx hb d_D_deliver_60 (by decide) (fun h892 => ?_) (fun h892 => ?_)
    · obtain ⟨sa, hstr⟩ := hR _ (List.mem_of_getElem? (l := st_tx) (i := 6) rfl)
      exact th_throw (own := "PakeDesk") (cls := "java/lang/IllegalStateException") (names := ["java/lang/RuntimeException", "java/lang/Exception"]) hx hb hlocks (st_out B _) (hl.1.trans hml.symm) htr hown (by decide) (by decide) (hw _ ww_261) (hw _ ww_262) (hw _ ww_10) (st_hat hw hK.2 hZ hS ow_IS) hstr d_D_deliver_86 d_D_deliver_89 d_D_deliver_90 d_D_deliver_92 d_D_deliver_95 (Nat.le_of_ble_eq_true rfl) (Nat.le_of_ble_eq_true rfl) (Nat.le_of_ble_eq_true rfl) (Nat.le_of_ble_eq_true rfl) hS.2.2 (wk_T.of hP hD hS)
    · exact absurd h892 hs1
  · exact absurd h891 hs0
set_option maxHeartbeats 4000000 in
set_option maxRecDepth 100000 in
theorem c_D_key2V (l : Launch) (hfl : l.flags = pinnedFlags ++ [noTraceFlag]) (G : va_G) (ct : Nat → ClassId) (sz : Nat) (hd : Nat) (us : Nat) (op : Nat) (n : Nat) (ck : Int32) (fo : Nat → Option Nat) (k : Nat) (h0 : Nat) (hu : Nat) (wy : Int32) (sec : Nat) (bg : Int32) (st : Int32) (x : Nat) (y : Nat) (ky : Int64) (c1 : Int64) (c2 : Int64) (ms : Int64) (rc : Nat) (hn : n ≤ 40) (hkn : k < n) (hfo : fo k = some h0) (hst : ¬ st = 2) : tm_Met l my_D_key (tb_w my_D_key mb_D_key 3 (some .long)) ({ frames := 6, cells := 1, slots := 6, locals := 82 }) (wk_P4 [.ref hd, .int (nI k)] G ct [(hd, .inr (0, [.ref us, .ref op, .int (nI n), .int ck])), (op, .inl ((ct 4), 40, .inr (.inr (.inr (.inr fo))))), (h0, .inr (3, [.ref hu, .int wy, .long (lN sec), .int bg, .int st, .long (lN x), .long (lN y), .long ky, .long c1, .long c2, .long ms, .long (lN rc)]))] sz) (wk_T "java/lang/IllegalStateException" [(hd, .inr (0, [.ref us, .ref op, .int (nI n), .int ck])), (op, .inl ((ct 4), 40, .inr (.inr (.inr (.inr fo))))), (h0, .inr (3, [.ref hu, .int wy, .long (lN sec), .int bg, .int st, .long (lN x), .long (lN y), .long ky, .long c1, .long c2, .long ms, .long (lN rc)]))] G (va_A [(hd, .inr (0, [.ref us, .ref op, .int (nI n), .int ck])), (op, .inl ((ct 4), 40, .inr (.inr (.inr (.inr fo))))), (h0, .inr (3, [.ref hu, .int wy, .long (lN sec), .int bg, .int st, .long (lN x), .long (lN y), .long ky, .long c1, .long c2, .long ms, .long (lN rc)]))] sz)) 1 6 (va_A [(hd, .inr (0, [.ref us, .ref op, .int (nI n), .int ck])), (op, .inl ((ct 4), 40, .inr (.inr (.inr (.inr fo))))), (h0, .inr (3, [.ref hu, .int wy, .long (lN sec), .int bg, .int st, .long (lN x), .long (lN y), .long ky, .long c1, .long c2, .long ms, .long (lN rc)]))] sz) := by
  refine tm_ofW (cc := mb_D_key) (maxL := 3) (ret := (some .long)) (by decide) rfl ?_
  intro p e s m args below meth c s₁ B hml hv
  obtain ⟨⟨⟨rfl, hsz, hP, hK, hD0⟩, hZ⟩, hR⟩ := hv
  have htr := Launch.traces_off hfl B.admits
  have hx := B.exec
  have hb := B.bytes
  have hr := B.returns
  have hts := atoms_spec (ws := tb_w my_D_key mb_D_key 3 (some .long)) B.pre
  have hw : ∀ w ∈ gt_tbl, w.before [.ref hd, .int (nI k)].toArray s = true := fun w h => hts w (List.mem_cons_of_mem _ h)
  have hown : s.vm.findClass cr_D = some m.cls := findClass_of_methodNamed B.named
  have hlocks := B.notSynchronized
  subst hsz
  have hD := hD0.self (sz := s.heap.size)
  generalize hAe : va_A [(hd, .inr (0, [.ref us, .ref op, .int (nI n), .int ck])), (op, .inl ((ct 4), 40, .inr (.inr (.inr (.inr fo))))), (h0, .inr (3, [.ref hu, .int wy, .long (lN sec), .int bg, .int st, .long (lN x), .long (lN y), .long ky, .long c1, .long c2, .long ms, .long (lN rc)]))] s.heap.size = A at hD hZ ⊢
  have hA : ∀ q : Nat, s.heap.size ≤ q → A q := fun q h => by rw [← hAe]; exact Or.inr h
  have hS : va_S A s.heap s.heap [] := va_S.rf
  have hP : va_P G classes [(hd, .inr (0, [.ref us, .ref op, .int (nI n), .int ck])), (op, .inl ((ct 4), 40, .inr (.inr (.inr (.inr fo))))), (h0, .inr (3, [.ref hu, .int wy, .long (lN sec), .int bg, .int st, .long (lN x), .long (lN y), .long ky, .long c1, .long c2, .long ms, .long (lN rc)]))] s.heap := hP
  have hl := lv_entry ([.ref hd, .int (nI k)]) (n := 3) (Nat.le_of_ble_eq_true rfl)
  rw [lg_entry_eq]
  generalize (lg_sl ([.ref hd, .int (nI k)]) ++ List.replicate (3 - (lg_sl ([.ref hd, .int (nI k)])).length) Slot.unset).toArray = ls at hl ⊢
  have hl : lv_has ls 3 [(0, .ref hd), (1, .int (nI k))] := hl
  refine lv_aload_n hx hb d_D_key_0 rfl (lv_at hl 0 rfl) ?_
  refine lv_iload_n hx hb d_D_key_1 rfl (lv_at hl 1 rfl) ?_
  have hPc : va_P G classes [(hd, .inr (0, [.ref us, .ref op, .int (nI n), .int ck])), (op, .inl ((ct 4), 40, .inr (.inr (.inr (.inr fo)))))] s.heap := hP.sub [0, 1] rfl
  have hDc := hD.sub (ws' := [(hd, .inr (0, [.ref us, .ref op, .int (nI n), .int ck])), (op, .inl ((ct 4), 40, .inr (.inr (.inr (.inr fo)))))]) [0, 1] (by decide) rfl
  refine va_csq (W.runV (As := [.int (nI k)]) (rest := []) ⟨hx, hb, hml, hown, hts⟩ (c_D_findSession1 l G ct s.heap.size hd us op n ck fo h0 k hn hkn hfo) (tb_V hw cy_D_findSession ww_154 ww_156 wp_D_findSession rfl rfl ⟨Nat.le_of_ble_eq_true rfl, Nat.le_of_ble_eq_true rfl⟩) (wk_preV (ci := 0) (q0 := 0) hPc hK hDc rfl rfl) rfl rfl hl.1 rfl (lv_room (Nat.le_of_ble_eq_true rfl)) d_D_key_2 ⟨Nat.le_of_ble_eq_true rfl, Nat.le_of_ble_eq_true rfl⟩) (fun r893 er893 => ?_)
  subst er893
  refine tp_v (y := .ref h0) rfl ?_
  refine lv_astore_n (lv' := [(2, .ref h0), (0, .ref hd), (1, .int (nI k))]) hx hb d_D_key_5 rfl hl (Nat.le_of_ble_eq_true rfl) rfl (fun ls hl => ?_)
  refine lv_aload_n hx hb d_D_key_6 rfl (lv_at hl 0 rfl) ?_
  refine lv_ifnonnull (tgt := 20) hx hb d_D_key_7 (by decide) ?_
  refine lv_aload_n hx hb d_D_key_20 rfl (lv_at hl 0 rfl) ?_
  refine va_get (D := G) (ci := 3) (v := .int st) (C := cr_V) (T := cf_V) (N := 12) hx hb hw uw_V hown hK.1 hP 2 rfl rfl 4 (by decide) (hw _ ww_313) (fun _ h9 => h9) rfl d_D_key_21 ?_
  refine lv_iconst (v := 2) hx hb d_D_key_24 (by decide) ?_
  refine lv_icmp_eq (tgt := 38) hx hb d_D_key_25 (by decide) (fun h894 => ?_) (fun h894 => ?_)
  · exact absurd h894 hst
  · obtain ⟨sa, hstr⟩ := hR _ (List.mem_of_getElem? (l := st_tx) (i := 7) rfl)
    exact th_throw (own := "PakeDesk") (cls := "java/lang/IllegalStateException") (names := ["java/lang/RuntimeException", "java/lang/Exception"]) hx hb hlocks (st_out B _) (hl.1.trans hml.symm) htr hown (by decide) (by decide) (hw _ ww_261) (hw _ ww_262) (hw _ ww_10) (st_hat hw hK.2 hZ hS ow_IS) hstr d_D_key_28 d_D_key_31 d_D_key_32 d_D_key_34 d_D_key_37 (Nat.le_of_ble_eq_true rfl) (Nat.le_of_ble_eq_true rfl) (Nat.le_of_ble_eq_true rfl) (Nat.le_of_ble_eq_true rfl) hS.2.2 (wk_T.of hP hD hS)
set_option maxHeartbeats 4000000 in
set_option maxRecDepth 100000 in
theorem c_D_deliver_XV (l : Launch) (hfl : l.flags = pinnedFlags ++ [noTraceFlag]) (G : va_G) (ct : Nat → ClassId) (sz : Nat) (hd : Nat) (us : Nat) (op : Nat) (n : Nat) (ck : Int32) (fo : Nat → Option Nat) (k : Nat) (h0 : Nat) (hu : Nat) (wy : Int32) (sec : Nat) (bg : Int32) (st : Int32) (x : Nat) (y : Nat) (ky : Int64) (c1 : Int64) (c2 : Int64) (ms : Int64) (rc : Nat) (nb : Int32) (sd : Int32) (uw : Int32) (uo : Nat) (ul : Int64) (uv : Nat) (uf : Int32) (u1 : Int32) (u2 : Int32) (u3 : Int32) (a : Int64) (hn : n ≤ 40) (hkn : k < n) (hfo : fo k = some h0) (hst : se_at st bg ck = 0) (hs1 : sec < pq_Q) (hq1 : ¬ wy = 1 → 1 ≤ rc ∧ rc < pq_Q) (hp1 : rc < pq_P) (hrt : ¬ rt_v wy rc a) : tm_Met l my_D_deliver (tb_w my_D_deliver mb_D_deliver 6 (some .int)) ({ frames := 6, cells := 1, slots := 6, locals := 118 }) (wk_P4 [.ref hd, .int (nI k), .long a] G ct [(hd, .inr (0, [.ref us, .ref op, .int (nI n), .int ck])), (op, .inl ((ct 4), 40, .inr (.inr (.inr (.inr fo))))), (h0, .inr (3, [.ref hu, .int wy, .long (lN sec), .int bg, .int st, .long (lN x), .long (lN y), .long ky, .long c1, .long c2, .long ms, .long (lN rc)])), (hu, .inr (1, [.int nb, .int sd, .int uw, .long (lN uo), .long ul, .long (lN uv), .int uf, .int u1, .int u2, .int u3]))] sz) (wk_T "java/lang/IllegalArgumentException" [(hd, .inr (0, [.ref us, .ref op, .int (nI n), .int ck])), (op, .inl ((ct 4), 40, .inr (.inr (.inr (.inr fo))))), (h0, .inr (3, [.ref hu, .int wy, .long (lN sec), .int bg, .int 3, .long (lN x), .long (lN y), .long ky, .long c1, .long c2, .long ms, .long (lN rc)])), (hu, .inr (1, [.int nb, .int sd, .int uw, .long (lN uo), .long ul, .long (lN uv), .int uf, .int u1, .int u2, .int u3]))] G (va_A [(hd, .inr (0, [.ref us, .ref op, .int (nI n), .int ck])), (op, .inl ((ct 4), 40, .inr (.inr (.inr (.inr fo))))), (h0, .inr (3, [.ref hu, .int wy, .long (lN sec), .int bg, .int st, .long (lN x), .long (lN y), .long ky, .long c1, .long c2, .long ms, .long (lN rc)])), (hu, .inr (1, [.int nb, .int sd, .int uw, .long (lN uo), .long ul, .long (lN uv), .int uf, .int u1, .int u2, .int u3]))] sz)) 1 6 (va_A [(hd, .inr (0, [.ref us, .ref op, .int (nI n), .int ck])), (op, .inl ((ct 4), 40, .inr (.inr (.inr (.inr fo))))), (h0, .inr (3, [.ref hu, .int wy, .long (lN sec), .int bg, .int st, .long (lN x), .long (lN y), .long ky, .long c1, .long c2, .long ms, .long (lN rc)])), (hu, .inr (1, [.int nb, .int sd, .int uw, .long (lN uo), .long ul, .long (lN uv), .int uf, .int u1, .int u2, .int u3]))] sz) := by
  refine tm_ofW (cc := mb_D_deliver) (maxL := 6) (ret := (some .int)) (by decide) rfl ?_
  intro p e s m args below meth c s₁ B hml hv
  obtain ⟨⟨⟨rfl, hsz, hP, hK, hD0⟩, hZ⟩, hR⟩ := hv
  have htr := Launch.traces_off hfl B.admits
  have hx := B.exec
  have hb := B.bytes
  have hr := B.returns
  have hts := atoms_spec (ws := tb_w my_D_deliver mb_D_deliver 6 (some .int)) B.pre
  have hw : ∀ w ∈ gt_tbl, w.before [.ref hd, .int (nI k), .long a].toArray s = true := fun w h => hts w (List.mem_cons_of_mem _ h)
  have hown : s.vm.findClass cr_D = some m.cls := findClass_of_methodNamed B.named
  have hlocks := B.notSynchronized
  subst hsz
  have hD := hD0.self (sz := s.heap.size)
  generalize hAe : va_A [(hd, .inr (0, [.ref us, .ref op, .int (nI n), .int ck])), (op, .inl ((ct 4), 40, .inr (.inr (.inr (.inr fo))))), (h0, .inr (3, [.ref hu, .int wy, .long (lN sec), .int bg, .int st, .long (lN x), .long (lN y), .long ky, .long c1, .long c2, .long ms, .long (lN rc)])), (hu, .inr (1, [.int nb, .int sd, .int uw, .long (lN uo), .long ul, .long (lN uv), .int uf, .int u1, .int u2, .int u3]))] s.heap.size = A at hD hZ ⊢
  have hA : ∀ q : Nat, s.heap.size ≤ q → A q := fun q h => by rw [← hAe]; exact Or.inr h
  have hS : va_S A s.heap s.heap [] := va_S.rf
  have hP : va_P G classes [(hd, .inr (0, [.ref us, .ref op, .int (nI n), .int ck])), (op, .inl ((ct 4), 40, .inr (.inr (.inr (.inr fo))))), (h0, .inr (3, [.ref hu, .int wy, .long (lN sec), .int bg, .int st, .long (lN x), .long (lN y), .long ky, .long c1, .long c2, .long ms, .long (lN rc)])), (hu, .inr (1, [.int nb, .int sd, .int uw, .long (lN uo), .long ul, .long (lN uv), .int uf, .int u1, .int u2, .int u3]))] s.heap := hP
  have hl := lv_entry ([.ref hd, .int (nI k), .long a]) (n := 6) (Nat.le_of_ble_eq_true rfl)
  rw [lg_entry_eq]
  generalize (lg_sl ([.ref hd, .int (nI k), .long a]) ++ List.replicate (6 - (lg_sl ([.ref hd, .int (nI k), .long a])).length) Slot.unset).toArray = ls at hl ⊢
  have hl : lv_has ls 6 [(0, .ref hd), (1, .int (nI k)), (2, .long a)] := hl
  refine lv_aload_n hx hb d_D_deliver_0 rfl (lv_at hl 0 rfl) ?_
  refine lv_iload_n hx hb d_D_deliver_1 rfl (lv_at hl 1 rfl) ?_
  have hPc : va_P G classes [(hd, .inr (0, [.ref us, .ref op, .int (nI n), .int ck])), (op, .inl ((ct 4), 40, .inr (.inr (.inr (.inr fo)))))] s.heap := hP.sub [0, 1] rfl
  have hDc := hD.sub (ws' := [(hd, .inr (0, [.ref us, .ref op, .int (nI n), .int ck])), (op, .inl ((ct 4), 40, .inr (.inr (.inr (.inr fo)))))]) [0, 1] (by decide) rfl
  refine va_csq (W.runV (As := [.int (nI k)]) (rest := []) ⟨hx, hb, hml, hown, hts⟩ (c_D_findSession1 l G ct s.heap.size hd us op n ck fo h0 k hn hkn hfo) (tb_V hw cy_D_findSession ww_154 ww_156 wp_D_findSession rfl rfl ⟨Nat.le_of_ble_eq_true rfl, Nat.le_of_ble_eq_true rfl⟩) (wk_preV (ci := 0) (q0 := 0) hPc hK hDc rfl rfl) rfl rfl hl.1 rfl (lv_room (Nat.le_of_ble_eq_true rfl)) d_D_deliver_2 ⟨Nat.le_of_ble_eq_true rfl, Nat.le_of_ble_eq_true rfl⟩) (fun r895 er895 => ?_)
  subst er895
  refine tp_v (y := .ref h0) rfl ?_
  refine lv_astore (lv' := [(4, .ref h0), (0, .ref hd), (1, .int (nI k)), (2, .long a)]) hx hb d_D_deliver_5 hl (Nat.le_of_ble_eq_true rfl) rfl (fun ls hl => ?_)
  refine lv_aload hx hb d_D_deliver_7 (lv_at hl 0 rfl) ?_
  refine lv_ifnonnull (tgt := 22) hx hb d_D_deliver_9 (by decide) ?_
  refine lv_aload hx hb d_D_deliver_22 (lv_at hl 0 rfl) ?_
  refine lv_aload_n hx hb d_D_deliver_24 rfl (lv_at hl 1 rfl) ?_
  refine va_get (D := G) (ci := 0) (v := .int ck) (C := cr_D) (T := cf_D) (N := 4) hx hb hw uw_D hown hK.1 hP 0 rfl rfl 3 (by decide) (hw _ ww_71) (fun _ h9 => h9) rfl d_D_deliver_25 ?_
  have hPc : va_P G classes [(h0, .inr (3, [.ref hu, .int wy, .long (lN sec), .int bg, .int st, .long (lN x), .long (lN y), .long ky, .long c1, .long c2, .long ms, .long (lN rc)]))] s.heap := hP.sub [2] rfl
  have hDc := hD.sub (ws' := [(h0, .inr (3, [.ref hu, .int wy, .long (lN sec), .int bg, .int st, .long (lN x), .long (lN y), .long ky, .long c1, .long c2, .long ms, .long (lN rc)]))]) [2] (by decide) rfl
  refine vp_callSi (va_Run.run (va_runU (As := [.int ck]) (rest := []) ⟨hx, hb, hml, hown, hts⟩ (c_V_stateAt l G ct s.heap.size h0 hu wy sec bg st x y ky c1 c2 ms rc ck) (tb_U (owner := cr_S) (x := ⟨"PakeDesk$Session", "stateAt", "(I)I"⟩) hw cy_S_stateAt ww_162 ww_164 (va_Decl.of (hw _ ww_163) (hw _ ww_167)) ⟨by decide, by decide⟩ rfl ww_163 ww_166 rfl rfl ⟨Nat.le_of_ble_eq_true rfl, Nat.le_of_ble_eq_true rfl⟩) (wk_preV (ci := 3) (q0 := 0) hPc hK hDc rfl rfl) rfl rfl hl.1 rfl (lv_room (Nat.le_of_ble_eq_true rfl)) d_D_deliver_28 ⟨Nat.le_of_ble_eq_true rfl, Nat.le_of_ble_eq_true rfl⟩)) (fun r896 er896 => ?_)
  subst er896
  refine tp_i (hst) ?_
  refine lv_istore (lv' := [(5, .int 0), (4, .ref h0), (0, .ref hd), (1, .int (nI k)), (2, .long a)]) hx hb d_D_deliver_31 hl (Nat.le_of_ble_eq_true rfl) rfl (fun ls hl => ?_)
  refine lv_iload hx hb d_D_deliver_33 (lv_at hl 0 rfl) ?_
  refine lv_if_ne (tgt := 57) hx hb d_D_deliver_35 (by decide) (fun h897 => ?_) (fun h897 => ?_)
  · exact absurd h897 (by decide)
  · refine lv_aload hx hb d_D_deliver_38 (lv_at hl 1 rfl) ?_
    refine lv_lload_n hx hb d_D_deliver_40 rfl (lv_at hl 4 rfl) ?_
    have hPc : va_P G classes [(h0, .inr (3, [.ref hu, .int wy, .long (lN sec), .int bg, .int st, .long (lN x), .long (lN y), .long ky, .long c1, .long c2, .long ms, .long (lN rc)])), (hu, .inr (1, [.int nb, .int sd, .int uw, .long (lN uo), .long ul, .long (lN uv), .int uf, .int u1, .int u2, .int u3]))] s.heap := hP.sub [2, 3] rfl
    have hDc := hD.sub (ws' := [(h0, .inr (3, [.ref hu, .int wy, .long (lN sec), .int bg, .int st, .long (lN x), .long (lN y), .long ky, .long c1, .long c2, .long ms, .long (lN rc)])), (hu, .inr (1, [.int nb, .int sd, .int uw, .long (lN uo), .long ul, .long (lN uv), .int uf, .int u1, .int u2, .int u3]))]) [2, 3] (by decide) rfl
    refine wk_i (va_runU (As := [.long a]) (rest := []) ⟨hx, hb, hml, hown, hts⟩ (c_V_takesFirst0 l G ct s.heap.size h0 hu wy sec bg st x y ky c1 c2 ms rc nb sd uw uo ul uv uf u1 u2 u3 a hs1 hq1 hp1 hrt) (tb_U (owner := cr_S) (x := ⟨"PakeDesk$Session", "takesFirst", "(J)Z"⟩) hw cy_S_takesFirst ww_444 ww_446 (va_Decl.of (hw _ ww_445) (hw _ ww_449)) ⟨by decide, by decide⟩ rfl ww_445 ww_448 rfl rfl ⟨Nat.le_of_ble_eq_true rfl, Nat.le_of_ble_eq_true rfl⟩) (wk_preV (ci := 3) (q0 := 0) hPc hK hDc rfl rfl) rfl rfl hl.1 rfl (lv_room (Nat.le_of_ble_eq_true rfl)) d_D_deliver_41 ⟨Nat.le_of_ble_eq_true rfl, Nat.le_of_ble_eq_true rfl⟩) hP hD hS hA [2, 3] (by decide) rfl (fun _ => by simp only [List.map_cons, List.map_nil]) (fun _ H locs ok898 hP hD hS => ?_)
    have hP : va_P G classes [(hd, .inr (0, [.ref us, .ref op, .int (nI n), .int ck])), (op, .inl ((ct 4), 40, .inr (.inr (.inr (.inr fo))))), (h0, .inr (3, [.ref hu, .int wy, .long (lN sec), .int bg, .int 3, .long (lN x), .long (lN y), .long ky, .long c1, .long c2, .long ms, .long (lN rc)])), (hu, .inr (1, [.int nb, .int sd, .int uw, .long (lN uo), .long ul, .long (lN uv), .int uf, .int u1, .int u2, .int u3]))] H := hP
    have hD : va_D A [(hd, .inr (0, [.ref us, .ref op, .int (nI n), .int ck])), (op, .inl ((ct 4), 40, .inr (.inr (.inr (.inr fo))))), (h0, .inr (3, [.ref hu, .int wy, .long (lN sec), .int bg, .int 3, .long (lN x), .long (lN y), .long ky, .long c1, .long c2, .long ms, .long (lN rc)])), (hu, .inr (1, [.int nb, .int sd, .int uw, .long (lN uo), .long ul, .long (lN uv), .int uf, .int u1, .int u2, .int u3]))] := hD
    refine lv_if_ne (tgt := 96) hx hb d_D_deliver_44 (by decide) (fun h899 => ?_) (fun h899 => ?_)
    · exact absurd h899 (by decide)
    · obtain ⟨sa, hstr⟩ := hR _ (List.mem_of_getElem? (l := st_tx) (i := 4) rfl)
      exact th_throw (own := "PakeDesk") (cls := "java/lang/IllegalArgumentException") (names := ["java/lang/RuntimeException", "java/lang/Exception"]) hx hb hlocks (st_out B _) (hl.1.trans hml.symm) htr hown (by decide) (by decide) (hw _ ww_192) (hw _ ww_193) (hw _ ww_9) (st_hat hw hK.2 hZ hS ow_IA) hstr d_D_deliver_47 d_D_deliver_50 d_D_deliver_51 d_D_deliver_53 d_D_deliver_56 (Nat.le_of_ble_eq_true rfl) (Nat.le_of_ble_eq_true rfl) (Nat.le_of_ble_eq_true rfl) (Nat.le_of_ble_eq_true rfl) hS.2.2 (wk_T.of hP hD hS)
set_option maxHeartbeats 4000000 in
set_option maxRecDepth 100000 in
theorem c_D_deliver_YV (l : Launch) (hfl : l.flags = pinnedFlags ++ [noTraceFlag]) (G : va_G) (ct : Nat → ClassId) (sz : Nat) (hd : Nat) (us : Nat) (op : Nat) (n : Nat) (ck : Int32) (fo : Nat → Option Nat) (k : Nat) (h0 : Nat) (hu : Nat) (wy : Int32) (sec : Nat) (bg : Int32) (st : Int32) (x : Nat) (y : Nat) (ky : Int64) (c1 : Int64) (c2 : Int64) (ms : Int64) (rc : Nat) (nb : Int32) (sd : Int32) (uw : Int32) (uo : Nat) (ul : Int64) (uv : Nat) (uf : Int32) (u1 : Int32) (u2 : Int32) (u3 : Int32) (a : Int64) (hn : n ≤ 40) (hkn : k < n) (hfo : fo k = some h0) (hst : se_at st bg ck = 1) (haw : ¬ a = c1) : tm_Met l my_D_deliver (tb_w my_D_deliver mb_D_deliver 6 (some .int)) ({ frames := 6, cells := 1, slots := 6, locals := 82 }) (wk_P4 [.ref hd, .int (nI k), .long a] G ct [(hd, .inr (0, [.ref us, .ref op, .int (nI n), .int ck])), (op, .inl ((ct 4), 40, .inr (.inr (.inr (.inr fo))))), (h0, .inr (3, [.ref hu, .int wy, .long (lN sec), .int bg, .int st, .long (lN x), .long (lN y), .long ky, .long c1, .long c2, .long ms, .long (lN rc)])), (hu, .inr (1, [.int nb, .int sd, .int uw, .long (lN uo), .long ul, .long (lN uv), .int uf, .int u1, .int u2, .int u3]))] sz) (wk_T "java/lang/UnsupportedOperationException" [(hd, .inr (0, [.ref us, .ref op, .int (nI n), .int ck])), (op, .inl ((ct 4), 40, .inr (.inr (.inr (.inr fo))))), (h0, .inr (3, [.ref hu, .int wy, .long (lN sec), .int bg, .int 3, .long (lN x), .long (lN y), .long ky, .long c1, .long c2, .long ms, .long (lN rc)])), (hu, .inr (1, [.int nb, .int sd, .int uw, .long (lN uo), .long ul, .long (lN uv), .int (uf + 1), .int ck, .int u1, .int u2]))] G (va_A [(hd, .inr (0, [.ref us, .ref op, .int (nI n), .int ck])), (op, .inl ((ct 4), 40, .inr (.inr (.inr (.inr fo))))), (h0, .inr (3, [.ref hu, .int wy, .long (lN sec), .int bg, .int st, .long (lN x), .long (lN y), .long ky, .long c1, .long c2, .long ms, .long (lN rc)])), (hu, .inr (1, [.int nb, .int sd, .int uw, .long (lN uo), .long ul, .long (lN uv), .int uf, .int u1, .int u2, .int u3]))] sz)) 1 6 (va_A [(hd, .inr (0, [.ref us, .ref op, .int (nI n), .int ck])), (op, .inl ((ct 4), 40, .inr (.inr (.inr (.inr fo))))), (h0, .inr (3, [.ref hu, .int wy, .long (lN sec), .int bg, .int st, .long (lN x), .long (lN y), .long ky, .long c1, .long c2, .long ms, .long (lN rc)])), (hu, .inr (1, [.int nb, .int sd, .int uw, .long (lN uo), .long ul, .long (lN uv), .int uf, .int u1, .int u2, .int u3]))] sz) := by
  refine tm_ofW (cc := mb_D_deliver) (maxL := 6) (ret := (some .int)) (by decide) rfl ?_
  intro p e s m args below meth c s₁ B hml hv
  obtain ⟨⟨⟨rfl, hsz, hP, hK, hD0⟩, hZ⟩, hR⟩ := hv
  have htr := Launch.traces_off hfl B.admits
  have hx := B.exec
  have hb := B.bytes
  have hr := B.returns
  have hts := atoms_spec (ws := tb_w my_D_deliver mb_D_deliver 6 (some .int)) B.pre
  have hw : ∀ w ∈ gt_tbl, w.before [.ref hd, .int (nI k), .long a].toArray s = true := fun w h => hts w (List.mem_cons_of_mem _ h)
  have hown : s.vm.findClass cr_D = some m.cls := findClass_of_methodNamed B.named
  have hlocks := B.notSynchronized
  subst hsz
  have hD := hD0.self (sz := s.heap.size)
  generalize hAe : va_A [(hd, .inr (0, [.ref us, .ref op, .int (nI n), .int ck])), (op, .inl ((ct 4), 40, .inr (.inr (.inr (.inr fo))))), (h0, .inr (3, [.ref hu, .int wy, .long (lN sec), .int bg, .int st, .long (lN x), .long (lN y), .long ky, .long c1, .long c2, .long ms, .long (lN rc)])), (hu, .inr (1, [.int nb, .int sd, .int uw, .long (lN uo), .long ul, .long (lN uv), .int uf, .int u1, .int u2, .int u3]))] s.heap.size = A at hD hZ ⊢
  have hA : ∀ q : Nat, s.heap.size ≤ q → A q := fun q h => by rw [← hAe]; exact Or.inr h
  have hS : va_S A s.heap s.heap [] := va_S.rf
  have hP : va_P G classes [(hd, .inr (0, [.ref us, .ref op, .int (nI n), .int ck])), (op, .inl ((ct 4), 40, .inr (.inr (.inr (.inr fo))))), (h0, .inr (3, [.ref hu, .int wy, .long (lN sec), .int bg, .int st, .long (lN x), .long (lN y), .long ky, .long c1, .long c2, .long ms, .long (lN rc)])), (hu, .inr (1, [.int nb, .int sd, .int uw, .long (lN uo), .long ul, .long (lN uv), .int uf, .int u1, .int u2, .int u3]))] s.heap := hP
  have hl := lv_entry ([.ref hd, .int (nI k), .long a]) (n := 6) (Nat.le_of_ble_eq_true rfl)
  rw [lg_entry_eq]
  generalize (lg_sl ([.ref hd, .int (nI k), .long a]) ++ List.replicate (6 - (lg_sl ([.ref hd, .int (nI k), .long a])).length) Slot.unset).toArray = ls at hl ⊢
  have hl : lv_has ls 6 [(0, .ref hd), (1, .int (nI k)), (2, .long a)] := hl
  refine lv_aload_n hx hb d_D_deliver_0 rfl (lv_at hl 0 rfl) ?_
  refine lv_iload_n hx hb d_D_deliver_1 rfl (lv_at hl 1 rfl) ?_
  have hPc : va_P G classes [(hd, .inr (0, [.ref us, .ref op, .int (nI n), .int ck])), (op, .inl ((ct 4), 40, .inr (.inr (.inr (.inr fo)))))] s.heap := hP.sub [0, 1] rfl
  have hDc := hD.sub (ws' := [(hd, .inr (0, [.ref us, .ref op, .int (nI n), .int ck])), (op, .inl ((ct 4), 40, .inr (.inr (.inr (.inr fo)))))]) [0, 1] (by decide) rfl
  refine va_csq (W.runV (As := [.int (nI k)]) (rest := []) ⟨hx, hb, hml, hown, hts⟩ (c_D_findSession1 l G ct s.heap.size hd us op n ck fo h0 k hn hkn hfo) (tb_V hw cy_D_findSession ww_154 ww_156 wp_D_findSession rfl rfl ⟨Nat.le_of_ble_eq_true rfl, Nat.le_of_ble_eq_true rfl⟩) (wk_preV (ci := 0) (q0 := 0) hPc hK hDc rfl rfl) rfl rfl hl.1 rfl (lv_room (Nat.le_of_ble_eq_true rfl)) d_D_deliver_2 ⟨Nat.le_of_ble_eq_true rfl, Nat.le_of_ble_eq_true rfl⟩) (fun r900 er900 => ?_)
  subst er900
  refine tp_v (y := .ref h0) rfl ?_
  refine lv_astore (lv' := [(4, .ref h0), (0, .ref hd), (1, .int (nI k)), (2, .long a)]) hx hb d_D_deliver_5 hl (Nat.le_of_ble_eq_true rfl) rfl (fun ls hl => ?_)
  refine lv_aload hx hb d_D_deliver_7 (lv_at hl 0 rfl) ?_
  refine lv_ifnonnull (tgt := 22) hx hb d_D_deliver_9 (by decide) ?_
  refine lv_aload hx hb d_D_deliver_22 (lv_at hl 0 rfl) ?_
  refine lv_aload_n hx hb d_D_deliver_24 rfl (lv_at hl 1 rfl) ?_
  refine va_get (D := G) (ci := 0) (v := .int ck) (C := cr_D) (T := cf_D) (N := 4) hx hb hw uw_D hown hK.1 hP 0 rfl rfl 3 (by decide) (hw _ ww_71) (fun _ h9 => h9) rfl d_D_deliver_25 ?_
  have hPc : va_P G classes [(h0, .inr (3, [.ref hu, .int wy, .long (lN sec), .int bg, .int st, .long (lN x), .long (lN y), .long ky, .long c1, .long c2, .long ms, .long (lN rc)]))] s.heap := hP.sub [2] rfl
  have hDc := hD.sub (ws' := [(h0, .inr (3, [.ref hu, .int wy, .long (lN sec), .int bg, .int st, .long (lN x), .long (lN y), .long ky, .long c1, .long c2, .long ms, .long (lN rc)]))]) [2] (by decide) rfl
  refine vp_callSi (va_Run.run (va_runU (As := [.int ck]) (rest := []) ⟨hx, hb, hml, hown, hts⟩ (c_V_stateAt l G ct s.heap.size h0 hu wy sec bg st x y ky c1 c2 ms rc ck) (tb_U (owner := cr_S) (x := ⟨"PakeDesk$Session", "stateAt", "(I)I"⟩) hw cy_S_stateAt ww_162 ww_164 (va_Decl.of (hw _ ww_163) (hw _ ww_167)) ⟨by decide, by decide⟩ rfl ww_163 ww_166 rfl rfl ⟨Nat.le_of_ble_eq_true rfl, Nat.le_of_ble_eq_true rfl⟩) (wk_preV (ci := 3) (q0 := 0) hPc hK hDc rfl rfl) rfl rfl hl.1 rfl (lv_room (Nat.le_of_ble_eq_true rfl)) d_D_deliver_28 ⟨Nat.le_of_ble_eq_true rfl, Nat.le_of_ble_eq_true rfl⟩)) (fun r901 er901 => ?_)
  subst er901
  refine tp_i (hst) ?_
  refine lv_istore (lv' := [(5, .int 1), (4, .ref h0), (0, .ref hd), (1, .int (nI k)), (2, .long a)]) hx hb d_D_deliver_31 hl (Nat.le_of_ble_eq_true rfl) rfl (fun ls hl => ?_)
  refine lv_iload hx hb d_D_deliver_33 (lv_at hl 0 rfl) ?_
  refine lv_if_ne (tgt := 57) hx hb d_D_deliver_35 (by decide) (fun h902 => ?_) (fun h902 => ?_)
  · refine lv_iload hx hb d_D_deliver_57 (lv_at hl 0 rfl) ?_
    refine lv_iconst (v := 1) hx hb d_D_deliver_59 (by decide) ?_
    refine lv_icmp_ne (tgt := 86) hx hb d_D_deliver_60 (by decide) (fun h903 => ?_) (fun h903 => ?_)
    · exact absurd h903 (by decide)
    · refine lv_aload hx hb d_D_deliver_63 (lv_at hl 1 rfl) ?_
      refine lv_lload_n hx hb d_D_deliver_65 rfl (lv_at hl 4 rfl) ?_
      refine lv_aload_n hx hb d_D_deliver_66 rfl (lv_at hl 2 rfl) ?_
      refine va_get (D := G) (ci := 0) (v := .int ck) (C := cr_D) (T := cf_D) (N := 4) hx hb hw uw_D hown hK.1 hP 0 rfl rfl 3 (by decide) (hw _ ww_71) (fun _ h9 => h9) rfl d_D_deliver_67 ?_
      have hPc : va_P G classes [(h0, .inr (3, [.ref hu, .int wy, .long (lN sec), .int bg, .int st, .long (lN x), .long (lN y), .long ky, .long c1, .long c2, .long ms, .long (lN rc)])), (hu, .inr (1, [.int nb, .int sd, .int uw, .long (lN uo), .long ul, .long (lN uv), .int uf, .int u1, .int u2, .int u3]))] s.heap := hP.sub [2, 3] rfl
      have hDc := hD.sub (ws' := [(h0, .inr (3, [.ref hu, .int wy, .long (lN sec), .int bg, .int st, .long (lN x), .long (lN y), .long ky, .long c1, .long c2, .long ms, .long (lN rc)])), (hu, .inr (1, [.int nb, .int sd, .int uw, .long (lN uo), .long ul, .long (lN uv), .int uf, .int u1, .int u2, .int u3]))]) [2, 3] (by decide) rfl
      refine wk_i (va_runU (As := [.long a, .int ck]) (rest := []) ⟨hx, hb, hml, hown, hts⟩ (c_V_takesConf0 l G ct s.heap.size h0 hu wy sec bg st x y ky c1 c2 ms rc nb sd uw uo ul uv uf u1 u2 u3 a ck haw) (tb_U (owner := cr_S) (x := ⟨"PakeDesk$Session", "takesConfirmation", "(JI)Z"⟩) hw cy_S_takesConfirmation ww_566 ww_568 (va_Decl.of (hw _ ww_567) (hw _ ww_571)) ⟨by decide, by decide⟩ rfl ww_567 ww_570 rfl rfl ⟨Nat.le_of_ble_eq_true rfl, Nat.le_of_ble_eq_true rfl⟩) (wk_preV (ci := 3) (q0 := 0) hPc hK hDc rfl rfl) rfl rfl hl.1 rfl (lv_room (Nat.le_of_ble_eq_true rfl)) d_D_deliver_70 ⟨Nat.le_of_ble_eq_true rfl, Nat.le_of_ble_eq_true rfl⟩) hP hD hS hA [2, 3] (by decide) rfl (fun _ => by simp only [List.map_cons, List.map_nil]) (fun _ H locs ok904 hP hD hS => ?_)
      have hP : va_P G classes [(hd, .inr (0, [.ref us, .ref op, .int (nI n), .int ck])), (op, .inl ((ct 4), 40, .inr (.inr (.inr (.inr fo))))), (h0, .inr (3, [.ref hu, .int wy, .long (lN sec), .int bg, .int 3, .long (lN x), .long (lN y), .long ky, .long c1, .long c2, .long ms, .long (lN rc)])), (hu, .inr (1, [.int nb, .int sd, .int uw, .long (lN uo), .long ul, .long (lN uv), .int (uf + 1), .int ck, .int u1, .int u2]))] H := hP
      have hD : va_D A [(hd, .inr (0, [.ref us, .ref op, .int (nI n), .int ck])), (op, .inl ((ct 4), 40, .inr (.inr (.inr (.inr fo))))), (h0, .inr (3, [.ref hu, .int wy, .long (lN sec), .int bg, .int 3, .long (lN x), .long (lN y), .long ky, .long c1, .long c2, .long ms, .long (lN rc)])), (hu, .inr (1, [.int nb, .int sd, .int uw, .long (lN uo), .long ul, .long (lN uv), .int (uf + 1), .int ck, .int u1, .int u2]))] := hD
      refine lv_if_ne (tgt := 96) hx hb d_D_deliver_73 (by decide) (fun h905 => ?_) (fun h905 => ?_)
      · exact absurd h905 (by decide)
      · obtain ⟨sa, hstr⟩ := hR _ (List.mem_of_getElem? (l := st_tx) (i := 5) rfl)
        exact th_throw (own := "PakeDesk") (cls := "java/lang/UnsupportedOperationException") (names := ["java/lang/RuntimeException", "java/lang/Exception"]) hx hb hlocks (st_out B _) (hl.1.trans hml.symm) htr hown (by decide) (by decide) (hw _ ww_594) (hw _ ww_595) (hw _ ww_16) (st_hat hw hK.2 hZ hS ow_UO) hstr d_D_deliver_76 d_D_deliver_79 d_D_deliver_80 d_D_deliver_82 d_D_deliver_85 (Nat.le_of_ble_eq_true rfl) (Nat.le_of_ble_eq_true rfl) (Nat.le_of_ble_eq_true rfl) (Nat.le_of_ble_eq_true rfl) hS.2.2 (wk_T.of hP hD hS)
  · exact absurd h902 (by decide)
set_option maxHeartbeats 4000000 in
set_option maxRecDepth 100000 in
theorem c_D_deliver_ZV (l : Launch) (hfl : l.flags = pinnedFlags ++ [noTraceFlag]) (G : va_G) (ct : Nat → ClassId) (sz : Nat) (hd : Nat) (us : Nat) (op : Nat) (n : Nat) (ck : Int32) (fo : Nat → Option Nat) (k : Nat) (h0 : Nat) (hu : Nat) (wy : Int32) (sec : Nat) (bg : Int32) (st : Int32) (x : Nat) (y : Nat) (ky : Int64) (c1 : Int64) (c2 : Int64) (ms : Int64) (rc : Nat) (a : Int64) (hn : n ≤ 40) (hkn : k < n) (hfo : fo k = some h0) (hs0 : ¬ se_at st bg ck = 0) (hs1 : ¬ se_at st bg ck = 1) : tm_Met l my_D_deliver (tb_w my_D_deliver mb_D_deliver 6 (some .int)) ({ frames := 6, cells := 1, slots := 6, locals := 82 }) (wk_P4 [.ref hd, .int (nI k), .long a] G ct [(hd, .inr (0, [.ref us, .ref op, .int (nI n), .int ck])), (op, .inl ((ct 4), 40, .inr (.inr (.inr (.inr fo))))), (h0, .inr (3, [.ref hu, .int wy, .long (lN sec), .int bg, .int st, .long (lN x), .long (lN y), .long ky, .long c1, .long c2, .long ms, .long (lN rc)]))] sz) (wk_T "java/lang/IllegalStateException" [(hd, .inr (0, [.ref us, .ref op, .int (nI n), .int ck])), (op, .inl ((ct 4), 40, .inr (.inr (.inr (.inr fo))))), (h0, .inr (3, [.ref hu, .int wy, .long (lN sec), .int bg, .int st, .long (lN x), .long (lN y), .long ky, .long c1, .long c2, .long ms, .long (lN rc)]))] G (va_A [(hd, .inr (0, [.ref us, .ref op, .int (nI n), .int ck])), (op, .inl ((ct 4), 40, .inr (.inr (.inr (.inr fo))))), (h0, .inr (3, [.ref hu, .int wy, .long (lN sec), .int bg, .int st, .long (lN x), .long (lN y), .long ky, .long c1, .long c2, .long ms, .long (lN rc)]))] sz)) 1 6 (va_A [(hd, .inr (0, [.ref us, .ref op, .int (nI n), .int ck])), (op, .inl ((ct 4), 40, .inr (.inr (.inr (.inr fo))))), (h0, .inr (3, [.ref hu, .int wy, .long (lN sec), .int bg, .int st, .long (lN x), .long (lN y), .long ky, .long c1, .long c2, .long ms, .long (lN rc)]))] sz) := by
  refine tm_ofW (cc := mb_D_deliver) (maxL := 6) (ret := (some .int)) (by decide) rfl ?_
  intro p e s m args below meth c s₁ B hml hv
  obtain ⟨⟨⟨rfl, hsz, hP, hK, hD0⟩, hZ⟩, hR⟩ := hv
  have htr := Launch.traces_off hfl B.admits
  have hx := B.exec
  have hb := B.bytes
  have hr := B.returns
  have hts := atoms_spec (ws := tb_w my_D_deliver mb_D_deliver 6 (some .int)) B.pre
  have hw : ∀ w ∈ gt_tbl, w.before [.ref hd, .int (nI k), .long a].toArray s = true := fun w h => hts w (List.mem_cons_of_mem _ h)
  have hown : s.vm.findClass cr_D = some m.cls := findClass_of_methodNamed B.named
  have hlocks := B.notSynchronized
  subst hsz
  have hD := hD0.self (sz := s.heap.size)
  generalize hAe : va_A [(hd, .inr (0, [.ref us, .ref op, .int (nI n), .int ck])), (op, .inl ((ct 4), 40, .inr (.inr (.inr (.inr fo))))), (h0, .inr (3, [.ref hu, .int wy, .long (lN sec), .int bg, .int st, .long (lN x), .long (lN y), .long ky, .long c1, .long c2, .long ms, .long (lN rc)]))] s.heap.size = A at hD hZ ⊢
  have hA : ∀ q : Nat, s.heap.size ≤ q → A q := fun q h => by rw [← hAe]; exact Or.inr h
  have hS : va_S A s.heap s.heap [] := va_S.rf
  have hP : va_P G classes [(hd, .inr (0, [.ref us, .ref op, .int (nI n), .int ck])), (op, .inl ((ct 4), 40, .inr (.inr (.inr (.inr fo))))), (h0, .inr (3, [.ref hu, .int wy, .long (lN sec), .int bg, .int st, .long (lN x), .long (lN y), .long ky, .long c1, .long c2, .long ms, .long (lN rc)]))] s.heap := hP
  have hl := lv_entry ([.ref hd, .int (nI k), .long a]) (n := 6) (Nat.le_of_ble_eq_true rfl)
  rw [lg_entry_eq]
  generalize (lg_sl ([.ref hd, .int (nI k), .long a]) ++ List.replicate (6 - (lg_sl ([.ref hd, .int (nI k), .long a])).length) Slot.unset).toArray = ls at hl ⊢
  have hl : lv_has ls 6 [(0, .ref hd), (1, .int (nI k)), (2, .long a)] := hl
  refine lv_aload_n hx hb d_D_deliver_0 rfl (lv_at hl 0 rfl) ?_
  refine lv_iload_n hx hb d_D_deliver_1 rfl (lv_at hl 1 rfl) ?_
  have hPc : va_P G classes [(hd, .inr (0, [.ref us, .ref op, .int (nI n), .int ck])), (op, .inl ((ct 4), 40, .inr (.inr (.inr (.inr fo)))))] s.heap := hP.sub [0, 1] rfl
  have hDc := hD.sub (ws' := [(hd, .inr (0, [.ref us, .ref op, .int (nI n), .int ck])), (op, .inl ((ct 4), 40, .inr (.inr (.inr (.inr fo)))))]) [0, 1] (by decide) rfl
  refine va_csq (W.runV (As := [.int (nI k)]) (rest := []) ⟨hx, hb, hml, hown, hts⟩ (c_D_findSession1 l G ct s.heap.size hd us op n ck fo h0 k hn hkn hfo) (tb_V hw cy_D_findSession ww_154 ww_156 wp_D_findSession rfl rfl ⟨Nat.le_of_ble_eq_true rfl, Nat.le_of_ble_eq_true rfl⟩) (wk_preV (ci := 0) (q0 := 0) hPc hK hDc rfl rfl) rfl rfl hl.1 rfl (lv_room (Nat.le_of_ble_eq_true rfl)) d_D_deliver_2 ⟨Nat.le_of_ble_eq_true rfl, Nat.le_of_ble_eq_true rfl⟩) (fun r906 er906 => ?_)
  subst er906
  refine tp_v (y := .ref h0) rfl ?_
  refine lv_astore (lv' := [(4, .ref h0), (0, .ref hd), (1, .int (nI k)), (2, .long a)]) hx hb d_D_deliver_5 hl (Nat.le_of_ble_eq_true rfl) rfl (fun ls hl => ?_)
  refine lv_aload hx hb d_D_deliver_7 (lv_at hl 0 rfl) ?_
  refine lv_ifnonnull (tgt := 22) hx hb d_D_deliver_9 (by decide) ?_
  refine lv_aload hx hb d_D_deliver_22 (lv_at hl 0 rfl) ?_
  refine lv_aload_n hx hb d_D_deliver_24 rfl (lv_at hl 1 rfl) ?_
  refine va_get (D := G) (ci := 0) (v := .int ck) (C := cr_D) (T := cf_D) (N := 4) hx hb hw uw_D hown hK.1 hP 0 rfl rfl 3 (by decide) (hw _ ww_71) (fun _ h9 => h9) rfl d_D_deliver_25 ?_
  have hPc : va_P G classes [(h0, .inr (3, [.ref hu, .int wy, .long (lN sec), .int bg, .int st, .long (lN x), .long (lN y), .long ky, .long c1, .long c2, .long ms, .long (lN rc)]))] s.heap := hP.sub [2] rfl
  have hDc := hD.sub (ws' := [(h0, .inr (3, [.ref hu, .int wy, .long (lN sec), .int bg, .int st, .long (lN x), .long (lN y), .long ky, .long c1, .long c2, .long ms, .long (lN rc)]))]) [2] (by decide) rfl
  refine vp_callSi (va_Run.run (va_runU (As := [.int ck]) (rest := []) ⟨hx, hb, hml, hown, hts⟩ (c_V_stateAt l G ct s.heap.size h0 hu wy sec bg st x y ky c1 c2 ms rc ck) (tb_U (owner := cr_S) (x := ⟨"PakeDesk$Session", "stateAt", "(I)I"⟩) hw cy_S_stateAt ww_162 ww_164 (va_Decl.of (hw _ ww_163) (hw _ ww_167)) ⟨by decide, by decide⟩ rfl ww_163 ww_166 rfl rfl ⟨Nat.le_of_ble_eq_true rfl, Nat.le_of_ble_eq_true rfl⟩) (wk_preV (ci := 3) (q0 := 0) hPc hK hDc rfl rfl) rfl rfl hl.1 rfl (lv_room (Nat.le_of_ble_eq_true rfl)) d_D_deliver_28 ⟨Nat.le_of_ble_eq_true rfl, Nat.le_of_ble_eq_true rfl⟩)) (fun r907 er907 => ?_)
  subst er907
  refine lv_istore (lv' := [(5, .int (se_at st bg ck)), (4, .ref h0), (0, .ref hd), (1, .int (nI k)), (2, .long a)]) hx hb d_D_deliver_31 hl (Nat.le_of_ble_eq_true rfl) rfl (fun ls hl => ?_)
  refine lv_iload hx hb d_D_deliver_33 (lv_at hl 0 rfl) ?_
  refine lv_if_ne (tgt := 57) hx hb d_D_deliver_35 (by decide) (fun h908 => ?_) (fun h908 => ?_)
  · refine lv_iload hx hb d_D_deliver_57 (lv_at hl 0 rfl) ?_
    refine lv_iconst (v := 1) hx hb d_D_deliver_59 (by decide) ?_
    refine lv_icmp_ne (tgt := 86) hx hb d_D_deliver_60 (by decide) (fun h909 => ?_) (fun h909 => ?_)
    · obtain ⟨sa, hstr⟩ := hR _ (List.mem_of_getElem? (l := st_tx) (i := 6) rfl)
      exact th_throw (own := "PakeDesk") (cls := "java/lang/IllegalStateException") (names := ["java/lang/RuntimeException", "java/lang/Exception"]) hx hb hlocks (st_out B _) (hl.1.trans hml.symm) htr hown (by decide) (by decide) (hw _ ww_261) (hw _ ww_262) (hw _ ww_10) (st_hat hw hK.2 hZ hS ow_IS) hstr d_D_deliver_86 d_D_deliver_89 d_D_deliver_90 d_D_deliver_92 d_D_deliver_95 (Nat.le_of_ble_eq_true rfl) (Nat.le_of_ble_eq_true rfl) (Nat.le_of_ble_eq_true rfl) (Nat.le_of_ble_eq_true rfl) hS.2.2 (wk_T.of hP hD hS)
    · exact absurd h909 hs1
  · exact absurd h908 hs0
