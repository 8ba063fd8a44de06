theorem ww_14 : (Jvm.Cond.initialized "java/util/NoSuchElementException") ∈ gt_tbl := gt_m (List.mem_append_right _ (List.mem_append_left _ (List.mem_of_getElem? (i := 14) (by decide +kernel)))) (by decide)
theorem ww_227 : (Jvm.Cond.selects "java/util/NoSuchElementException" ({ cls := "java/lang/Throwable", name := "fillInStackTrace", desc := "()Ljava/lang/Throwable;" } : Jvm.MethodName) ({ cls := "java/lang/Throwable", name := "fillInStackTrace", desc := "()Ljava/lang/Throwable;" } : Jvm.MethodName)) ∈ gt_tbl := gt_m (List.mem_append_right _ (List.mem_append_left _ (List.mem_of_getElem? (i := 227) (by decide +kernel)))) (by decide)
theorem ww_428 : (Jvm.Cond.classLink "PakeDesk" (93 : Nat) "java/util/NoSuchElementException") ∈ gt_tbl := gt_m (List.mem_append_right _ (List.mem_append_right _ (List.mem_append_left _ (List.mem_of_getElem? (i := 188) (by decide +kernel))))) (by decide)
theorem ww_429 : (Jvm.Cond.instantiable "java/util/NoSuchElementException" (6 : Nat)) ∈ gt_tbl := gt_m (List.mem_append_right _ (List.mem_append_right _ (List.mem_append_left _ (List.mem_of_getElem? (i := 189) (by decide +kernel))))) (by decide)
theorem ww_431 : (Jvm.Cond.selects "java/util/NoSuchElementException" ({ cls := "java/lang/Throwable", name := "fillInStackTrace", desc := "(I)Ljava/lang/Throwable;" } : Jvm.MethodName) ({ cls := "java/lang/Throwable", name := "fillInStackTrace", desc := "(I)Ljava/lang/Throwable;" } : Jvm.MethodName)) ∈ gt_tbl := gt_m (List.mem_append_right _ (List.mem_append_right _ (List.mem_append_left _ (List.mem_of_getElem? (i := 191) (by decide +kernel))))) (by decide)
theorem ww_432 : (Jvm.Cond.lays "java/util/NoSuchElementException" "java/lang/Throwable" "cause" "Ljava/lang/Throwable;") ∈ gt_tbl := gt_m (List.mem_append_right _ (List.mem_append_right _ (List.mem_append_left _ (List.mem_of_getElem? (i := 192) (by decide +kernel))))) (by decide)
theorem ww_433 : (Jvm.Cond.lays "java/util/NoSuchElementException" "java/lang/Throwable" "stackTrace" "[Ljava/lang/StackTraceElement;") ∈ gt_tbl := gt_m (List.mem_append_right _ (List.mem_append_right _ (List.mem_append_left _ (List.mem_of_getElem? (i := 193) (by decide +kernel))))) (by decide)
theorem ww_434 : (Jvm.Cond.lays "java/util/NoSuchElementException" "java/lang/Throwable" "suppressedExceptions" "Ljava/util/List;") ∈ gt_tbl := gt_m (List.mem_append_right _ (List.mem_append_right _ (List.mem_append_left _ (List.mem_of_getElem? (i := 194) (by decide +kernel))))) (by decide)
theorem ww_435 : (Jvm.Cond.lays "java/util/NoSuchElementException" "java/lang/Throwable" "detailMessage" "Ljava/lang/String;") ∈ gt_tbl := gt_m (List.mem_append_right _ (List.mem_append_right _ (List.mem_append_left _ (List.mem_of_getElem? (i := 195) (by decide +kernel))))) (by decide)
theorem ww_436 : (Jvm.Cond.lays "java/util/NoSuchElementException" "java/lang/Throwable" "backtrace" "Ljava/lang/Object;") ∈ gt_tbl := gt_m (List.mem_append_right _ (List.mem_append_right _ (List.mem_append_left _ (List.mem_of_getElem? (i := 196) (by decide +kernel))))) (by decide)
theorem ww_438 : (Jvm.Cond.methodLink "PakeDesk" (97 : Nat) ({ cls := "java/util/NoSuchElementException", name := "<init>", desc := "(Ljava/lang/String;)V" } : Jvm.MethodName)) ∈ gt_tbl := gt_m (List.mem_append_right _ (List.mem_append_right _ (List.mem_append_left _ (List.mem_of_getElem? (i := 198) (by decide +kernel))))) (by decide)
theorem ww_439 : (Jvm.Cond.instanceMethod ({ cls := "java/util/NoSuchElementException", name := "<init>", desc := "(Ljava/lang/String;)V" } : Jvm.MethodName)) ∈ gt_tbl := gt_m (List.mem_append_right _ (List.mem_append_right _ (List.mem_append_left _ (List.mem_of_getElem? (i := 199) (by decide +kernel))))) (by decide)
theorem ww_440 : (Jvm.Cond.code ({ cls := "java/util/NoSuchElementException", name := "<init>", desc := "(Ljava/lang/String;)V" } : Jvm.MethodName) prog_18_method_4_code (2 : Nat) (Option.none : Option Jvm.ClassFile.FieldType)) ∈ gt_tbl := gt_m (List.mem_append_right _ (List.mem_append_right _ (List.mem_append_left _ (List.mem_of_getElem? (i := 200) (by decide +kernel))))) (by decide)
theorem ww_441 : (Jvm.Cond.methodLink "java/util/NoSuchElementException" (13 : Nat) ({ cls := "java/lang/RuntimeException", name := "<init>", desc := "(Ljava/lang/String;)V" } : Jvm.MethodName)) ∈ gt_tbl := gt_m (List.mem_append_right _ (List.mem_append_right _ (List.mem_append_left _ (List.mem_of_getElem? (i := 201) (by decide +kernel))))) (by decide)
theorem ow_NE : ∀ w ∈ ne_ws, w ∈ gt_tbl ∨ w ∈ nw_tbl ∨ w ∈ st_ws :=
  st_c (Or.inl ww_438) (
  st_c (Or.inl ww_429) (
  st_c (Or.inl ww_431) (
  st_c (Or.inl ww_227) (
  st_c (Or.inl ww_432) (
  st_c (Or.inl ww_433) (
  st_c (Or.inl ww_434) (
  st_c (Or.inl ww_435) (
  st_c (Or.inl ww_436) (
  st_c (Or.inr (Or.inr (List.mem_of_getElem? (i := 0) rfl))) (
  st_c (Or.inr (Or.inr (List.mem_of_getElem? (i := 1) rfl))) (
  st_c (Or.inl ww_213) (
  st_c (Or.inl ww_212) (
  st_c (Or.inl ww_439) (
  st_c (Or.inl ww_440) (
  st_c (Or.inl ww_441) (
  st_c (Or.inl ww_239) (
  st_c (Or.inr (Or.inl wf_196)) (
  st_c (Or.inl ww_239) (
  st_c (Or.inl ww_240) (
  st_c (Or.inl ww_241) (
  st_c (Or.inl ww_242) (
  st_c (Or.inr (Or.inl wf_198)) (
  st_c (Or.inl ww_242) (
  st_c (Or.inl ww_243) (
  st_c (Or.inl ww_244) (
  st_c (Or.inl ww_245) (
  st_c (Or.inr (Or.inl wf_200)) (
  st_c (Or.inl ww_245) (
  st_c (Or.inl ww_246) (
  st_c (Or.inl ww_248) (
  st_c (Or.inl ww_210) (
  st_c (Or.inl ww_6) (
  st_c (Or.inl ww_214) (
  st_c (Or.inl ww_223) (
  st_c (Or.inl ww_228) (
  st_c (Or.inl ww_231) (
  st_c (Or.inl ww_233) (
  st_c (Or.inl ww_215) (
  st_c (Or.inl ww_216) (
  st_c (Or.inl ww_23) (
  st_c (Or.inl ww_24) (
  st_c (Or.inl ww_217) (
  st_c (Or.inl ww_222) (
  st_c (Or.inl ww_229) (
  st_c (Or.inl ww_249) (
  st_c (Or.inl ww_204) (
  st_c (Or.inl ww_250) (
  st_c (Or.inl ww_206) (
  st_c (Or.inl ww_251) (
  st_c (Or.inl ww_208) (
  st_c (Or.inl ww_218) (
  st_c (Or.inr (Or.inr (List.mem_of_getElem? (i := 2) rfl))) (
  st_c (Or.inl ww_220) (
  st_c (Or.inr (Or.inr (List.mem_of_getElem? (i := 3) rfl))) (
  st_c (Or.inl ww_210) (
  (fun _ h => nomatch h)))))))))))))))))))))))))))))))))))))))))))))))))))))))))
set_option maxHeartbeats 4000000 in
set_option maxRecDepth 100000 in
theorem c_D_key0 (l : Launch) (hfl : l.flags = pinnedFlags ++ [noTraceFlag]) (G : va_G) (ct : Nat → ClassId) (sz : Nat) (hd : Nat) (us : Nat) (op : Nat) (n : Nat) (ck : Int32) (sa : Int32) (hno : ¬ th_in sa n) : tm_Met l my_D_key (tb_w my_D_key mb_D_key 3 (some .long)) ({ frames := 6, cells := 1, slots := 6, locals := 82 }) (wk_P4 [.ref hd, .int sa] G ct [(hd, .inr (0, [.ref us, .ref op, .int (nI n), .int ck]))] sz) (wk_T "java/util/NoSuchElementException" [(hd, .inr (0, [.ref us, .ref op, .int (nI n), .int ck]))] G (va_A [(hd, .inr (0, [.ref us, .ref op, .int (nI n), .int ck]))] sz)) 1 6 (va_A [(hd, .inr (0, [.ref us, .ref op, .int (nI n), .int ck]))] sz) := by
  refine tm_ofW (cc := mb_D_key) (maxL := 3) (ret := (some .long)) (by decide) rfl ?_
  intro p e s m args below meth c s₁ B hml hv
  obtain ⟨⟨⟨rfl, hsz, hP, hK, hD0⟩, hZ⟩, hR⟩ := hv
  have htr := Launch.traces_off hfl B.admits
  have hx := B.exec
  have hb := B.bytes
  have hr := B.returns
  have hts := atoms_spec (ws := tb_w my_D_key mb_D_key 3 (some .long)) B.pre
  have hw : ∀ w ∈ gt_tbl, w.before [.ref hd, .int sa].toArray s = true := fun w h => hts w (List.mem_cons_of_mem _ h)
  have hown : s.vm.findClass cr_D = some m.cls := findClass_of_methodNamed B.named
  have hlocks := B.notSynchronized
  subst hsz
  have hD := hD0.self (sz := s.heap.size)
  generalize hAe : va_A [(hd, .inr (0, [.ref us, .ref op, .int (nI n), .int ck]))] s.heap.size = A at hD hZ ⊢
  have hA : ∀ q : Nat, s.heap.size ≤ q → A q := fun q h => by rw [← hAe]; exact Or.inr h
  have hS : va_S A s.heap s.heap [] := va_S.rf
  have hP : va_P G classes [(hd, .inr (0, [.ref us, .ref op, .int (nI n), .int ck]))] s.heap := hP
  have hl := lv_entry ([.ref hd, .int sa]) (n := 3) (Nat.le_of_ble_eq_true rfl)
  rw [lg_entry_eq]
  generalize (lg_sl ([.ref hd, .int sa]) ++ List.replicate (3 - (lg_sl ([.ref hd, .int sa])).length) Slot.unset).toArray = ls at hl ⊢
  have hl : lv_has ls 3 [(0, .ref hd), (1, .int sa)] := hl
  refine lv_aload_n hx hb d_D_key_0 rfl (lv_at hl 0 rfl) ?_
  refine lv_iload_n hx hb d_D_key_1 rfl (lv_at hl 1 rfl) ?_
  have hPc : va_P G classes [(hd, .inr (0, [.ref us, .ref op, .int (nI n), .int ck]))] s.heap := hP.sub [0] rfl
  have hDc := hD.sub (ws' := [(hd, .inr (0, [.ref us, .ref op, .int (nI n), .int ck]))]) [0] (by decide) rfl
  refine va_csq (W.runV (As := [.int sa]) (rest := []) ⟨hx, hb, hml, hown, hts⟩ (c_D_findSession0 l G ct s.heap.size hd us op n ck sa hno) (tb_V hw cy_D_findSession ww_154 ww_156 wp_D_findSession rfl rfl ⟨Nat.le_of_ble_eq_true rfl, Nat.le_of_ble_eq_true rfl⟩) (wk_preV (ci := 0) (q0 := 0) hPc hK hDc rfl rfl) rfl rfl hl.1 rfl (lv_room (Nat.le_of_ble_eq_true rfl)) d_D_key_2 ⟨Nat.le_of_ble_eq_true rfl, Nat.le_of_ble_eq_true rfl⟩) (fun r910 er910 => ?_)
  subst er910
  refine tp_v (y := .null) rfl ?_
  refine lv_astore_nN (lv' := [(2, .null), (0, .ref hd), (1, .int sa)]) hx hb d_D_key_5 rfl hl (Nat.le_of_ble_eq_true rfl) rfl (fun ls hl => ?_)
  refine lv_aload_nN hx hb d_D_key_6 rfl (lv_at hl 0 rfl) ?_
  refine lv_ifnonnullN hx hb d_D_key_7 ?_
  obtain ⟨sx, hstr⟩ := hR _ (List.mem_of_getElem? (l := st_tx) (i := 3) rfl)
  exact ne_throw hx hb hlocks (st_out B _) (hl.1.trans hml.symm) htr hown (hw _ ww_428) (hw _ ww_429) (hw _ ww_14) (ne_hat hw hK.2 hZ hS ow_NE) hstr d_D_key_10 d_D_key_13 d_D_key_14 d_D_key_16 d_D_key_19 (Nat.le_of_ble_eq_true rfl) (Nat.le_of_ble_eq_true rfl) (Nat.le_of_ble_eq_true rfl) (Nat.le_of_ble_eq_true rfl) hS.2.2 (wk_T.of hP hD hS)
set_option maxHeartbeats 4000000 in
set_option maxRecDepth 100000 in
theorem c_D_deliver_N (l : Launch) (hfl : l.flags = pinnedFlags ++ [noTraceFlag]) (G : va_G) (ct : Nat → ClassId) (sz : Nat) (hd : Nat) (us : Nat) (op : Nat) (n : Nat) (ck : Int32) (sa : Int32) (a : Int64) (hno : ¬ th_in sa n) : tm_Met l my_D_deliver (tb_w my_D_deliver mb_D_deliver 6 (some .int)) ({ frames := 6, cells := 1, slots := 6, locals := 82 }) (wk_P4 [.ref hd, .int sa, .long a] G ct [(hd, .inr (0, [.ref us, .ref op, .int (nI n), .int ck]))] sz) (wk_T "java/util/NoSuchElementException" [(hd, .inr (0, [.ref us, .ref op, .int (nI n), .int ck]))] G (va_A [(hd, .inr (0, [.ref us, .ref op, .int (nI n), .int ck]))] sz)) 1 6 (va_A [(hd, .inr (0, [.ref us, .ref op, .int (nI n), .int ck]))] sz) := by
  refine tm_ofW (cc := mb_D_deliver) (maxL := 6) (ret := (some .int)) (by decide) rfl ?_
  intro p e s m args below meth c s₁ B hml hv
  obtain ⟨⟨⟨rfl, hsz, hP, hK, hD0⟩, hZ⟩, hR⟩ := hv
  have htr := Launch.traces_off hfl B.admits
  have hx := B.exec
  have hb := B.bytes
  have hr := B.returns
  have hts := atoms_spec (ws := tb_w my_D_deliver mb_D_deliver 6 (some .int)) B.pre
  have hw : ∀ w ∈ gt_tbl, w.before [.ref hd, .int sa, .long a].toArray s = true := fun w h => hts w (List.mem_cons_of_mem _ h)
  have hown : s.vm.findClass cr_D = some m.cls := findClass_of_methodNamed B.named
  have hlocks := B.notSynchronized
  subst hsz
  have hD := hD0.self (sz := s.heap.size)
  generalize hAe : va_A [(hd, .inr (0, [.ref us, .ref op, .int (nI n), .int ck]))] s.heap.size = A at hD hZ ⊢
  have hA : ∀ q : Nat, s.heap.size ≤ q → A q := fun q h => by rw [← hAe]; exact Or.inr h
  have hS : va_S A s.heap s.heap [] := va_S.rf
  have hP : va_P G classes [(hd, .inr (0, [.ref us, .ref op, .int (nI n), .int ck]))] s.heap := hP
  have hl := lv_entry ([.ref hd, .int sa, .long a]) (n := 6) (Nat.le_of_ble_eq_true rfl)
  rw [lg_entry_eq]
  generalize (lg_sl ([.ref hd, .int sa, .long a]) ++ List.replicate (6 - (lg_sl ([.ref hd, .int sa, .long a])).length) Slot.unset).toArray = ls at hl ⊢
  have hl : lv_has ls 6 [(0, .ref hd), (1, .int sa), (2, .long a)] := hl
  refine lv_aload_n hx hb d_D_deliver_0 rfl (lv_at hl 0 rfl) ?_
  refine lv_iload_n hx hb d_D_deliver_1 rfl (lv_at hl 1 rfl) ?_
  have hPc : va_P G classes [(hd, .inr (0, [.ref us, .ref op, .int (nI n), .int ck]))] s.heap := hP.sub [0] rfl
  have hDc := hD.sub (ws' := [(hd, .inr (0, [.ref us, .ref op, .int (nI n), .int ck]))]) [0] (by decide) rfl
  refine va_csq (W.runV (As := [.int sa]) (rest := []) ⟨hx, hb, hml, hown, hts⟩ (c_D_findSession0 l G ct s.heap.size hd us op n ck sa hno) (tb_V hw cy_D_findSession ww_154 ww_156 wp_D_findSession rfl rfl ⟨Nat.le_of_ble_eq_true rfl, Nat.le_of_ble_eq_true rfl⟩) (wk_preV (ci := 0) (q0 := 0) hPc hK hDc rfl rfl) rfl rfl hl.1 rfl (lv_room (Nat.le_of_ble_eq_true rfl)) d_D_deliver_2 ⟨Nat.le_of_ble_eq_true rfl, Nat.le_of_ble_eq_true rfl⟩) (fun r911 er911 => ?_)
  subst er911
  refine tp_v (y := .null) rfl ?_
  refine lv_astoreN (lv' := [(4, .null), (0, .ref hd), (1, .int sa), (2, .long a)]) hx hb d_D_deliver_5 hl (Nat.le_of_ble_eq_true rfl) rfl (fun ls hl => ?_)
  refine lv_aloadN hx hb d_D_deliver_7 (lv_at hl 0 rfl) ?_
  refine lv_ifnonnullN hx hb d_D_deliver_9 ?_
  obtain ⟨sx, hstr⟩ := hR _ (List.mem_of_getElem? (l := st_tx) (i := 3) rfl)
  exact ne_throw hx hb hlocks (st_out B _) (hl.1.trans hml.symm) htr hown (hw _ ww_428) (hw _ ww_429) (hw _ ww_14) (ne_hat hw hK.2 hZ hS ow_NE) hstr d_D_deliver_12 d_D_deliver_15 d_D_deliver_16 d_D_deliver_18 d_D_deliver_21 (Nat.le_of_ble_eq_true rfl) (Nat.le_of_ble_eq_true rfl) (Nat.le_of_ble_eq_true rfl) (Nat.le_of_ble_eq_true rfl) hS.2.2 (wk_T.of hP hD hS)
set_option maxHeartbeats 4000000 in
set_option maxRecDepth 100000 in
theorem c_D_receive_N (l : Launch) (hfl : l.flags = pinnedFlags ++ [noTraceFlag]) (G : va_G) (ct : Nat → ClassId) (sz : Nat) (hd : Nat) (us : Nat) (op : Nat) (n : Nat) (ck : Int32) (sa : Int32) (a : Int64) (hno : ¬ th_in sa n) : tm_Met l my_D_receive (tb_w my_D_receive mb_D_receive 4 (some .int)) ({ frames := 7, cells := 1, slots := 6, locals := 107 }) (wk_P4 [.ref hd, .int sa, .long a] G ct [(hd, .inr (0, [.ref us, .ref op, .int (nI n), .int ck]))] sz) (wk_T "java/util/NoSuchElementException" [(hd, .inr (0, [.ref us, .ref op, .int (nI n), .int ck]))] G (va_A [(hd, .inr (0, [.ref us, .ref op, .int (nI n), .int ck]))] sz)) 1 6 (va_A [(hd, .inr (0, [.ref us, .ref op, .int (nI n), .int ck]))] sz) := by
  refine tm_ofW (cc := mb_D_receive) (maxL := 4) (ret := (some .int)) (by decide) rfl ?_
  intro p e s m args below meth c s₁ B hml hv
  obtain ⟨⟨⟨rfl, hsz, hP, hK, hD0⟩, hZ⟩, hR⟩ := hv
  have htr := Launch.traces_off hfl B.admits
  have hx := B.exec
  have hb := B.bytes
  have hr := B.returns
  have hts := atoms_spec (ws := tb_w my_D_receive mb_D_receive 4 (some .int)) B.pre
  have hw : ∀ w ∈ gt_tbl, w.before [.ref hd, .int sa, .long a].toArray s = true := fun w h => hts w (List.mem_cons_of_mem _ h)
  have hown : s.vm.findClass cr_D = some m.cls := findClass_of_methodNamed B.named
  have hlocks := B.notSynchronized
  subst hsz
  have hD := hD0.self (sz := s.heap.size)
  generalize hAe : va_A [(hd, .inr (0, [.ref us, .ref op, .int (nI n), .int ck]))] s.heap.size = A at hD hZ ⊢
  have hA : ∀ q : Nat, s.heap.size ≤ q → A q := fun q h => by rw [← hAe]; exact Or.inr h
  have hS : va_S A s.heap s.heap [] := va_S.rf
  have hP : va_P G classes [(hd, .inr (0, [.ref us, .ref op, .int (nI n), .int ck]))] s.heap := hP
  have hl := lv_entry ([.ref hd, .int sa, .long a]) (n := 4) (Nat.le_of_ble_eq_true rfl)
  rw [lg_entry_eq]
  generalize (lg_sl ([.ref hd, .int sa, .long a]) ++ List.replicate (4 - (lg_sl ([.ref hd, .int sa, .long a])).length) Slot.unset).toArray = ls at hl ⊢
  have hl : lv_has ls 4 [(0, .ref hd), (1, .int sa), (2, .long a)] := hl
  refine lv_aload_n hx hb d_D_receive_0 rfl (lv_at hl 0 rfl) ?_
  refine lv_iload_n hx hb d_D_receive_1 rfl (lv_at hl 1 rfl) ?_
  refine lv_lload_n hx hb d_D_receive_2 rfl (lv_at hl 2 rfl) ?_
  have hPc : va_P G classes [(hd, .inr (0, [.ref us, .ref op, .int (nI n), .int ck]))] s.heap := hP.sub [0] rfl
  have hDc := hD.sub (ws' := [(hd, .inr (0, [.ref us, .ref op, .int (nI n), .int ck]))]) [0] (by decide) rfl
  exact wk_thru (As := [.int sa, .long a]) (rest := []) ⟨hx, hb, hml, hown, hts⟩ (c_D_deliver_N l hfl G ct s.heap.size hd us op n ck sa a hno) (tb_V hw cy_D_deliver ww_424 ww_426 wp_D_deliver rfl rfl ⟨Nat.le_of_ble_eq_true rfl, Nat.le_of_ble_eq_true rfl⟩) (wk_preV4 (ci := 0) (q0 := 0) hPc hK hDc hD hS hA [0] rfl hZ hR rfl rfl) rfl hl.1 rfl (lv_room (Nat.le_of_ble_eq_true rfl)) d_D_receive_3 ⟨Nat.le_of_ble_eq_true rfl, Nat.le_of_ble_eq_true rfl⟩ hP hD hS hA [0] (by decide) rfl (by simp only [List.map_cons, List.map_nil]) (st_out B _) hlocks
