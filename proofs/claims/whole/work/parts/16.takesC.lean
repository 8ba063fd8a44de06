theorem ww_450 : (Jvm.Cond.methodLink "PakeDesk$Session" (35 : Nat) ({ cls := "PakeDesk$Session", name := "isRightFirst", desc := "(J)Z" } : Jvm.MethodName)) ∈ gt_tbl := gt_m (List.mem_append_right _ (List.mem_append_right _ (List.mem_append_left _ (List.mem_of_getElem? (i := 210) (by decide +kernel))))) (by decide)
theorem ww_451 : (Jvm.Cond.instanceMethod ({ cls := "PakeDesk$Session", name := "isRightFirst", desc := "(J)Z" } : Jvm.MethodName)) ∈ gt_tbl := gt_m (List.mem_append_right _ (List.mem_append_right _ (List.mem_append_left _ (List.mem_of_getElem? (i := 211) (by decide +kernel))))) (by decide)
theorem ww_452 : (Jvm.Cond.sameMethod "PakeDesk$Session" "PakeDesk$Session" "isRightFirst" "(J)Z") ∈ gt_tbl := gt_m (List.mem_append_right _ (List.mem_append_right _ (List.mem_append_left _ (List.mem_of_getElem? (i := 212) (by decide +kernel))))) (by decide)
theorem ww_453 : (Jvm.Cond.selects "PakeDesk$Client" ({ cls := "PakeDesk$Session", name := "isRightFirst", desc := "(J)Z" } : Jvm.MethodName) ({ cls := "PakeDesk$Session", name := "isRightFirst", desc := "(J)Z" } : Jvm.MethodName)) ∈ gt_tbl := gt_m (List.mem_append_right _ (List.mem_append_right _ (List.mem_append_left _ (List.mem_of_getElem? (i := 213) (by decide +kernel))))) (by decide)
theorem ww_455 : (Jvm.Cond.code ({ cls := "PakeDesk$Session", name := "isRightFirst", desc := "(J)Z" } : Jvm.MethodName) prog_6_method_5_code (3 : Nat) (Option.some Jvm.ClassFile.FieldType.boolean)) ∈ gt_tbl := gt_m (List.mem_append_right _ (List.mem_append_right _ (List.mem_append_left _ (List.mem_of_getElem? (i := 215) (by decide +kernel))))) (by decide)
theorem ww_482 : (Jvm.Cond.methodLink "PakeDesk$Session" (39 : Nat) ({ cls := "PakeDesk$Session", name := "answerFirst", desc := "(J)V" } : Jvm.MethodName)) ∈ gt_tbl := gt_m (List.mem_append_right _ (List.mem_append_right _ (List.mem_append_right _ (List.mem_append_left _ (List.mem_of_getElem? (i := 2) (by decide +kernel)))))) (by decide)
theorem ww_484 : (Jvm.Cond.sameMethod "PakeDesk$Session" "PakeDesk$Session" "answerFirst" "(J)V") ∈ gt_tbl := gt_m (List.mem_append_right _ (List.mem_append_right _ (List.mem_append_right _ (List.mem_append_left _ (List.mem_of_getElem? (i := 4) (by decide +kernel)))))) (by decide)
theorem ww_485 : (Jvm.Cond.selects "PakeDesk$Client" ({ cls := "PakeDesk$Session", name := "answerFirst", desc := "(J)V" } : Jvm.MethodName) ({ cls := "PakeDesk$Client", name := "answerFirst", desc := "(J)V" } : Jvm.MethodName)) ∈ gt_tbl := gt_m (List.mem_append_right _ (List.mem_append_right _ (List.mem_append_right _ (List.mem_append_left _ (List.mem_of_getElem? (i := 5) (by decide +kernel)))))) (by decide)
theorem ww_486 : (Jvm.Cond.instanceMethod ({ cls := "PakeDesk$Client", name := "answerFirst", desc := "(J)V" } : Jvm.MethodName)) ∈ gt_tbl := gt_m (List.mem_append_right _ (List.mem_append_right _ (List.mem_append_right _ (List.mem_append_left _ (List.mem_of_getElem? (i := 6) (by decide +kernel)))))) (by decide)
theorem ww_487 : (Jvm.Cond.code ({ cls := "PakeDesk$Client", name := "answerFirst", desc := "(J)V" } : Jvm.MethodName) prog_2_method_3_code (3 : Nat) (Option.none : Option Jvm.ClassFile.FieldType)) ∈ gt_tbl := gt_m (List.mem_append_right _ (List.mem_append_right _ (List.mem_append_right _ (List.mem_append_left _ (List.mem_of_getElem? (i := 7) (by decide +kernel)))))) (by decide)
theorem ww_572 : (Jvm.Cond.methodLink "PakeDesk$Session" (43 : Nat) ({ cls := "PakeDesk$Session", name := "awaitedConfirmation", desc := "()J" } : Jvm.MethodName)) ∈ gt_tbl := gt_m (List.mem_append_right _ (List.mem_append_right _ (List.mem_append_right _ (List.mem_append_left _ (List.mem_of_getElem? (i := 92) (by decide +kernel)))))) (by decide)
theorem ww_574 : (Jvm.Cond.sameMethod "PakeDesk$Session" "PakeDesk$Session" "awaitedConfirmation" "()J") ∈ gt_tbl := gt_m (List.mem_append_right _ (List.mem_append_right _ (List.mem_append_right _ (List.mem_append_left _ (List.mem_of_getElem? (i := 94) (by decide +kernel)))))) (by decide)
theorem ww_575 : (Jvm.Cond.selects "PakeDesk$Client" ({ cls := "PakeDesk$Session", name := "awaitedConfirmation", desc := "()J" } : Jvm.MethodName) ({ cls := "PakeDesk$Client", name := "awaitedConfirmation", desc := "()J" } : Jvm.MethodName)) ∈ gt_tbl := gt_m (List.mem_append_right _ (List.mem_append_right _ (List.mem_append_right _ (List.mem_append_left _ (List.mem_of_getElem? (i := 95) (by decide +kernel)))))) (by decide)
theorem ww_576 : (Jvm.Cond.instanceMethod ({ cls := "PakeDesk$Client", name := "awaitedConfirmation", desc := "()J" } : Jvm.MethodName)) ∈ gt_tbl := gt_m (List.mem_append_right _ (List.mem_append_right _ (List.mem_append_right _ (List.mem_append_left _ (List.mem_of_getElem? (i := 96) (by decide +kernel)))))) (by decide)
theorem ww_577 : (Jvm.Cond.code ({ cls := "PakeDesk$Client", name := "awaitedConfirmation", desc := "()J" } : Jvm.MethodName) prog_2_method_5_code (1 : Nat) (Option.some Jvm.ClassFile.FieldType.long)) ∈ gt_tbl := gt_m (List.mem_append_right _ (List.mem_append_right _ (List.mem_append_right _ (List.mem_append_left _ (List.mem_of_getElem? (i := 97) (by decide +kernel)))))) (by decide)
theorem ww_581 : (Jvm.Cond.methodLink "PakeDesk$Session" (47 : Nat) ({ cls := "PakeDesk$Session", name := "endWith", desc := "(ZI)V" } : Jvm.MethodName)) ∈ gt_tbl := gt_m (List.mem_append_right _ (List.mem_append_right _ (List.mem_append_right _ (List.mem_append_left _ (List.mem_of_getElem? (i := 101) (by decide +kernel)))))) (by decide)
theorem ww_583 : (Jvm.Cond.sameMethod "PakeDesk$Session" "PakeDesk$Session" "endWith" "(ZI)V") ∈ gt_tbl := gt_m (List.mem_append_right _ (List.mem_append_right _ (List.mem_append_right _ (List.mem_append_left _ (List.mem_of_getElem? (i := 103) (by decide +kernel)))))) (by decide)
theorem ww_584 : (Jvm.Cond.selects "PakeDesk$Client" ({ cls := "PakeDesk$Session", name := "endWith", desc := "(ZI)V" } : Jvm.MethodName) ({ cls := "PakeDesk$Client", name := "endWith", desc := "(ZI)V" } : Jvm.MethodName)) ∈ gt_tbl := gt_m (List.mem_append_right _ (List.mem_append_right _ (List.mem_append_right _ (List.mem_append_left _ (List.mem_of_getElem? (i := 104) (by decide +kernel)))))) (by decide)
theorem ww_585 : (Jvm.Cond.instanceMethod ({ cls := "PakeDesk$Client", name := "endWith", desc := "(ZI)V" } : Jvm.MethodName)) ∈ gt_tbl := gt_m (List.mem_append_right _ (List.mem_append_right _ (List.mem_append_right _ (List.mem_append_left _ (List.mem_of_getElem? (i := 105) (by decide +kernel)))))) (by decide)
theorem ww_586 : (Jvm.Cond.code ({ cls := "PakeDesk$Client", name := "endWith", desc := "(ZI)V" } : Jvm.MethodName) prog_2_method_6_code (3 : Nat) (Option.none : Option Jvm.ClassFile.FieldType)) ∈ gt_tbl := gt_m (List.mem_append_right _ (List.mem_append_right _ (List.mem_append_right _ (List.mem_append_left _ (List.mem_of_getElem? (i := 106) (by decide +kernel)))))) (by decide)
theorem wf_483 : (Jvm.Cond.declares ({ cls := "PakeDesk$Session", name := "answerFirst", desc := "(J)V" } : Jvm.MethodName)) ∈ nw_tbl := List.mem_filter.mpr ⟨List.mem_append_right _ (List.mem_append_right _ (List.mem_append_right _ (List.mem_append_left _ (List.mem_of_getElem? (i := 3) (by decide +kernel))))), by decide⟩
theorem wf_573 : (Jvm.Cond.declares ({ cls := "PakeDesk$Session", name := "awaitedConfirmation", desc := "()J" } : Jvm.MethodName)) ∈ nw_tbl := List.mem_filter.mpr ⟨List.mem_append_right _ (List.mem_append_right _ (List.mem_append_right _ (List.mem_append_left _ (List.mem_of_getElem? (i := 93) (by decide +kernel))))), by decide⟩
theorem wf_582 : (Jvm.Cond.declares ({ cls := "PakeDesk$Session", name := "endWith", desc := "(ZI)V" } : Jvm.MethodName)) ∈ nw_tbl := List.mem_filter.mpr ⟨List.mem_append_right _ (List.mem_append_right _ (List.mem_append_right _ (List.mem_append_left _ (List.mem_of_getElem? (i := 102) (by decide +kernel))))), by decide⟩
theorem cy_S_isRightFirst : tb_C my_S_isRightFirst mb_S_isRightFirst 3 (some .boolean) 1 := ⟨ww_455, ww_11, by decide, by decide, by decide +kernel⟩
theorem cy_C_answerFirst : tb_C my_C_answerFirst mb_C_answerFirst 3 none 1 := ⟨ww_487, ww_12, by decide, by decide, by decide +kernel⟩
theorem cy_C_awaitedConfirmation : tb_C my_C_awaitedConfirmation mb_C_awaitedConfirmation 1 (some .long) 0 := ⟨ww_577, ww_12, by decide, by decide, by decide +kernel⟩
theorem cy_C_endWith : tb_C my_C_endWith mb_C_endWith 3 none 2 := ⟨ww_586, ww_12, by decide, by decide, by decide +kernel⟩
set_option maxHeartbeats 4000000 in
set_option maxRecDepth 100000 in
theorem c_C_takesFirst1 (l : Launch) (G : va_G) (ct : Nat → ClassId) (sz : Nat) (h0 : Nat) (hu : Nat) (wy : Int32) (sec : Nat) (bg : Int32) (st : Int32) (x : Nat) (y : Nat) (ky : Int64) (c1 : Int64) (c2 : Int64) (ms : Int64) (pw : Int64) (rc : Nat) (nb : Int32) (sd : Int32) (uw : Int32) (uo : Nat) (ul : Int64) (uv : Nat) (uf : Int32) (u1 : Int32) (u2 : Int32) (u3 : Int32) (n : Nat) (hs1 : sec < pq_Q) (hr0 : 1 ≤ rc) (hr1 : rc < pq_Q) (hn1 : n < pq_P) (hrt : rt_c wy rc (lN n)) : Met l my_S_takesFirst (tb_w my_S_takesFirst mb_S_takesFirst 4 (some .boolean)) ({ frames := 4, cells := 0, slots := 0, locals := 105 }) (wk_P [.ref h0, .long (lN n)] G ct [(h0, .inr (2, [.ref hu, .int wy, .long (lN sec), .int bg, .int st, .long (lN x), .long (lN y), .long ky, .long c1, .long c2, .long ms, .long pw, .long (lN rc)])), (hu, .inr (1, [.int nb, .int sd, .int uw, .long (lN uo), .long ul, .long (lN uv), .int uf, .int u1, .int u2, .int u3]))] sz) (wk_Q (wk_oi (S := Unit) (fun _ => 1) (fun _ => True)) (fun _ : Unit => [(h0, .inr (2, [.ref hu, .int wy, .long (lN sec), .int bg, .int 1, .long (lN x), .long (lN n), .long (cl_ky sd nb wy sec x n rc pw uw ul), .long (cf_c (cl_ky sd nb wy sec x n rc pw uw ul) x n), .long (cf_s (cl_ky sd nb wy sec x n rc pw uw ul) (cf_c (cl_ky sd nb wy sec x n rc pw uw ul) x n)), .long (cf_c (cl_ky sd nb wy sec x n rc pw uw ul) x n), .long pw, .long (lN rc)])), (hu, .inr (1, [.int nb, .int sd, .int uw, .long (lN uo), .long ul, .long (lN uv), .int uf, .int u1, .int u2, .int u3]))]) G (va_A [(h0, .inr (2, [.ref hu, .int wy, .long (lN sec), .int bg, .int st, .long (lN x), .long (lN y), .long ky, .long c1, .long c2, .long ms, .long pw, .long (lN rc)])), (hu, .inr (1, [.int nb, .int sd, .int uw, .long (lN uo), .long ul, .long (lN uv), .int uf, .int u1, .int u2, .int u3]))] sz)) 0 0 (va_A [(h0, .inr (2, [.ref hu, .int wy, .long (lN sec), .int bg, .int st, .long (lN x), .long (lN y), .long ky, .long c1, .long c2, .long ms, .long pw, .long (lN rc)])), (hu, .inr (1, [.int nb, .int sd, .int uw, .long (lN uo), .long ul, .long (lN uv), .int uf, .int u1, .int u2, .int u3]))] sz) := by
  refine Met.ofW (cc := mb_S_takesFirst) (maxL := 4) (ret := (some .boolean)) (by decide) rfl ?_
  intro p e s m args below meth c s₁ B hml hv
  obtain ⟨rfl, hsz, hP, hK, hD0⟩ := hv
  have hx := B.exec
  have hb := B.bytes
  have hr := B.returns
  have hts := atoms_spec (ws := tb_w my_S_takesFirst mb_S_takesFirst 4 (some .boolean)) B.pre
  have hw : ∀ w ∈ gt_tbl, w.before [.ref h0, .long (lN n)].toArray s = true := fun w h => hts w (List.mem_cons_of_mem _ h)
  have hown : s.vm.findClass cr_S = some m.cls := findClass_of_methodNamed B.named
  have hlocks := B.notSynchronized
  subst hsz
  have hD := hD0.self (sz := s.heap.size)
  generalize hAe : va_A [(h0, .inr (2, [.ref hu, .int wy, .long (lN sec), .int bg, .int st, .long (lN x), .long (lN y), .long ky, .long c1, .long c2, .long ms, .long pw, .long (lN rc)])), (hu, .inr (1, [.int nb, .int sd, .int uw, .long (lN uo), .long ul, .long (lN uv), .int uf, .int u1, .int u2, .int u3]))] s.heap.size = A at hD ⊢
  have hA : ∀ q : Nat, s.heap.size ≤ q → A q := fun q h => by rw [← hAe]; exact Or.inr h
  have hS : va_S A s.heap s.heap [] := va_S.rf
  have hP : va_P G classes [(h0, .inr (2, [.ref hu, .int wy, .long (lN sec), .int bg, .int st, .long (lN x), .long (lN y), .long ky, .long c1, .long c2, .long ms, .long pw, .long (lN rc)])), (hu, .inr (1, [.int nb, .int sd, .int uw, .long (lN uo), .long ul, .long (lN uv), .int uf, .int u1, .int u2, .int u3]))] s.heap := hP
  have hl := lv_entry ([.ref h0, .long (lN n)]) (n := 4) (Nat.le_of_ble_eq_true rfl)
  rw [lg_entry_eq]
  generalize (lg_sl ([.ref h0, .long (lN n)]) ++ List.replicate (4 - (lg_sl ([.ref h0, .long (lN n)])).length) Slot.unset).toArray = ls at hl ⊢
  have hl : lv_has ls 4 [(0, .ref h0), (1, .long (lN n))] := hl
  have hq1 : ¬ wy = 1 → 1 ≤ rc ∧ rc < pq_Q := fun _ => ⟨hr0, hr1⟩
  refine lv_aload_n hx hb d_S_takesFirst_0 rfl (lv_at hl 0 rfl) ?_
  refine lv_lload_n hx hb d_S_takesFirst_1 rfl (lv_at hl 1 rfl) ?_
  have hPc : va_P G classes [(h0, .inr (2, [.ref hu, .int wy, .long (lN sec), .int bg, .int st, .long (lN x), .long (lN y), .long ky, .long c1, .long c2, .long ms, .long pw, .long (lN rc)]))] s.heap := hP.sub [0] rfl
  have hDc := hD.sub (ws' := [(h0, .inr (2, [.ref hu, .int wy, .long (lN sec), .int bg, .int st, .long (lN x), .long (lN y), .long ky, .long c1, .long c2, .long ms, .long pw, .long (lN rc)]))]) [0] (by decide) rfl
  refine vp_callSi (va_Run.run (va_runU (As := [.long (lN n)]) (rest := []) ⟨hx, hb, hml, hown, hts⟩ (c_C_isRightFirst l G ct s.heap.size h0 hu wy sec bg st x y ky c1 c2 ms pw rc (lN n) (by first | assumption | exact pw_lt _ _ | exact Nat.mod_lt _ pq_pos | exact sc_lt _ | exact sc_pos _ | exact sc_30 _ | exact qs_30 (by assumption) | exact qs_P (by assumption) | exact qz_lt _ | decide | omega)) (tb_U (owner := cr_S) (x := ⟨"PakeDesk$Session", "isRightFirst", "(J)Z"⟩) hw cy_S_isRightFirst ww_450 ww_452 (va_Decl.of (hw _ ww_451) (hw _ ww_455)) ⟨by decide, by decide⟩ rfl ww_451 ww_453 rfl rfl ⟨Nat.le_of_ble_eq_true rfl, Nat.le_of_ble_eq_true rfl⟩) (wk_preV (ci := 2) (q0 := 0) hPc hK hDc rfl rfl) rfl rfl hl.1 rfl (lv_room (Nat.le_of_ble_eq_true rfl)) d_S_takesFirst_2 ⟨Nat.le_of_ble_eq_true rfl, Nat.le_of_ble_eq_true rfl⟩)) (fun r107 er107 => ?_)
  subst er107
  refine tp_i (if_pos hrt) ?_
  refine lv_istore_n (lv' := [(3, .int 1), (0, .ref h0), (1, .long (lN n))]) hx hb d_S_takesFirst_5 rfl hl (Nat.le_of_ble_eq_true rfl) rfl (fun ls hl => ?_)
  refine lv_iload_n hx hb d_S_takesFirst_6 rfl (lv_at hl 0 rfl) ?_
  refine lv_if_eq (tgt := 15) hx hb d_S_takesFirst_7 (by decide) (fun h108 => ?_) (fun h108 => ?_)
  · exact absurd h108 (by decide)
  · refine lv_aload_n hx hb d_S_takesFirst_10 rfl (lv_at hl 1 rfl) ?_
    refine lv_lload_n hx hb d_S_takesFirst_11 rfl (lv_at hl 2 rfl) ?_
    have hPc : va_P G classes [(h0, .inr (2, [.ref hu, .int wy, .long (lN sec), .int bg, .int st, .long (lN x), .long (lN y), .long ky, .long c1, .long c2, .long ms, .long pw, .long (lN rc)])), (hu, .inr (1, [.int nb, .int sd, .int uw, .long (lN uo), .long ul, .long (lN uv), .int uf, .int u1, .int u2, .int u3]))] s.heap := hP.sub [0, 1] rfl
    have hDc := hD.sub (ws' := [(h0, .inr (2, [.ref hu, .int wy, .long (lN sec), .int bg, .int st, .long (lN x), .long (lN y), .long ky, .long c1, .long c2, .long ms, .long pw, .long (lN rc)])), (hu, .inr (1, [.int nb, .int sd, .int uw, .long (lN uo), .long ul, .long (lN uv), .int uf, .int u1, .int u2, .int u3]))]) [0, 1] (by decide) rfl
    refine wk_v (va_runU (As := [.long (lN n)]) (rest := []) ⟨hx, hb, hml, hown, hts⟩ (c_C_answerFirst l G ct s.heap.size h0 hu wy sec bg st x y ky c1 c2 ms pw rc nb sd uw uo ul uv uf u1 u2 u3 n (by first | assumption | exact pw_lt _ _ | exact Nat.mod_lt _ pq_pos | exact sc_lt _ | exact sc_pos _ | exact sc_30 _ | exact qs_30 (by assumption) | exact qs_P (by assumption) | exact qz_lt _ | decide | omega) (by first | assumption | exact pw_lt _ _ | exact Nat.mod_lt _ pq_pos | exact sc_lt _ | exact sc_pos _ | exact sc_30 _ | exact qs_30 (by assumption) | exact qs_P (by assumption) | exact qz_lt _ | decide | omega) (by first | assumption | exact pw_lt _ _ | exact Nat.mod_lt _ pq_pos | exact sc_lt _ | exact sc_pos _ | exact sc_30 _ | exact qs_30 (by assumption) | exact qs_P (by assumption) | exact qz_lt _ | decide | omega) (by first | assumption | exact pw_lt _ _ | exact Nat.mod_lt _ pq_pos | exact sc_lt _ | exact sc_pos _ | exact sc_30 _ | exact qs_30 (by assumption) | exact qs_P (by assumption) | exact qz_lt _ | decide | omega)) (tb_U (owner := cr_S) (x := ⟨"PakeDesk$Session", "answerFirst", "(J)V"⟩) hw cy_C_answerFirst ww_482 ww_484 (va_Decl.abs (hK.2.use wf_483)) ⟨by decide, by decide⟩ rfl ww_486 ww_485 rfl rfl ⟨Nat.le_of_ble_eq_true rfl, Nat.le_of_ble_eq_true rfl⟩) (wk_preV (ci := 2) (q0 := 0) hPc hK hDc rfl rfl) rfl rfl hl.1 rfl (lv_room (Nat.le_of_ble_eq_true rfl)) d_S_takesFirst_12 ⟨Nat.le_of_ble_eq_true rfl, Nat.le_of_ble_eq_true rfl⟩) hP hD hS hA [0, 1] (by decide) rfl (fun _ => by simp only [List.map_cons, List.map_nil]) (fun _ H locs ok109 hP hD hS => ?_)
    have hP : va_P G classes [(h0, .inr (2, [.ref hu, .int wy, .long (lN sec), .int bg, .int st, .long (lN x), .long (lN n), .long (cl_ky sd nb wy sec x n rc pw uw ul), .long (cf_c (cl_ky sd nb wy sec x n rc pw uw ul) x n), .long (cf_s (cl_ky sd nb wy sec x n rc pw uw ul) (cf_c (cl_ky sd nb wy sec x n rc pw uw ul) x n)), .long (cf_c (cl_ky sd nb wy sec x n rc pw uw ul) x n), .long pw, .long (lN rc)])), (hu, .inr (1, [.int nb, .int sd, .int uw, .long (lN uo), .long ul, .long (lN uv), .int uf, .int u1, .int u2, .int u3]))] H := hP
    have hD : va_D A [(h0, .inr (2, [.ref hu, .int wy, .long (lN sec), .int bg, .int st, .long (lN x), .long (lN n), .long (cl_ky sd nb wy sec x n rc pw uw ul), .long (cf_c (cl_ky sd nb wy sec x n rc pw uw ul) x n), .long (cf_s (cl_ky sd nb wy sec x n rc pw uw ul) (cf_c (cl_ky sd nb wy sec x n rc pw uw ul) x n)), .long (cf_c (cl_ky sd nb wy sec x n rc pw uw ul) x n), .long pw, .long (lN rc)])), (hu, .inr (1, [.int nb, .int sd, .int uw, .long (lN uo), .long ul, .long (lN uv), .int uf, .int u1, .int u2, .int u3]))] := hD
    refine lv_aload_n hx hb d_S_takesFirst_15 rfl (lv_at hl 1 rfl) ?_
    refine lv_iload_n hx hb d_S_takesFirst_16 rfl (lv_at hl 0 rfl) ?_
    refine lv_if_eq (tgt := 24) hx hb d_S_takesFirst_17 (by decide) (fun h110 => ?_) (fun h110 => ?_)
    · exact absurd h110 (by decide)
    · refine lv_iconst (v := 1) hx hb d_S_takesFirst_20 (by decide) ?_
      refine lv_goto (tgt := 25) hx hb d_S_takesFirst_21 (by decide) ?_
      refine va_put (D := G) (ci := 2) (v := .int 1) (ty := .int) (C := cr_C) (T := cf_C) (N := 13) hx hb hw uw_C ct_C ct_C_ok ct_C_nm hown hK.1 hP hD hS 0 rfl rfl 4 (by decide) (hw _ ww_312) (fun _ h9 => h9) rfl (by decide +kernel) rfl rfl (Nat.le_of_ble_eq_true rfl) d_S_takesFirst_25 (fun H locs hP hD hS => ?_)
      have hP : va_P G classes [(h0, .inr (2, [.ref hu, .int wy, .long (lN sec), .int bg, .int 1, .long (lN x), .long (lN n), .long (cl_ky sd nb wy sec x n rc pw uw ul), .long (cf_c (cl_ky sd nb wy sec x n rc pw uw ul) x n), .long (cf_s (cl_ky sd nb wy sec x n rc pw uw ul) (cf_c (cl_ky sd nb wy sec x n rc pw uw ul) x n)), .long (cf_c (cl_ky sd nb wy sec x n rc pw uw ul) x n), .long pw, .long (lN rc)])), (hu, .inr (1, [.int nb, .int sd, .int uw, .long (lN uo), .long ul, .long (lN uv), .int uf, .int u1, .int u2, .int u3]))] H := hP
      have hD : va_D A [(h0, .inr (2, [.ref hu, .int wy, .long (lN sec), .int bg, .int 1, .long (lN x), .long (lN n), .long (cl_ky sd nb wy sec x n rc pw uw ul), .long (cf_c (cl_ky sd nb wy sec x n rc pw uw ul) x n), .long (cf_s (cl_ky sd nb wy sec x n rc pw uw ul) (cf_c (cl_ky sd nb wy sec x n rc pw uw ul) x n)), .long (cf_c (cl_ky sd nb wy sec x n rc pw uw ul) x n), .long pw, .long (lN rc)])), (hu, .inr (1, [.int nb, .int sd, .int uw, .long (lN uo), .long ul, .long (lN uv), .int uf, .int u1, .int u2, .int u3]))] := hD
      refine lv_iload_n hx hb d_S_takesFirst_28 rfl (lv_at hl 0 rfl) ?_
      exact W.zret (v := 1) (ty := .boolean) hx hb hr rfl (fun t ht hW => ⟨⟨(), ⟨rfl, trivial⟩, by rw [ht]; exact hP, hD⟩, hS.F ht⟩) hS.2.2 d_S_takesFirst_29
set_option maxHeartbeats 4000000 in
set_option maxRecDepth 100000 in
theorem c_C_takesFirst0 (l : Launch) (G : va_G) (ct : Nat → ClassId) (sz : Nat) (h0 : Nat) (hu : Nat) (wy : Int32) (sec : Nat) (bg : Int32) (st : Int32) (x : Nat) (y : Nat) (ky : Int64) (c1 : Int64) (c2 : Int64) (ms : Int64) (pw : Int64) (rc : Nat) (nb : Int32) (sd : Int32) (uw : Int32) (uo : Nat) (ul : Int64) (uv : Nat) (uf : Int32) (u1 : Int32) (u2 : Int32) (u3 : Int32) (a : Int64) (hs1 : sec < pq_Q) (hr0 : 1 ≤ rc) (hr1 : rc < pq_Q) (hrt : ¬ rt_c wy rc a) : Met l my_S_takesFirst (tb_w my_S_takesFirst mb_S_takesFirst 4 (some .boolean)) ({ frames := 4, cells := 0, slots := 0, locals := 95 }) (wk_P [.ref h0, .long a] G ct [(h0, .inr (2, [.ref hu, .int wy, .long (lN sec), .int bg, .int st, .long (lN x), .long (lN y), .long ky, .long c1, .long c2, .long ms, .long pw, .long (lN rc)])), (hu, .inr (1, [.int nb, .int sd, .int uw, .long (lN uo), .long ul, .long (lN uv), .int uf, .int u1, .int u2, .int u3]))] sz) (wk_Q (wk_oi (S := Unit) (fun _ => 0) (fun _ => True)) (fun _ : Unit => [(h0, .inr (2, [.ref hu, .int wy, .long (lN sec), .int bg, .int 3, .long (lN x), .long (lN y), .long ky, .long c1, .long c2, .long ms, .long pw, .long (lN rc)])), (hu, .inr (1, [.int nb, .int sd, .int uw, .long (lN uo), .long ul, .long (lN uv), .int uf, .int u1, .int u2, .int u3]))]) G (va_A [(h0, .inr (2, [.ref hu, .int wy, .long (lN sec), .int bg, .int st, .long (lN x), .long (lN y), .long ky, .long c1, .long c2, .long ms, .long pw, .long (lN rc)])), (hu, .inr (1, [.int nb, .int sd, .int uw, .long (lN uo), .long ul, .long (lN uv), .int uf, .int u1, .int u2, .int u3]))] sz)) 0 0 (va_A [(h0, .inr (2, [.ref hu, .int wy, .long (lN sec), .int bg, .int st, .long (lN x), .long (lN y), .long ky, .long c1, .long c2, .long ms, .long pw, .long (lN rc)])), (hu, .inr (1, [.int nb, .int sd, .int uw, .long (lN uo), .long ul, .long (lN uv), .int uf, .int u1, .int u2, .int u3]))] sz) := by
  refine Met.ofW (cc := mb_S_takesFirst) (maxL := 4) (ret := (some .boolean)) (by decide) rfl ?_
  intro p e s m args below meth c s₁ B hml hv
  obtain ⟨rfl, hsz, hP, hK, hD0⟩ := hv
  have hx := B.exec
  have hb := B.bytes
  have hr := B.returns
  have hts := atoms_spec (ws := tb_w my_S_takesFirst mb_S_takesFirst 4 (some .boolean)) B.pre
  have hw : ∀ w ∈ gt_tbl, w.before [.ref h0, .long a].toArray s = true := fun w h => hts w (List.mem_cons_of_mem _ h)
  have hown : s.vm.findClass cr_S = some m.cls := findClass_of_methodNamed B.named
  have hlocks := B.notSynchronized
  subst hsz
  have hD := hD0.self (sz := s.heap.size)
  generalize hAe : va_A [(h0, .inr (2, [.ref hu, .int wy, .long (lN sec), .int bg, .int st, .long (lN x), .long (lN y), .long ky, .long c1, .long c2, .long ms, .long pw, .long (lN rc)])), (hu, .inr (1, [.int nb, .int sd, .int uw, .long (lN uo), .long ul, .long (lN uv), .int uf, .int u1, .int u2, .int u3]))] s.heap.size = A at hD ⊢
  have hA : ∀ q : Nat, s.heap.size ≤ q → A q := fun q h => by rw [← hAe]; exact Or.inr h
  have hS : va_S A s.heap s.heap [] := va_S.rf
  have hP : va_P G classes [(h0, .inr (2, [.ref hu, .int wy, .long (lN sec), .int bg, .int st, .long (lN x), .long (lN y), .long ky, .long c1, .long c2, .long ms, .long pw, .long (lN rc)])), (hu, .inr (1, [.int nb, .int sd, .int uw, .long (lN uo), .long ul, .long (lN uv), .int uf, .int u1, .int u2, .int u3]))] s.heap := hP
  have hl := lv_entry ([.ref h0, .long a]) (n := 4) (Nat.le_of_ble_eq_true rfl)
  rw [lg_entry_eq]
  generalize (lg_sl ([.ref h0, .long a]) ++ List.replicate (4 - (lg_sl ([.ref h0, .long a])).length) Slot.unset).toArray = ls at hl ⊢
  have hl : lv_has ls 4 [(0, .ref h0), (1, .long a)] := hl
  have hq1 : ¬ wy = 1 → 1 ≤ rc ∧ rc < pq_Q := fun _ => ⟨hr0, hr1⟩
  refine lv_aload_n hx hb d_S_takesFirst_0 rfl (lv_at hl 0 rfl) ?_
  refine lv_lload_n hx hb d_S_takesFirst_1 rfl (lv_at hl 1 rfl) ?_
  have hPc : va_P G classes [(h0, .inr (2, [.ref hu, .int wy, .long (lN sec), .int bg, .int st, .long (lN x), .long (lN y), .long ky, .long c1, .long c2, .long ms, .long pw, .long (lN rc)]))] s.heap := hP.sub [0] rfl
  have hDc := hD.sub (ws' := [(h0, .inr (2, [.ref hu, .int wy, .long (lN sec), .int bg, .int st, .long (lN x), .long (lN y), .long ky, .long c1, .long c2, .long ms, .long pw, .long (lN rc)]))]) [0] (by decide) rfl
  refine vp_callSi (va_Run.run (va_runU (As := [.long a]) (rest := []) ⟨hx, hb, hml, hown, hts⟩ (c_C_isRightFirst l G ct s.heap.size h0 hu wy sec bg st x y ky c1 c2 ms pw rc a (by first | assumption | exact pw_lt _ _ | exact Nat.mod_lt _ pq_pos | exact sc_lt _ | exact sc_pos _ | exact sc_30 _ | exact qs_30 (by assumption) | exact qs_P (by assumption) | exact qz_lt _ | decide | omega)) (tb_U (owner := cr_S) (x := ⟨"PakeDesk$Session", "isRightFirst", "(J)Z"⟩) hw cy_S_isRightFirst ww_450 ww_452 (va_Decl.of (hw _ ww_451) (hw _ ww_455)) ⟨by decide, by decide⟩ rfl ww_451 ww_453 rfl rfl ⟨Nat.le_of_ble_eq_true rfl, Nat.le_of_ble_eq_true rfl⟩) (wk_preV (ci := 2) (q0 := 0) hPc hK hDc rfl rfl) rfl rfl hl.1 rfl (lv_room (Nat.le_of_ble_eq_true rfl)) d_S_takesFirst_2 ⟨Nat.le_of_ble_eq_true rfl, Nat.le_of_ble_eq_true rfl⟩)) (fun r111 er111 => ?_)
  subst er111
  refine tp_i (if_neg hrt) ?_
  refine lv_istore_n (lv' := [(3, .int 0), (0, .ref h0), (1, .long a)]) hx hb d_S_takesFirst_5 rfl hl (Nat.le_of_ble_eq_true rfl) rfl (fun ls hl => ?_)
  refine lv_iload_n hx hb d_S_takesFirst_6 rfl (lv_at hl 0 rfl) ?_
  refine lv_if_eq (tgt := 15) hx hb d_S_takesFirst_7 (by decide) (fun h112 => ?_) (fun h112 => ?_)
  · refine lv_aload_n hx hb d_S_takesFirst_15 rfl (lv_at hl 1 rfl) ?_
    refine lv_iload_n hx hb d_S_takesFirst_16 rfl (lv_at hl 0 rfl) ?_
    refine lv_if_eq (tgt := 24) hx hb d_S_takesFirst_17 (by decide) (fun h113 => ?_) (fun h113 => ?_)
    · refine lv_iconst (v := 3) hx hb d_S_takesFirst_24 (by decide) ?_
      refine va_put (D := G) (ci := 2) (v := .int 3) (ty := .int) (C := cr_C) (T := cf_C) (N := 13) hx hb hw uw_C ct_C ct_C_ok ct_C_nm hown hK.1 hP hD hS 0 rfl rfl 4 (by decide) (hw _ ww_312) (fun _ h9 => h9) rfl (by decide +kernel) rfl rfl (Nat.le_of_ble_eq_true rfl) d_S_takesFirst_25 (fun H locs hP hD hS => ?_)
      have hP : va_P G classes [(h0, .inr (2, [.ref hu, .int wy, .long (lN sec), .int bg, .int 3, .long (lN x), .long (lN y), .long ky, .long c1, .long c2, .long ms, .long pw, .long (lN rc)])), (hu, .inr (1, [.int nb, .int sd, .int uw, .long (lN uo), .long ul, .long (lN uv), .int uf, .int u1, .int u2, .int u3]))] H := hP
      have hD : va_D A [(h0, .inr (2, [.ref hu, .int wy, .long (lN sec), .int bg, .int 3, .long (lN x), .long (lN y), .long ky, .long c1, .long c2, .long ms, .long pw, .long (lN rc)])), (hu, .inr (1, [.int nb, .int sd, .int uw, .long (lN uo), .long ul, .long (lN uv), .int uf, .int u1, .int u2, .int u3]))] := hD
      refine lv_iload_n hx hb d_S_takesFirst_28 rfl (lv_at hl 0 rfl) ?_
      exact W.zret (v := 0) (ty := .boolean) hx hb hr rfl (fun t ht hW => ⟨⟨(), ⟨rfl, trivial⟩, by rw [ht]; exact hP, hD⟩, hS.F ht⟩) hS.2.2 d_S_takesFirst_29
    · exact absurd h113 (by decide)
  · exact absurd h112 (by decide)
set_option maxHeartbeats 4000000 in
set_option maxRecDepth 100000 in
theorem c_C_takesConf1 (l : Launch) (G : va_G) (ct : Nat → ClassId) (sz : Nat) (h0 : Nat) (hu : Nat) (wy : Int32) (sec : Nat) (bg : Int32) (st : Int32) (x : Nat) (y : Nat) (ky : Int64) (c1 : Int64) (c2 : Int64) (ms : Int64) (pw : Int64) (rc : Nat) (nb : Int32) (sd : Int32) (uw : Int32) (uo : Nat) (ul : Int64) (uv : Nat) (uf : Int32) (u1 : Int32) (u2 : Int32) (u3 : Int32) (a : Int64) (ck : Int32) (haw : a = c2) : Met l my_S_takesConfirmation (tb_w my_S_takesConfirmation mb_S_takesConfirmation 5 (some .boolean)) ({ frames := 1, cells := 0, slots := 0, locals := 22 }) (wk_P [.ref h0, .long a, .int ck] G ct [(h0, .inr (2, [.ref hu, .int wy, .long (lN sec), .int bg, .int st, .long (lN x), .long (lN y), .long ky, .long c1, .long c2, .long ms, .long pw, .long (lN rc)])), (hu, .inr (1, [.int nb, .int sd, .int uw, .long (lN uo), .long ul, .long (lN uv), .int uf, .int u1, .int u2, .int u3]))] sz) (wk_Q (wk_oi (S := Unit) (fun _ => 1) (fun _ => True)) (fun _ : Unit => [(h0, .inr (2, [.ref hu, .int wy, .long (lN sec), .int bg, .int 2, .long (lN x), .long (lN y), .long ky, .long c1, .long c2, .long ms, .long pw, .long (lN rc)])), (hu, .inr (1, [.int nb, .int sd, .int uw, .long (lN uo), .long ul, .long (lN uv), .int uf, .int u1, .int u2, .int u3]))]) G (va_A [(h0, .inr (2, [.ref hu, .int wy, .long (lN sec), .int bg, .int st, .long (lN x), .long (lN y), .long ky, .long c1, .long c2, .long ms, .long pw, .long (lN rc)])), (hu, .inr (1, [.int nb, .int sd, .int uw, .long (lN uo), .long ul, .long (lN uv), .int uf, .int u1, .int u2, .int u3]))] sz)) 0 0 (va_A [(h0, .inr (2, [.ref hu, .int wy, .long (lN sec), .int bg, .int st, .long (lN x), .long (lN y), .long ky, .long c1, .long c2, .long ms, .long pw, .long (lN rc)])), (hu, .inr (1, [.int nb, .int sd, .int uw, .long (lN uo), .long ul, .long (lN uv), .int uf, .int u1, .int u2, .int u3]))] sz) := by
  refine Met.ofW (cc := mb_S_takesConfirmation) (maxL := 5) (ret := (some .boolean)) (by decide) rfl ?_
  intro p e s m args below meth c s₁ B hml hv
  obtain ⟨rfl, hsz, hP, hK, hD0⟩ := hv
  have hx := B.exec
  have hb := B.bytes
  have hr := B.returns
  have hts := atoms_spec (ws := tb_w my_S_takesConfirmation mb_S_takesConfirmation 5 (some .boolean)) B.pre
  have hw : ∀ w ∈ gt_tbl, w.before [.ref h0, .long a, .int ck].toArray s = true := fun w h => hts w (List.mem_cons_of_mem _ h)
  have hown : s.vm.findClass cr_S = some m.cls := findClass_of_methodNamed B.named
  have hlocks := B.notSynchronized
  subst hsz
  have hD := hD0.self (sz := s.heap.size)
  generalize hAe : va_A [(h0, .inr (2, [.ref hu, .int wy, .long (lN sec), .int bg, .int st, .long (lN x), .long (lN y), .long ky, .long c1, .long c2, .long ms, .long pw, .long (lN rc)])), (hu, .inr (1, [.int nb, .int sd, .int uw, .long (lN uo), .long ul, .long (lN uv), .int uf, .int u1, .int u2, .int u3]))] s.heap.size = A at hD ⊢
  have hA : ∀ q : Nat, s.heap.size ≤ q → A q := fun q h => by rw [← hAe]; exact Or.inr h
  have hS : va_S A s.heap s.heap [] := va_S.rf
  have hP : va_P G classes [(h0, .inr (2, [.ref hu, .int wy, .long (lN sec), .int bg, .int st, .long (lN x), .long (lN y), .long ky, .long c1, .long c2, .long ms, .long pw, .long (lN rc)])), (hu, .inr (1, [.int nb, .int sd, .int uw, .long (lN uo), .long ul, .long (lN uv), .int uf, .int u1, .int u2, .int u3]))] s.heap := hP
  have hl := lv_entry ([.ref h0, .long a, .int ck]) (n := 5) (Nat.le_of_ble_eq_true rfl)
  rw [lg_entry_eq]
  generalize (lg_sl ([.ref h0, .long a, .int ck]) ++ List.replicate (5 - (lg_sl ([.ref h0, .long a, .int ck])).length) Slot.unset).toArray = ls at hl ⊢
  have hl : lv_has ls 5 [(0, .ref h0), (1, .long a), (3, .int ck)] := hl
  refine lv_lload_n hx hb d_S_takesConfirmation_0 rfl (lv_at hl 1 rfl) ?_
  refine lv_aload_n hx hb d_S_takesConfirmation_1 rfl (lv_at hl 0 rfl) ?_
  have hPc : va_P G classes [(h0, .inr (2, [.ref hu, .int wy, .long (lN sec), .int bg, .int st, .long (lN x), .long (lN y), .long ky, .long c1, .long c2, .long ms, .long pw, .long (lN rc)]))] s.heap := hP.sub [0] rfl
  have hDc := hD.sub (ws' := [(h0, .inr (2, [.ref hu, .int wy, .long (lN sec), .int bg, .int st, .long (lN x), .long (lN y), .long ky, .long c1, .long c2, .long ms, .long pw, .long (lN rc)]))]) [0] (by decide) rfl
  refine vp_callSl (va_Run.run (va_runU (As := []) (rest := [.long a]) ⟨hx, hb, hml, hown, hts⟩ (c_C_awaited l G ct s.heap.size h0 hu wy sec bg st x y ky c1 c2 ms pw rc) (tb_U (owner := cr_S) (x := ⟨"PakeDesk$Session", "awaitedConfirmation", "()J"⟩) hw cy_C_awaitedConfirmation ww_572 ww_574 (va_Decl.abs (hK.2.use wf_573)) ⟨by decide, by decide⟩ rfl ww_576 ww_575 rfl rfl ⟨Nat.le_of_ble_eq_true rfl, Nat.le_of_ble_eq_true rfl⟩) (wk_preV (ci := 2) (q0 := 0) hPc hK hDc rfl rfl) rfl rfl hl.1 rfl (lv_room (Nat.le_of_ble_eq_true rfl)) d_S_takesConfirmation_2 ⟨Nat.le_of_ble_eq_true rfl, Nat.le_of_ble_eq_true rfl⟩)) (fun r114 er114 => ?_)
  rw [er114]
  refine W.lcmp hx hb d_S_takesConfirmation_5 ?_
  refine lv_if_ne (tgt := 13) hx hb d_S_takesConfirmation_6 (by decide) (fun h115 => ?_) (fun h115 => ?_)
  · have h115 := fun q => h115 ((lg_cmp_eq _ _).mpr q)
    exact absurd haw h115
  · have h115 := (lg_cmp_eq _ _).mp h115
    refine lv_iconst (v := 1) hx hb d_S_takesConfirmation_9 (by decide) ?_
    refine lv_goto (tgt := 14) hx hb d_S_takesConfirmation_10 (by decide) ?_
    refine lv_istore (lv' := [(4, .int 1), (0, .ref h0), (1, .long a), (3, .int ck)]) hx hb d_S_takesConfirmation_14 hl (Nat.le_of_ble_eq_true rfl) rfl (fun ls hl => ?_)
    refine lv_aload_n hx hb d_S_takesConfirmation_16 rfl (lv_at hl 1 rfl) ?_
    refine lv_iload hx hb d_S_takesConfirmation_17 (lv_at hl 0 rfl) ?_
    refine lv_if_eq (tgt := 26) hx hb d_S_takesConfirmation_19 (by decide) (fun h116 => ?_) (fun h116 => ?_)
    · exact absurd h116 (by decide)
    · refine lv_iconst (v := 2) hx hb d_S_takesConfirmation_22 (by decide) ?_
      refine lv_goto (tgt := 27) hx hb d_S_takesConfirmation_23 (by decide) ?_
      refine va_put (D := G) (ci := 2) (v := .int 2) (ty := .int) (C := cr_C) (T := cf_C) (N := 13) hx hb hw uw_C ct_C ct_C_ok ct_C_nm hown hK.1 hP hD hS 0 rfl rfl 4 (by decide) (hw _ ww_312) (fun _ h9 => h9) rfl (by decide +kernel) rfl rfl (Nat.le_of_ble_eq_true rfl) d_S_takesConfirmation_27 (fun H locs hP hD hS => ?_)
      have hP : va_P G classes [(h0, .inr (2, [.ref hu, .int wy, .long (lN sec), .int bg, .int 2, .long (lN x), .long (lN y), .long ky, .long c1, .long c2, .long ms, .long pw, .long (lN rc)])), (hu, .inr (1, [.int nb, .int sd, .int uw, .long (lN uo), .long ul, .long (lN uv), .int uf, .int u1, .int u2, .int u3]))] H := hP
      have hD : va_D A [(h0, .inr (2, [.ref hu, .int wy, .long (lN sec), .int bg, .int 2, .long (lN x), .long (lN y), .long ky, .long c1, .long c2, .long ms, .long pw, .long (lN rc)])), (hu, .inr (1, [.int nb, .int sd, .int uw, .long (lN uo), .long ul, .long (lN uv), .int uf, .int u1, .int u2, .int u3]))] := hD
      refine lv_aload_n hx hb d_S_takesConfirmation_30 rfl (lv_at hl 1 rfl) ?_
      refine lv_iload hx hb d_S_takesConfirmation_31 (lv_at hl 0 rfl) ?_
      refine lv_iload_n hx hb d_S_takesConfirmation_33 rfl (lv_at hl 3 rfl) ?_
      have hPc : va_P G classes [(h0, .inr (2, [.ref hu, .int wy, .long (lN sec), .int bg, .int 2, .long (lN x), .long (lN y), .long ky, .long c1, .long c2, .long ms, .long pw, .long (lN rc)]))] H := hP.sub [0] rfl
      have hDc := hD.sub (ws' := [(h0, .inr (2, [.ref hu, .int wy, .long (lN sec), .int bg, .int 2, .long (lN x), .long (lN y), .long ky, .long c1, .long c2, .long ms, .long pw, .long (lN rc)]))]) [0] (by decide) rfl
      refine wk_v (va_runU (As := [.int 1, .int ck]) (rest := []) ⟨hx, hb, hml, hown, hts⟩ (c_C_endWith l G ct H.size h0 hu wy sec bg 2 x y ky c1 c2 ms pw rc 1 ck) (tb_U (owner := cr_S) (x := ⟨"PakeDesk$Session", "endWith", "(ZI)V"⟩) hw cy_C_endWith ww_581 ww_583 (va_Decl.abs (hK.2.use wf_582)) ⟨by decide, by decide⟩ rfl ww_585 ww_584 rfl rfl ⟨Nat.le_of_ble_eq_true rfl, Nat.le_of_ble_eq_true rfl⟩) (wk_preV (ci := 2) (q0 := 0) hPc hK hDc rfl rfl) rfl rfl hl.1 rfl (lv_room (Nat.le_of_ble_eq_true rfl)) d_S_takesConfirmation_34 ⟨Nat.le_of_ble_eq_true rfl, Nat.le_of_ble_eq_true rfl⟩) hP hD hS hA [0] (by decide) rfl (fun _ => by simp only [List.map_cons, List.map_nil]) (fun _ H locs ok117 hP hD hS => ?_)
      have hP : va_P G classes [(h0, .inr (2, [.ref hu, .int wy, .long (lN sec), .int bg, .int 2, .long (lN x), .long (lN y), .long ky, .long c1, .long c2, .long ms, .long pw, .long (lN rc)])), (hu, .inr (1, [.int nb, .int sd, .int uw, .long (lN uo), .long ul, .long (lN uv), .int uf, .int u1, .int u2, .int u3]))] H := hP
      have hD : va_D A [(h0, .inr (2, [.ref hu, .int wy, .long (lN sec), .int bg, .int 2, .long (lN x), .long (lN y), .long ky, .long c1, .long c2, .long ms, .long pw, .long (lN rc)])), (hu, .inr (1, [.int nb, .int sd, .int uw, .long (lN uo), .long ul, .long (lN uv), .int uf, .int u1, .int u2, .int u3]))] := hD
      refine lv_iload hx hb d_S_takesConfirmation_37 (lv_at hl 0 rfl) ?_
      exact W.zret (v := 1) (ty := .boolean) hx hb hr rfl (fun t ht hW => ⟨⟨(), ⟨rfl, trivial⟩, by rw [ht]; exact hP, hD⟩, hS.F ht⟩) hS.2.2 d_S_takesConfirmation_39
set_option maxHeartbeats 4000000 in
set_option maxRecDepth 100000 in
theorem c_C_takesConf0 (l : Launch) (G : va_G) (ct : Nat → ClassId) (sz : Nat) (h0 : Nat) (hu : Nat) (wy : Int32) (sec : Nat) (bg : Int32) (st : Int32) (x : Nat) (y : Nat) (ky : Int64) (c1 : Int64) (c2 : Int64) (ms : Int64) (pw : Int64) (rc : Nat) (nb : Int32) (sd : Int32) (uw : Int32) (uo : Nat) (ul : Int64) (uv : Nat) (uf : Int32) (u1 : Int32) (u2 : Int32) (u3 : Int32) (a : Int64) (ck : Int32) (haw : ¬ a = c2) : Met l my_S_takesConfirmation (tb_w my_S_takesConfirmation mb_S_takesConfirmation 5 (some .boolean)) ({ frames := 1, cells := 0, slots := 0, locals := 22 }) (wk_P [.ref h0, .long a, .int ck] G ct [(h0, .inr (2, [.ref hu, .int wy, .long (lN sec), .int bg, .int st, .long (lN x), .long (lN y), .long ky, .long c1, .long c2, .long ms, .long pw, .long (lN rc)])), (hu, .inr (1, [.int nb, .int sd, .int uw, .long (lN uo), .long ul, .long (lN uv), .int uf, .int u1, .int u2, .int u3]))] sz) (wk_Q (wk_oi (S := Unit) (fun _ => 0) (fun _ => True)) (fun _ : Unit => [(h0, .inr (2, [.ref hu, .int wy, .long (lN sec), .int bg, .int 3, .long (lN x), .long (lN y), .long ky, .long c1, .long c2, .long ms, .long pw, .long (lN rc)])), (hu, .inr (1, [.int nb, .int sd, .int uw, .long (lN uo), .long ul, .long (lN uv), .int uf, .int u1, .int u2, .int u3]))]) G (va_A [(h0, .inr (2, [.ref hu, .int wy, .long (lN sec), .int bg, .int st, .long (lN x), .long (lN y), .long ky, .long c1, .long c2, .long ms, .long pw, .long (lN rc)])), (hu, .inr (1, [.int nb, .int sd, .int uw, .long (lN uo), .long ul, .long (lN uv), .int uf, .int u1, .int u2, .int u3]))] sz)) 0 0 (va_A [(h0, .inr (2, [.ref hu, .int wy, .long (lN sec), .int bg, .int st, .long (lN x), .long (lN y), .long ky, .long c1, .long c2, .long ms, .long pw, .long (lN rc)])), (hu, .inr (1, [.int nb, .int sd, .int uw, .long (lN uo), .long ul, .long (lN uv), .int uf, .int u1, .int u2, .int u3]))] sz) := by
  refine Met.ofW (cc := mb_S_takesConfirmation) (maxL := 5) (ret := (some .boolean)) (by decide) rfl ?_
  intro p e s m args below meth c s₁ B hml hv
  obtain ⟨rfl, hsz, hP, hK, hD0⟩ := hv
  have hx := B.exec
  have hb := B.bytes
  have hr := B.returns
  have hts := atoms_spec (ws := tb_w my_S_takesConfirmation mb_S_takesConfirmation 5 (some .boolean)) B.pre
  have hw : ∀ w ∈ gt_tbl, w.before [.ref h0, .long a, .int ck].toArray s = true := fun w h => hts w (List.mem_cons_of_mem _ h)
  have hown : s.vm.findClass cr_S = some m.cls := findClass_of_methodNamed B.named
  have hlocks := B.notSynchronized
  subst hsz
  have hD := hD0.self (sz := s.heap.size)
  generalize hAe : va_A [(h0, .inr (2, [.ref hu, .int wy, .long (lN sec), .int bg, .int st, .long (lN x), .long (lN y), .long ky, .long c1, .long c2, .long ms, .long pw, .long (lN rc)])), (hu, .inr (1, [.int nb, .int sd, .int uw, .long (lN uo), .long ul, .long (lN uv), .int uf, .int u1, .int u2, .int u3]))] s.heap.size = A at hD ⊢
  have hA : ∀ q : Nat, s.heap.size ≤ q → A q := fun q h => by rw [← hAe]; exact Or.inr h
  have hS : va_S A s.heap s.heap [] := va_S.rf
  have hP : va_P G classes [(h0, .inr (2, [.ref hu, .int wy, .long (lN sec), .int bg, .int st, .long (lN x), .long (lN y), .long ky, .long c1, .long c2, .long ms, .long pw, .long (lN rc)])), (hu, .inr (1, [.int nb, .int sd, .int uw, .long (lN uo), .long ul, .long (lN uv), .int uf, .int u1, .int u2, .int u3]))] s.heap := hP
  have hl := lv_entry ([.ref h0, .long a, .int ck]) (n := 5) (Nat.le_of_ble_eq_true rfl)
  rw [lg_entry_eq]
  generalize (lg_sl ([.ref h0, .long a, .int ck]) ++ List.replicate (5 - (lg_sl ([.ref h0, .long a, .int ck])).length) Slot.unset).toArray = ls at hl ⊢
  have hl : lv_has ls 5 [(0, .ref h0), (1, .long a), (3, .int ck)] := hl
  refine lv_lload_n hx hb d_S_takesConfirmation_0 rfl (lv_at hl 1 rfl) ?_
  refine lv_aload_n hx hb d_S_takesConfirmation_1 rfl (lv_at hl 0 rfl) ?_
  have hPc : va_P G classes [(h0, .inr (2, [.ref hu, .int wy, .long (lN sec), .int bg, .int st, .long (lN x), .long (lN y), .long ky, .long c1, .long c2, .long ms, .long pw, .long (lN rc)]))] s.heap := hP.sub [0] rfl
  have hDc := hD.sub (ws' := [(h0, .inr (2, [.ref hu, .int wy, .long (lN sec), .int bg, .int st, .long (lN x), .long (lN y), .long ky, .long c1, .long c2, .long ms, .long pw, .long (lN rc)]))]) [0] (by decide) rfl
  refine vp_callSl (va_Run.run (va_runU (As := []) (rest := [.long a]) ⟨hx, hb, hml, hown, hts⟩ (c_C_awaited l G ct s.heap.size h0 hu wy sec bg st x y ky c1 c2 ms pw rc) (tb_U (owner := cr_S) (x := ⟨"PakeDesk$Session", "awaitedConfirmation", "()J"⟩) hw cy_C_awaitedConfirmation ww_572 ww_574 (va_Decl.abs (hK.2.use wf_573)) ⟨by decide, by decide⟩ rfl ww_576 ww_575 rfl rfl ⟨Nat.le_of_ble_eq_true rfl, Nat.le_of_ble_eq_true rfl⟩) (wk_preV (ci := 2) (q0 := 0) hPc hK hDc rfl rfl) rfl rfl hl.1 rfl (lv_room (Nat.le_of_ble_eq_true rfl)) d_S_takesConfirmation_2 ⟨Nat.le_of_ble_eq_true rfl, Nat.le_of_ble_eq_true rfl⟩)) (fun r118 er118 => ?_)
  rw [er118]
  refine W.lcmp hx hb d_S_takesConfirmation_5 ?_
  refine lv_if_ne (tgt := 13) hx hb d_S_takesConfirmation_6 (by decide) (fun h119 => ?_) (fun h119 => ?_)
  · have h119 := fun q => h119 ((lg_cmp_eq _ _).mpr q)
    refine lv_iconst (v := 0) hx hb d_S_takesConfirmation_13 (by decide) ?_
    refine lv_istore (lv' := [(4, .int 0), (0, .ref h0), (1, .long a), (3, .int ck)]) hx hb d_S_takesConfirmation_14 hl (Nat.le_of_ble_eq_true rfl) rfl (fun ls hl => ?_)
    refine lv_aload_n hx hb d_S_takesConfirmation_16 rfl (lv_at hl 1 rfl) ?_
    refine lv_iload hx hb d_S_takesConfirmation_17 (lv_at hl 0 rfl) ?_
    refine lv_if_eq (tgt := 26) hx hb d_S_takesConfirmation_19 (by decide) (fun h120 => ?_) (fun h120 => ?_)
    · refine lv_iconst (v := 3) hx hb d_S_takesConfirmation_26 (by decide) ?_
      refine va_put (D := G) (ci := 2) (v := .int 3) (ty := .int) (C := cr_C) (T := cf_C) (N := 13) hx hb hw uw_C ct_C ct_C_ok ct_C_nm hown hK.1 hP hD hS 0 rfl rfl 4 (by decide) (hw _ ww_312) (fun _ h9 => h9) rfl (by decide +kernel) rfl rfl (Nat.le_of_ble_eq_true rfl) d_S_takesConfirmation_27 (fun H locs hP hD hS => ?_)
      have hP : va_P G classes [(h0, .inr (2, [.ref hu, .int wy, .long (lN sec), .int bg, .int 3, .long (lN x), .long (lN y), .long ky, .long c1, .long c2, .long ms, .long pw, .long (lN rc)])), (hu, .inr (1, [.int nb, .int sd, .int uw, .long (lN uo), .long ul, .long (lN uv), .int uf, .int u1, .int u2, .int u3]))] H := hP
      have hD : va_D A [(h0, .inr (2, [.ref hu, .int wy, .long (lN sec), .int bg, .int 3, .long (lN x), .long (lN y), .long ky, .long c1, .long c2, .long ms, .long pw, .long (lN rc)])), (hu, .inr (1, [.int nb, .int sd, .int uw, .long (lN uo), .long ul, .long (lN uv), .int uf, .int u1, .int u2, .int u3]))] := hD
      refine lv_aload_n hx hb d_S_takesConfirmation_30 rfl (lv_at hl 1 rfl) ?_
      refine lv_iload hx hb d_S_takesConfirmation_31 (lv_at hl 0 rfl) ?_
      refine lv_iload_n hx hb d_S_takesConfirmation_33 rfl (lv_at hl 3 rfl) ?_
      have hPc : va_P G classes [(h0, .inr (2, [.ref hu, .int wy, .long (lN sec), .int bg, .int 3, .long (lN x), .long (lN y), .long ky, .long c1, .long c2, .long ms, .long pw, .long (lN rc)]))] H := hP.sub [0] rfl
      have hDc := hD.sub (ws' := [(h0, .inr (2, [.ref hu, .int wy, .long (lN sec), .int bg, .int 3, .long (lN x), .long (lN y), .long ky, .long c1, .long c2, .long ms, .long pw, .long (lN rc)]))]) [0] (by decide) rfl
      refine wk_v (va_runU (As := [.int 0, .int ck]) (rest := []) ⟨hx, hb, hml, hown, hts⟩ (c_C_endWith l G ct H.size h0 hu wy sec bg 3 x y ky c1 c2 ms pw rc 0 ck) (tb_U (owner := cr_S) (x := ⟨"PakeDesk$Session", "endWith", "(ZI)V"⟩) hw cy_C_endWith ww_581 ww_583 (va_Decl.abs (hK.2.use wf_582)) ⟨by decide, by decide⟩ rfl ww_585 ww_584 rfl rfl ⟨Nat.le_of_ble_eq_true rfl, Nat.le_of_ble_eq_true rfl⟩) (wk_preV (ci := 2) (q0 := 0) hPc hK hDc rfl rfl) rfl rfl hl.1 rfl (lv_room (Nat.le_of_ble_eq_true rfl)) d_S_takesConfirmation_34 ⟨Nat.le_of_ble_eq_true rfl, Nat.le_of_ble_eq_true rfl⟩) hP hD hS hA [0] (by decide) rfl (fun _ => by simp only [List.map_cons, List.map_nil]) (fun _ H locs ok121 hP hD hS => ?_)
      have hP : va_P G classes [(h0, .inr (2, [.ref hu, .int wy, .long (lN sec), .int bg, .int 3, .long (lN x), .long (lN y), .long ky, .long c1, .long c2, .long ms, .long pw, .long (lN rc)])), (hu, .inr (1, [.int nb, .int sd, .int uw, .long (lN uo), .long ul, .long (lN uv), .int uf, .int u1, .int u2, .int u3]))] H := hP
      have hD : va_D A [(h0, .inr (2, [.ref hu, .int wy, .long (lN sec), .int bg, .int 3, .long (lN x), .long (lN y), .long ky, .long c1, .long c2, .long ms, .long pw, .long (lN rc)])), (hu, .inr (1, [.int nb, .int sd, .int uw, .long (lN uo), .long ul, .long (lN uv), .int uf, .int u1, .int u2, .int u3]))] := hD
      refine lv_iload hx hb d_S_takesConfirmation_37 (lv_at hl 0 rfl) ?_
      exact W.zret (v := 0) (ty := .boolean) hx hb hr rfl (fun t ht hW => ⟨⟨(), ⟨rfl, trivial⟩, by rw [ht]; exact hP, hD⟩, hS.F ht⟩) hS.2.2 d_S_takesConfirmation_39
    · exact absurd h120 (by decide)
  · have h119 := (lg_cmp_eq _ _).mp h119
    exact absurd h119 haw
