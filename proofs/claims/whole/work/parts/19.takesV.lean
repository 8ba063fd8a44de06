theorem ww_454 : (Jvm.Cond.selects "PakeDesk$Server" ({ cls := "PakeDesk$Session", name := "isRightFirst", desc := "(J)Z" } : Jvm.MethodName) ({ cls := "PakeDesk$Session", name := "isRightFirst", desc := "(J)Z" } : Jvm.MethodName)) ∈ gt_tbl := gt_m (List.mem_append_right _ (List.mem_append_right _ (List.mem_append_left _ (List.mem_of_getElem? (i := 214) (by decide +kernel))))) (by decide)
theorem ww_539 : (Jvm.Cond.selects "PakeDesk$Server" ({ cls := "PakeDesk$Session", name := "answerFirst", desc := "(J)V" } : Jvm.MethodName) ({ cls := "PakeDesk$Server", name := "answerFirst", desc := "(J)V" } : Jvm.MethodName)) ∈ gt_tbl := gt_m (List.mem_append_right _ (List.mem_append_right _ (List.mem_append_right _ (List.mem_append_left _ (List.mem_of_getElem? (i := 59) (by decide +kernel)))))) (by decide)
theorem ww_540 : (Jvm.Cond.instanceMethod ({ cls := "PakeDesk$Server", name := "answerFirst", desc := "(J)V" } : Jvm.MethodName)) ∈ gt_tbl := gt_m (List.mem_append_right _ (List.mem_append_right _ (List.mem_append_right _ (List.mem_append_left _ (List.mem_of_getElem? (i := 60) (by decide +kernel)))))) (by decide)
theorem ww_541 : (Jvm.Cond.code ({ cls := "PakeDesk$Server", name := "answerFirst", desc := "(J)V" } : Jvm.MethodName) prog_5_method_3_code (5 : Nat) (Option.none : Option Jvm.ClassFile.FieldType)) ∈ gt_tbl := gt_m (List.mem_append_right _ (List.mem_append_right _ (List.mem_append_right _ (List.mem_append_left _ (List.mem_of_getElem? (i := 61) (by decide +kernel)))))) (by decide)
theorem ww_578 : (Jvm.Cond.selects "PakeDesk$Server" ({ cls := "PakeDesk$Session", name := "awaitedConfirmation", desc := "()J" } : Jvm.MethodName) ({ cls := "PakeDesk$Server", name := "awaitedConfirmation", desc := "()J" } : Jvm.MethodName)) ∈ gt_tbl := gt_m (List.mem_append_right _ (List.mem_append_right _ (List.mem_append_right _ (List.mem_append_left _ (List.mem_of_getElem? (i := 98) (by decide +kernel)))))) (by decide)
theorem ww_579 : (Jvm.Cond.instanceMethod ({ cls := "PakeDesk$Server", name := "awaitedConfirmation", desc := "()J" } : Jvm.MethodName)) ∈ gt_tbl := gt_m (List.mem_append_right _ (List.mem_append_right _ (List.mem_append_right _ (List.mem_append_left _ (List.mem_of_getElem? (i := 99) (by decide +kernel)))))) (by decide)
theorem ww_580 : (Jvm.Cond.code ({ cls := "PakeDesk$Server", name := "awaitedConfirmation", desc := "()J" } : Jvm.MethodName) prog_5_method_5_code (1 : Nat) (Option.some Jvm.ClassFile.FieldType.long)) ∈ gt_tbl := gt_m (List.mem_append_right _ (List.mem_append_right _ (List.mem_append_right _ (List.mem_append_left _ (List.mem_of_getElem? (i := 100) (by decide +kernel)))))) (by decide)
theorem ww_587 : (Jvm.Cond.selects "PakeDesk$Server" ({ cls := "PakeDesk$Session", name := "endWith", desc := "(ZI)V" } : Jvm.MethodName) ({ cls := "PakeDesk$Server", name := "endWith", desc := "(ZI)V" } : Jvm.MethodName)) ∈ gt_tbl := gt_m (List.mem_append_right _ (List.mem_append_right _ (List.mem_append_right _ (List.mem_append_left _ (List.mem_of_getElem? (i := 107) (by decide +kernel)))))) (by decide)
theorem ww_588 : (Jvm.Cond.instanceMethod ({ cls := "PakeDesk$Server", name := "endWith", desc := "(ZI)V" } : Jvm.MethodName)) ∈ gt_tbl := gt_m (List.mem_append_right _ (List.mem_append_right _ (List.mem_append_right _ (List.mem_append_left _ (List.mem_of_getElem? (i := 108) (by decide +kernel)))))) (by decide)
theorem ww_589 : (Jvm.Cond.code ({ cls := "PakeDesk$Server", name := "endWith", desc := "(ZI)V" } : Jvm.MethodName) prog_5_method_6_code (3 : Nat) (Option.none : Option Jvm.ClassFile.FieldType)) ∈ gt_tbl := gt_m (List.mem_append_right _ (List.mem_append_right _ (List.mem_append_right _ (List.mem_append_left _ (List.mem_of_getElem? (i := 109) (by decide +kernel)))))) (by decide)
theorem cy_V_answerFirst : tb_C my_V_answerFirst mb_V_answerFirst 5 none 1 := ⟨ww_541, ww_13, by decide, by decide, by decide +kernel⟩
theorem cy_V_awaitedConfirmation : tb_C my_V_awaitedConfirmation mb_V_awaitedConfirmation 1 (some .long) 0 := ⟨ww_580, ww_13, by decide, by decide, by decide +kernel⟩
theorem cy_V_endWith : tb_C my_V_endWith mb_V_endWith 3 none 2 := ⟨ww_589, ww_13, by decide, by decide, by decide +kernel⟩
set_option maxHeartbeats 4000000 in
set_option maxRecDepth 100000 in
theorem c_V_takesFirst1 (l : Launch) (G : va_G) (ct : Nat → ClassId) (sz : Nat) (h0 : Nat) (hu : Nat) (wy : Int32) (sec : Nat) (bg : Int32) (st : Int32) (x : Nat) (y : Nat) (ky : Int64) (c1 : Int64) (c2 : Int64) (ms : Int64) (rc : Nat) (nb : Int32) (sd : Int32) (uw : Int32) (uo : Nat) (ul : Int64) (uv : Nat) (uf : Int32) (u1 : Int32) (u2 : Int32) (u3 : Int32) (n : Nat) (hs1 : sec < pq_Q) (hq1 : ¬ wy = 1 → 1 ≤ rc ∧ rc < pq_Q) (hp1 : rc < pq_P) (hn1 : n < pq_P) (hrt : rt_v wy rc (lN n)) : Met l my_S_takesFirst (tb_w my_S_takesFirst mb_S_takesFirst 4 (some .boolean)) ({ frames := 4, cells := 0, slots := 0, locals := 107 }) (wk_P [.ref h0, .long (lN n)] G ct [(h0, .inr (3, [.ref hu, .int wy, .long (lN sec), .int bg, .int st, .long (lN x), .long (lN y), .long ky, .long c1, .long c2, .long ms, .long (lN rc)])), (hu, .inr (1, [.int nb, .int sd, .int uw, .long (lN uo), .long ul, .long (lN uv), .int uf, .int u1, .int u2, .int u3]))] sz) (wk_Q (wk_oi (S := Unit) (fun _ => 1) (fun _ => True)) (fun _ : Unit => [(h0, .inr (3, [.ref hu, .int wy, .long (lN sec), .int bg, .int 1, .long (lN n), .long (lN (sv_ny wy sec rc)), .long (sv_ky nb wy sec n (sv_ny wy sec rc) rc), .long (cf_c (sv_ky nb wy sec n (sv_ny wy sec rc) rc) n (sv_ny wy sec rc)), .long (cf_s (sv_ky nb wy sec n (sv_ny wy sec rc) rc) (cf_c (sv_ky nb wy sec n (sv_ny wy sec rc) rc) n (sv_ny wy sec rc))), .long (lN (sv_ny wy sec rc)), .long (lN rc)])), (hu, .inr (1, [.int nb, .int sd, .int uw, .long (lN uo), .long ul, .long (lN uv), .int uf, .int u1, .int u2, .int u3]))]) G (va_A [(h0, .inr (3, [.ref hu, .int wy, .long (lN sec), .int bg, .int st, .long (lN x), .long (lN y), .long ky, .long c1, .long c2, .long ms, .long (lN rc)])), (hu, .inr (1, [.int nb, .int sd, .int uw, .long (lN uo), .long ul, .long (lN uv), .int uf, .int u1, .int u2, .int u3]))] sz)) 0 0 (va_A [(h0, .inr (3, [.ref hu, .int wy, .long (lN sec), .int bg, .int st, .long (lN x), .long (lN y), .long ky, .long c1, .long c2, .long ms, .long (lN rc)])), (hu, .inr (1, [.int nb, .int sd, .int uw, .long (lN uo), .long ul, .long (lN uv), .int uf, .int u1, .int u2, .int u3]))] sz) := by
  refine Met.ofW (cc := mb_S_takesFirst) (maxL := 4) (ret := (some .boolean)) (by decide) rfl ?_
  intro p e s m args below meth c s₁ B hml hv
  obtain ⟨rfl, hsz, hP, hK, hD0⟩ := hv
  have hx := B.exec
  have hb := B.bytes
  have hr := B.returns
  have hts := atoms_spec (ws := tb_w my_S_takesFirst mb_S_takesFirst 4 (some .boolean)) B.pre
  have hw : ∀ w ∈ gt_tbl, w.before [.ref h0, .long (lN n)].toArray s = true := fun w h => hts w (List.mem_cons_of_mem _ h)
  have hown : s.vm.findClass cr_S = some m.cls := findClass_of_methodNamed B.named
  have hlocks := B.notSynchronized
  subst hsz
  have hD := hD0.self (sz := s.heap.size)
  generalize hAe : va_A [(h0, .inr (3, [.ref hu, .int wy, .long (lN sec), .int bg, .int st, .long (lN x), .long (lN y), .long ky, .long c1, .long c2, .long ms, .long (lN rc)])), (hu, .inr (1, [.int nb, .int sd, .int uw, .long (lN uo), .long ul, .long (lN uv), .int uf, .int u1, .int u2, .int u3]))] s.heap.size = A at hD ⊢
  have hA : ∀ q : Nat, s.heap.size ≤ q → A q := fun q h => by rw [← hAe]; exact Or.inr h
  have hS : va_S A s.heap s.heap [] := va_S.rf
  have hP : va_P G classes [(h0, .inr (3, [.ref hu, .int wy, .long (lN sec), .int bg, .int st, .long (lN x), .long (lN y), .long ky, .long c1, .long c2, .long ms, .long (lN rc)])), (hu, .inr (1, [.int nb, .int sd, .int uw, .long (lN uo), .long ul, .long (lN uv), .int uf, .int u1, .int u2, .int u3]))] s.heap := hP
  have hl := lv_entry ([.ref h0, .long (lN n)]) (n := 4) (Nat.le_of_ble_eq_true rfl)
  rw [lg_entry_eq]
  generalize (lg_sl ([.ref h0, .long (lN n)]) ++ List.replicate (4 - (lg_sl ([.ref h0, .long (lN n)])).length) Slot.unset).toArray = ls at hl ⊢
  have hl : lv_has ls 4 [(0, .ref h0), (1, .long (lN n))] := hl
  refine lv_aload_n hx hb d_S_takesFirst_0 rfl (lv_at hl 0 rfl) ?_
  refine lv_lload_n hx hb d_S_takesFirst_1 rfl (lv_at hl 1 rfl) ?_
  have hPc : va_P G classes [(h0, .inr (3, [.ref hu, .int wy, .long (lN sec), .int bg, .int st, .long (lN x), .long (lN y), .long ky, .long c1, .long c2, .long ms, .long (lN rc)]))] s.heap := hP.sub [0] rfl
  have hDc := hD.sub (ws' := [(h0, .inr (3, [.ref hu, .int wy, .long (lN sec), .int bg, .int st, .long (lN x), .long (lN y), .long ky, .long c1, .long c2, .long ms, .long (lN rc)]))]) [0] (by decide) rfl
  refine vp_callSi (va_Run.run (va_runU (As := [.long (lN n)]) (rest := []) ⟨hx, hb, hml, hown, hts⟩ (c_V_isRightFirst l G ct s.heap.size h0 hu wy sec bg st x y ky c1 c2 ms rc (lN n) (by first | assumption | exact pw_lt _ _ | exact Nat.mod_lt _ pq_pos | exact sc_lt _ | exact sc_pos _ | exact sc_30 _ | exact qs_30 (by assumption) | exact qs_P (by assumption) | exact qz_lt _ | decide | omega)) (tb_U (owner := cr_S) (x := ⟨"PakeDesk$Session", "isRightFirst", "(J)Z"⟩) hw cy_S_isRightFirst ww_450 ww_452 (va_Decl.of (hw _ ww_451) (hw _ ww_455)) ⟨by decide, by decide⟩ rfl ww_451 ww_454 rfl rfl ⟨Nat.le_of_ble_eq_true rfl, Nat.le_of_ble_eq_true rfl⟩) (wk_preV (ci := 3) (q0 := 0) hPc hK hDc rfl rfl) rfl rfl hl.1 rfl (lv_room (Nat.le_of_ble_eq_true rfl)) d_S_takesFirst_2 ⟨Nat.le_of_ble_eq_true rfl, Nat.le_of_ble_eq_true rfl⟩)) (fun r165 er165 => ?_)
  subst er165
  refine tp_i (if_pos hrt) ?_
  refine lv_istore_n (lv' := [(3, .int 1), (0, .ref h0), (1, .long (lN n))]) hx hb d_S_takesFirst_5 rfl hl (Nat.le_of_ble_eq_true rfl) rfl (fun ls hl => ?_)
  refine lv_iload_n hx hb d_S_takesFirst_6 rfl (lv_at hl 0 rfl) ?_
  refine lv_if_eq (tgt := 15) hx hb d_S_takesFirst_7 (by decide) (fun h166 => ?_) (fun h166 => ?_)
  · exact absurd h166 (by decide)
  · refine lv_aload_n hx hb d_S_takesFirst_10 rfl (lv_at hl 1 rfl) ?_
    refine lv_lload_n hx hb d_S_takesFirst_11 rfl (lv_at hl 2 rfl) ?_
    have hPc : va_P G classes [(h0, .inr (3, [.ref hu, .int wy, .long (lN sec), .int bg, .int st, .long (lN x), .long (lN y), .long ky, .long c1, .long c2, .long ms, .long (lN rc)])), (hu, .inr (1, [.int nb, .int sd, .int uw, .long (lN uo), .long ul, .long (lN uv), .int uf, .int u1, .int u2, .int u3]))] s.heap := hP.sub [0, 1] rfl
    have hDc := hD.sub (ws' := [(h0, .inr (3, [.ref hu, .int wy, .long (lN sec), .int bg, .int st, .long (lN x), .long (lN y), .long ky, .long c1, .long c2, .long ms, .long (lN rc)])), (hu, .inr (1, [.int nb, .int sd, .int uw, .long (lN uo), .long ul, .long (lN uv), .int uf, .int u1, .int u2, .int u3]))]) [0, 1] (by decide) rfl
    refine wk_v (va_runU (As := [.long (lN n)]) (rest := []) ⟨hx, hb, hml, hown, hts⟩ (c_V_answerFirst l G ct s.heap.size h0 hu wy sec bg st x y ky c1 c2 ms rc nb sd uw uo ul uv uf u1 u2 u3 n (by first | assumption | exact pw_lt _ _ | exact Nat.mod_lt _ pq_pos | exact sc_lt _ | exact sc_pos _ | exact sc_30 _ | exact qs_30 (by assumption) | exact qs_P (by assumption) | exact qz_lt _ | decide | omega) (by first | assumption | exact pw_lt _ _ | exact Nat.mod_lt _ pq_pos | exact sc_lt _ | exact sc_pos _ | exact sc_30 _ | exact qs_30 (by assumption) | exact qs_P (by assumption) | exact qz_lt _ | decide | omega) (by first | assumption | exact pw_lt _ _ | exact Nat.mod_lt _ pq_pos | exact sc_lt _ | exact sc_pos _ | exact sc_30 _ | exact qs_30 (by assumption) | exact qs_P (by assumption) | exact qz_lt _ | decide | omega) (by first | assumption | exact pw_lt _ _ | exact Nat.mod_lt _ pq_pos | exact sc_lt _ | exact sc_pos _ | exact sc_30 _ | exact qs_30 (by assumption) | exact qs_P (by assumption) | exact qz_lt _ | decide | omega)) (tb_U (owner := cr_S) (x := ⟨"PakeDesk$Session", "answerFirst", "(J)V"⟩) hw cy_V_answerFirst ww_482 ww_484 (va_Decl.abs (hK.2.use wf_483)) ⟨by decide, by decide⟩ rfl ww_540 ww_539 rfl rfl ⟨Nat.le_of_ble_eq_true rfl, Nat.le_of_ble_eq_true rfl⟩) (wk_preV (ci := 3) (q0 := 0) hPc hK hDc rfl rfl) rfl rfl hl.1 rfl (lv_room (Nat.le_of_ble_eq_true rfl)) d_S_takesFirst_12 ⟨Nat.le_of_ble_eq_true rfl, Nat.le_of_ble_eq_true rfl⟩) hP hD hS hA [0, 1] (by decide) rfl (fun _ => by simp only [List.map_cons, List.map_nil]) (fun _ H locs ok167 hP hD hS => ?_)
    have hP : va_P G classes [(h0, .inr (3, [.ref hu, .int wy, .long (lN sec), .int bg, .int st, .long (lN n), .long (lN (sv_ny wy sec rc)), .long (sv_ky nb wy sec n (sv_ny wy sec rc) rc), .long (cf_c (sv_ky nb wy sec n (sv_ny wy sec rc) rc) n (sv_ny wy sec rc)), .long (cf_s (sv_ky nb wy sec n (sv_ny wy sec rc) rc) (cf_c (sv_ky nb wy sec n (sv_ny wy sec rc) rc) n (sv_ny wy sec rc))), .long (lN (sv_ny wy sec rc)), .long (lN rc)])), (hu, .inr (1, [.int nb, .int sd, .int uw, .long (lN uo), .long ul, .long (lN uv), .int uf, .int u1, .int u2, .int u3]))] H := hP
    have hD : va_D A [(h0, .inr (3, [.ref hu, .int wy, .long (lN sec), .int bg, .int st, .long (lN n), .long (lN (sv_ny wy sec rc)), .long (sv_ky nb wy sec n (sv_ny wy sec rc) rc), .long (cf_c (sv_ky nb wy sec n (sv_ny wy sec rc) rc) n (sv_ny wy sec rc)), .long (cf_s (sv_ky nb wy sec n (sv_ny wy sec rc) rc) (cf_c (sv_ky nb wy sec n (sv_ny wy sec rc) rc) n (sv_ny wy sec rc))), .long (lN (sv_ny wy sec rc)), .long (lN rc)])), (hu, .inr (1, [.int nb, .int sd, .int uw, .long (lN uo), .long ul, .long (lN uv), .int uf, .int u1, .int u2, .int u3]))] := hD
    refine lv_aload_n hx hb d_S_takesFirst_15 rfl (lv_at hl 1 rfl) ?_
    refine lv_iload_n hx hb d_S_takesFirst_16 rfl (lv_at hl 0 rfl) ?_
    refine lv_if_eq (tgt := 24) hx hb d_S_takesFirst_17 (by decide) (fun h168 => ?_) (fun h168 => ?_)
    · exact absurd h168 (by decide)
    · refine lv_iconst (v := 1) hx hb d_S_takesFirst_20 (by decide) ?_
      refine lv_goto (tgt := 25) hx hb d_S_takesFirst_21 (by decide) ?_
      refine va_put (D := G) (ci := 3) (v := .int 1) (ty := .int) (C := cr_V) (T := cf_V) (N := 12) hx hb hw uw_V ct_V ct_V_ok ct_V_nm hown hK.1 hP hD hS 0 rfl rfl 4 (by decide) (hw _ ww_312) (fun _ h9 => h9) rfl (by decide +kernel) rfl rfl (Nat.le_of_ble_eq_true rfl) d_S_takesFirst_25 (fun H locs hP hD hS => ?_)
      have hP : va_P G classes [(h0, .inr (3, [.ref hu, .int wy, .long (lN sec), .int bg, .int 1, .long (lN n), .long (lN (sv_ny wy sec rc)), .long (sv_ky nb wy sec n (sv_ny wy sec rc) rc), .long (cf_c (sv_ky nb wy sec n (sv_ny wy sec rc) rc) n (sv_ny wy sec rc)), .long (cf_s (sv_ky nb wy sec n (sv_ny wy sec rc) rc) (cf_c (sv_ky nb wy sec n (sv_ny wy sec rc) rc) n (sv_ny wy sec rc))), .long (lN (sv_ny wy sec rc)), .long (lN rc)])), (hu, .inr (1, [.int nb, .int sd, .int uw, .long (lN uo), .long ul, .long (lN uv), .int uf, .int u1, .int u2, .int u3]))] H := hP
      have hD : va_D A [(h0, .inr (3, [.ref hu, .int wy, .long (lN sec), .int bg, .int 1, .long (lN n), .long (lN (sv_ny wy sec rc)), .long (sv_ky nb wy sec n (sv_ny wy sec rc) rc), .long (cf_c (sv_ky nb wy sec n (sv_ny wy sec rc) rc) n (sv_ny wy sec rc)), .long (cf_s (sv_ky nb wy sec n (sv_ny wy sec rc) rc) (cf_c (sv_ky nb wy sec n (sv_ny wy sec rc) rc) n (sv_ny wy sec rc))), .long (lN (sv_ny wy sec rc)), .long (lN rc)])), (hu, .inr (1, [.int nb, .int sd, .int uw, .long (lN uo), .long ul, .long (lN uv), .int uf, .int u1, .int u2, .int u3]))] := hD
      refine lv_iload_n hx hb d_S_takesFirst_28 rfl (lv_at hl 0 rfl) ?_
      exact W.zret (v := 1) (ty := .boolean) hx hb hr rfl (fun t ht hW => ⟨⟨(), ⟨rfl, trivial⟩, by rw [ht]; exact hP, hD⟩, hS.F ht⟩) hS.2.2 d_S_takesFirst_29
set_option maxHeartbeats 4000000 in
set_option maxRecDepth 100000 in
theorem c_V_takesFirst0 (l : Launch) (G : va_G) (ct : Nat → ClassId) (sz : Nat) (h0 : Nat) (hu : Nat) (wy : Int32) (sec : Nat) (bg : Int32) (st : Int32) (x : Nat) (y : Nat) (ky : Int64) (c1 : Int64) (c2 : Int64) (ms : Int64) (rc : Nat) (nb : Int32) (sd : Int32) (uw : Int32) (uo : Nat) (ul : Int64) (uv : Nat) (uf : Int32) (u1 : Int32) (u2 : Int32) (u3 : Int32) (a : Int64) (hs1 : sec < pq_Q) (hq1 : ¬ wy = 1 → 1 ≤ rc ∧ rc < pq_Q) (hp1 : rc < pq_P) (hrt : ¬ rt_v wy rc a) : Met l my_S_takesFirst (tb_w my_S_takesFirst mb_S_takesFirst 4 (some .boolean)) ({ frames := 4, cells := 0, slots := 0, locals := 95 }) (wk_P [.ref h0, .long a] G ct [(h0, .inr (3, [.ref hu, .int wy, .long (lN sec), .int bg, .int st, .long (lN x), .long (lN y), .long ky, .long c1, .long c2, .long ms, .long (lN rc)])), (hu, .inr (1, [.int nb, .int sd, .int uw, .long (lN uo), .long ul, .long (lN uv), .int uf, .int u1, .int u2, .int u3]))] sz) (wk_Q (wk_oi (S := Unit) (fun _ => 0) (fun _ => True)) (fun _ : Unit => [(h0, .inr (3, [.ref hu, .int wy, .long (lN sec), .int bg, .int 3, .long (lN x), .long (lN y), .long ky, .long c1, .long c2, .long ms, .long (lN rc)])), (hu, .inr (1, [.int nb, .int sd, .int uw, .long (lN uo), .long ul, .long (lN uv), .int uf, .int u1, .int u2, .int u3]))]) G (va_A [(h0, .inr (3, [.ref hu, .int wy, .long (lN sec), .int bg, .int st, .long (lN x), .long (lN y), .long ky, .long c1, .long c2, .long ms, .long (lN rc)])), (hu, .inr (1, [.int nb, .int sd, .int uw, .long (lN uo), .long ul, .long (lN uv), .int uf, .int u1, .int u2, .int u3]))] sz)) 0 0 (va_A [(h0, .inr (3, [.ref hu, .int wy, .long (lN sec), .int bg, .int st, .long (lN x), .long (lN y), .long ky, .long c1, .long c2, .long ms, .long (lN rc)])), (hu, .inr (1, [.int nb, .int sd, .int uw, .long (lN uo), .long ul, .long (lN uv), .int uf, .int u1, .int u2, .int u3]))] sz) := by
  refine Met.ofW (cc := mb_S_takesFirst) (maxL := 4) (ret := (some .boolean)) (by decide) rfl ?_
  intro p e s m args below meth c s₁ B hml hv
  obtain ⟨rfl, hsz, hP, hK, hD0⟩ := hv
  have hx := B.exec
  have hb := B.bytes
  have hr := B.returns
  have hts := atoms_spec (ws := tb_w my_S_takesFirst mb_S_takesFirst 4 (some .boolean)) B.pre
  have hw : ∀ w ∈ gt_tbl, w.before [.ref h0, .long a].toArray s = true := fun w h => hts w (List.mem_cons_of_mem _ h)
  have hown : s.vm.findClass cr_S = some m.cls := findClass_of_methodNamed B.named
  have hlocks := B.notSynchronized
  subst hsz
  have hD := hD0.self (sz := s.heap.size)
  generalize hAe : va_A [(h0, .inr (3, [.ref hu, .int wy, .long (lN sec), .int bg, .int st, .long (lN x), .long (lN y), .long ky, .long c1, .long c2, .long ms, .long (lN rc)])), (hu, .inr (1, [.int nb, .int sd, .int uw, .long (lN uo), .long ul, .long (lN uv), .int uf, .int u1, .int u2, .int u3]))] s.heap.size = A at hD ⊢
  have hA : ∀ q : Nat, s.heap.size ≤ q → A q := fun q h => by rw [← hAe]; exact Or.inr h
  have hS : va_S A s.heap s.heap [] := va_S.rf
  have hP : va_P G classes [(h0, .inr (3, [.ref hu, .int wy, .long (lN sec), .int bg, .int st, .long (lN x), .long (lN y), .long ky, .long c1, .long c2, .long ms, .long (lN rc)])), (hu, .inr (1, [.int nb, .int sd, .int uw, .long (lN uo), .long ul, .long (lN uv), .int uf, .int u1, .int u2, .int u3]))] s.heap := hP
  have hl := lv_entry ([.ref h0, .long a]) (n := 4) (Nat.le_of_ble_eq_true rfl)
  rw [lg_entry_eq]
  generalize (lg_sl ([.ref h0, .long a]) ++ List.replicate (4 - (lg_sl ([.ref h0, .long a])).length) Slot.unset).toArray = ls at hl ⊢
  have hl : lv_has ls 4 [(0, .ref h0), (1, .long a)] := hl
  refine lv_aload_n hx hb d_S_takesFirst_0 rfl (lv_at hl 0 rfl) ?_
  refine lv_lload_n hx hb d_S_takesFirst_1 rfl (lv_at hl 1 rfl) ?_
  have hPc : va_P G classes [(h0, .inr (3, [.ref hu, .int wy, .long (lN sec), .int bg, .int st, .long (lN x), .long (lN y), .long ky, .long c1, .long c2, .long ms, .long (lN rc)]))] s.heap := hP.sub [0] rfl
  have hDc := hD.sub (ws' := [(h0, .inr (3, [.ref hu, .int wy, .long (lN sec), .int bg, .int st, .long (lN x), .long (lN y), .long ky, .long c1, .long c2, .long ms, .long (lN rc)]))]) [0] (by decide) rfl
  refine vp_callSi (va_Run.run (va_runU (As := [.long a]) (rest := []) ⟨hx, hb, hml, hown, hts⟩ (c_V_isRightFirst l G ct s.heap.size h0 hu wy sec bg st x y ky c1 c2 ms rc a (by first | assumption | exact pw_lt _ _ | exact Nat.mod_lt _ pq_pos | exact sc_lt _ | exact sc_pos _ | exact sc_30 _ | exact qs_30 (by assumption) | exact qs_P (by assumption) | exact qz_lt _ | decide | omega)) (tb_U (owner := cr_S) (x := ⟨"PakeDesk$Session", "isRightFirst", "(J)Z"⟩) hw cy_S_isRightFirst ww_450 ww_452 (va_Decl.of (hw _ ww_451) (hw _ ww_455)) ⟨by decide, by decide⟩ rfl ww_451 ww_454 rfl rfl ⟨Nat.le_of_ble_eq_true rfl, Nat.le_of_ble_eq_true rfl⟩) (wk_preV (ci := 3) (q0 := 0) hPc hK hDc rfl rfl) rfl rfl hl.1 rfl (lv_room (Nat.le_of_ble_eq_true rfl)) d_S_takesFirst_2 ⟨Nat.le_of_ble_eq_true rfl, Nat.le_of_ble_eq_true rfl⟩)) (fun r169 er169 => ?_)
  subst er169
  refine tp_i (if_neg hrt) ?_
  refine lv_istore_n (lv' := [(3, .int 0), (0, .ref h0), (1, .long a)]) hx hb d_S_takesFirst_5 rfl hl (Nat.le_of_ble_eq_true rfl) rfl (fun ls hl => ?_)
  refine lv_iload_n hx hb d_S_takesFirst_6 rfl (lv_at hl 0 rfl) ?_
  refine lv_if_eq (tgt := 15) hx hb d_S_takesFirst_7 (by decide) (fun h170 => ?_) (fun h170 => ?_)
  · refine lv_aload_n hx hb d_S_takesFirst_15 rfl (lv_at hl 1 rfl) ?_
    refine lv_iload_n hx hb d_S_takesFirst_16 rfl (lv_at hl 0 rfl) ?_
    refine lv_if_eq (tgt := 24) hx hb d_S_takesFirst_17 (by decide) (fun h171 => ?_) (fun h171 => ?_)
    · refine lv_iconst (v := 3) hx hb d_S_takesFirst_24 (by decide) ?_
      refine va_put (D := G) (ci := 3) (v := .int 3) (ty := .int) (C := cr_V) (T := cf_V) (N := 12) hx hb hw uw_V ct_V ct_V_ok ct_V_nm hown hK.1 hP hD hS 0 rfl rfl 4 (by decide) (hw _ ww_312) (fun _ h9 => h9) rfl (by decide +kernel) rfl rfl (Nat.le_of_ble_eq_true rfl) d_S_takesFirst_25 (fun H locs hP hD hS => ?_)
      have hP : va_P G classes [(h0, .inr (3, [.ref hu, .int wy, .long (lN sec), .int bg, .int 3, .long (lN x), .long (lN y), .long ky, .long c1, .long c2, .long ms, .long (lN rc)])), (hu, .inr (1, [.int nb, .int sd, .int uw, .long (lN uo), .long ul, .long (lN uv), .int uf, .int u1, .int u2, .int u3]))] H := hP
      have hD : va_D A [(h0, .inr (3, [.ref hu, .int wy, .long (lN sec), .int bg, .int 3, .long (lN x), .long (lN y), .long ky, .long c1, .long c2, .long ms, .long (lN rc)])), (hu, .inr (1, [.int nb, .int sd, .int uw, .long (lN uo), .long ul, .long (lN uv), .int uf, .int u1, .int u2, .int u3]))] := hD
      refine lv_iload_n hx hb d_S_takesFirst_28 rfl (lv_at hl 0 rfl) ?_
      exact W.zret (v := 0) (ty := .boolean) hx hb hr rfl (fun t ht hW => ⟨⟨(), ⟨rfl, trivial⟩, by rw [ht]; exact hP, hD⟩, hS.F ht⟩) hS.2.2 d_S_takesFirst_29
    · exact absurd h171 (by decide)
  · exact absurd h170 (by decide)
set_option maxHeartbeats 4000000 in
set_option maxRecDepth 100000 in
theorem c_V_takesConf1 (l : Launch) (G : va_G) (ct : Nat → ClassId) (sz : Nat) (h0 : Nat) (hu : Nat) (wy : Int32) (sec : Nat) (bg : Int32) (st : Int32) (x : Nat) (y : Nat) (ky : Int64) (c1 : Int64) (c2 : Int64) (ms : Int64) (rc : Nat) (nb : Int32) (sd : Int32) (uw : Int32) (uo : Nat) (ul : Int64) (uv : Nat) (uf : Int32) (u1 : Int32) (u2 : Int32) (u3 : Int32) (a : Int64) (ck : Int32) (haw : a = c1) : Met l my_S_takesConfirmation (tb_w my_S_takesConfirmation mb_S_takesConfirmation 5 (some .boolean)) ({ frames := 1, cells := 0, slots := 0, locals := 22 }) (wk_P [.ref h0, .long a, .int ck] G ct [(h0, .inr (3, [.ref hu, .int wy, .long (lN sec), .int bg, .int st, .long (lN x), .long (lN y), .long ky, .long c1, .long c2, .long ms, .long (lN rc)])), (hu, .inr (1, [.int nb, .int sd, .int uw, .long (lN uo), .long ul, .long (lN uv), .int uf, .int u1, .int u2, .int u3]))] sz) (wk_Q (wk_oi (S := Unit) (fun _ => 1) (fun _ => True)) (fun _ : Unit => [(h0, .inr (3, [.ref hu, .int wy, .long (lN sec), .int bg, .int 2, .long (lN x), .long (lN y), .long ky, .long c1, .long c2, .long c2, .long (lN rc)])), (hu, .inr (1, [.int nb, .int sd, .int uw, .long (lN uo), .long ul, .long (lN uv), .int 0, .int u1, .int u2, .int u3]))]) G (va_A [(h0, .inr (3, [.ref hu, .int wy, .long (lN sec), .int bg, .int st, .long (lN x), .long (lN y), .long ky, .long c1, .long c2, .long ms, .long (lN rc)])), (hu, .inr (1, [.int nb, .int sd, .int uw, .long (lN uo), .long ul, .long (lN uv), .int uf, .int u1, .int u2, .int u3]))] sz)) 0 0 (va_A [(h0, .inr (3, [.ref hu, .int wy, .long (lN sec), .int bg, .int st, .long (lN x), .long (lN y), .long ky, .long c1, .long c2, .long ms, .long (lN rc)])), (hu, .inr (1, [.int nb, .int sd, .int uw, .long (lN uo), .long ul, .long (lN uv), .int uf, .int u1, .int u2, .int u3]))] sz) := by
  refine Met.ofW (cc := mb_S_takesConfirmation) (maxL := 5) (ret := (some .boolean)) (by decide) rfl ?_
  intro p e s m args below meth c s₁ B hml hv
  obtain ⟨rfl, hsz, hP, hK, hD0⟩ := hv
  have hx := B.exec
  have hb := B.bytes
  have hr := B.returns
  have hts := atoms_spec (ws := tb_w my_S_takesConfirmation mb_S_takesConfirmation 5 (some .boolean)) B.pre
  have hw : ∀ w ∈ gt_tbl, w.before [.ref h0, .long a, .int ck].toArray s = true := fun w h => hts w (List.mem_cons_of_mem _ h)
  have hown : s.vm.findClass cr_S = some m.cls := findClass_of_methodNamed B.named
  have hlocks := B.notSynchronized
  subst hsz
  have hD := hD0.self (sz := s.heap.size)
  generalize hAe : va_A [(h0, .inr (3, [.ref hu, .int wy, .long (lN sec), .int bg, .int st, .long (lN x), .long (lN y), .long ky, .long c1, .long c2, .long ms, .long (lN rc)])), (hu, .inr (1, [.int nb, .int sd, .int uw, .long (lN uo), .long ul, .long (lN uv), .int uf, .int u1, .int u2, .int u3]))] s.heap.size = A at hD ⊢
  have hA : ∀ q : Nat, s.heap.size ≤ q → A q := fun q h => by rw [← hAe]; exact Or.inr h
  have hS : va_S A s.heap s.heap [] := va_S.rf
  have hP : va_P G classes [(h0, .inr (3, [.ref hu, .int wy, .long (lN sec), .int bg, .int st, .long (lN x), .long (lN y), .long ky, .long c1, .long c2, .long ms, .long (lN rc)])), (hu, .inr (1, [.int nb, .int sd, .int uw, .long (lN uo), .long ul, .long (lN uv), .int uf, .int u1, .int u2, .int u3]))] s.heap := hP
  have hl := lv_entry ([.ref h0, .long a, .int ck]) (n := 5) (Nat.le_of_ble_eq_true rfl)
  rw [lg_entry_eq]
  generalize (lg_sl ([.ref h0, .long a, .int ck]) ++ List.replicate (5 - (lg_sl ([.ref h0, .long a, .int ck])).length) Slot.unset).toArray = ls at hl ⊢
  have hl : lv_has ls 5 [(0, .ref h0), (1, .long a), (3, .int ck)] := hl
  refine lv_lload_n hx hb d_S_takesConfirmation_0 rfl (lv_at hl 1 rfl) ?_
  refine lv_aload_n hx hb d_S_takesConfirmation_1 rfl (lv_at hl 0 rfl) ?_
  have hPc : va_P G classes [(h0, .inr (3, [.ref hu, .int wy, .long (lN sec), .int bg, .int st, .long (lN x), .long (lN y), .long ky, .long c1, .long c2, .long ms, .long (lN rc)]))] s.heap := hP.sub [0] rfl
  have hDc := hD.sub (ws' := [(h0, .inr (3, [.ref hu, .int wy, .long (lN sec), .int bg, .int st, .long (lN x), .long (lN y), .long ky, .long c1, .long c2, .long ms, .long (lN rc)]))]) [0] (by decide) rfl
  refine vp_callSl (va_Run.run (va_runU (As := []) (rest := [.long a]) ⟨hx, hb, hml, hown, hts⟩ (c_V_awaited l G ct s.heap.size h0 hu wy sec bg st x y ky c1 c2 ms rc) (tb_U (owner := cr_S) (x := ⟨"PakeDesk$Session", "awaitedConfirmation", "()J"⟩) hw cy_V_awaitedConfirmation ww_572 ww_574 (va_Decl.abs (hK.2.use wf_573)) ⟨by decide, by decide⟩ rfl ww_579 ww_578 rfl rfl ⟨Nat.le_of_ble_eq_true rfl, Nat.le_of_ble_eq_true rfl⟩) (wk_preV (ci := 3) (q0 := 0) hPc hK hDc rfl rfl) rfl rfl hl.1 rfl (lv_room (Nat.le_of_ble_eq_true rfl)) d_S_takesConfirmation_2 ⟨Nat.le_of_ble_eq_true rfl, Nat.le_of_ble_eq_true rfl⟩)) (fun r172 er172 => ?_)
  rw [er172]
  refine W.lcmp hx hb d_S_takesConfirmation_5 ?_
  refine lv_if_ne (tgt := 13) hx hb d_S_takesConfirmation_6 (by decide) (fun h173 => ?_) (fun h173 => ?_)
  · have h173 := fun q => h173 ((lg_cmp_eq _ _).mpr q)
    exact absurd haw h173
  · have h173 := (lg_cmp_eq _ _).mp h173
    refine lv_iconst (v := 1) hx hb d_S_takesConfirmation_9 (by decide) ?_
    refine lv_goto (tgt := 14) hx hb d_S_takesConfirmation_10 (by decide) ?_
    refine lv_istore (lv' := [(4, .int 1), (0, .ref h0), (1, .long a), (3, .int ck)]) hx hb d_S_takesConfirmation_14 hl (Nat.le_of_ble_eq_true rfl) rfl (fun ls hl => ?_)
    refine lv_aload_n hx hb d_S_takesConfirmation_16 rfl (lv_at hl 1 rfl) ?_
    refine lv_iload hx hb d_S_takesConfirmation_17 (lv_at hl 0 rfl) ?_
    refine lv_if_eq (tgt := 26) hx hb d_S_takesConfirmation_19 (by decide) (fun h174 => ?_) (fun h174 => ?_)
    · exact absurd h174 (by decide)
    · refine lv_iconst (v := 2) hx hb d_S_takesConfirmation_22 (by decide) ?_
      refine lv_goto (tgt := 27) hx hb d_S_takesConfirmation_23 (by decide) ?_
      refine va_put (D := G) (ci := 3) (v := .int 2) (ty := .int) (C := cr_V) (T := cf_V) (N := 12) hx hb hw uw_V ct_V ct_V_ok ct_V_nm hown hK.1 hP hD hS 0 rfl rfl 4 (by decide) (hw _ ww_312) (fun _ h9 => h9) rfl (by decide +kernel) rfl rfl (Nat.le_of_ble_eq_true rfl) d_S_takesConfirmation_27 (fun H locs hP hD hS => ?_)
      have hP : va_P G classes [(h0, .inr (3, [.ref hu, .int wy, .long (lN sec), .int bg, .int 2, .long (lN x), .long (lN y), .long ky, .long c1, .long c2, .long ms, .long (lN rc)])), (hu, .inr (1, [.int nb, .int sd, .int uw, .long (lN uo), .long ul, .long (lN uv), .int uf, .int u1, .int u2, .int u3]))] H := hP
      have hD : va_D A [(h0, .inr (3, [.ref hu, .int wy, .long (lN sec), .int bg, .int 2, .long (lN x), .long (lN y), .long ky, .long c1, .long c2, .long ms, .long (lN rc)])), (hu, .inr (1, [.int nb, .int sd, .int uw, .long (lN uo), .long ul, .long (lN uv), .int uf, .int u1, .int u2, .int u3]))] := hD
      refine lv_aload_n hx hb d_S_takesConfirmation_30 rfl (lv_at hl 1 rfl) ?_
      refine lv_iload hx hb d_S_takesConfirmation_31 (lv_at hl 0 rfl) ?_
      refine lv_iload_n hx hb d_S_takesConfirmation_33 rfl (lv_at hl 3 rfl) ?_
      have hPc : va_P G classes [(h0, .inr (3, [.ref hu, .int wy, .long (lN sec), .int bg, .int 2, .long (lN x), .long (lN y), .long ky, .long c1, .long c2, .long ms, .long (lN rc)])), (hu, .inr (1, [.int nb, .int sd, .int uw, .long (lN uo), .long ul, .long (lN uv), .int uf, .int u1, .int u2, .int u3]))] H := hP.sub [0, 1] rfl
      have hDc := hD.sub (ws' := [(h0, .inr (3, [.ref hu, .int wy, .long (lN sec), .int bg, .int 2, .long (lN x), .long (lN y), .long ky, .long c1, .long c2, .long ms, .long (lN rc)])), (hu, .inr (1, [.int nb, .int sd, .int uw, .long (lN uo), .long ul, .long (lN uv), .int uf, .int u1, .int u2, .int u3]))]) [0, 1] (by decide) rfl
      refine wk_v (va_runU (As := [.int 1, .int ck]) (rest := []) ⟨hx, hb, hml, hown, hts⟩ (c_V_endWith1 l G ct H.size h0 hu wy sec bg 2 x y ky c1 c2 ms rc nb sd uw uo ul uv uf u1 u2 u3 ck) (tb_U (owner := cr_S) (x := ⟨"PakeDesk$Session", "endWith", "(ZI)V"⟩) hw cy_V_endWith ww_581 ww_583 (va_Decl.abs (hK.2.use wf_582)) ⟨by decide, by decide⟩ rfl ww_588 ww_587 rfl rfl ⟨Nat.le_of_ble_eq_true rfl, Nat.le_of_ble_eq_true rfl⟩) (wk_preV (ci := 3) (q0 := 0) hPc hK hDc rfl rfl) rfl rfl hl.1 rfl (lv_room (Nat.le_of_ble_eq_true rfl)) d_S_takesConfirmation_34 ⟨Nat.le_of_ble_eq_true rfl, Nat.le_of_ble_eq_true rfl⟩) hP hD hS hA [0, 1] (by decide) rfl (fun _ => by simp only [List.map_cons, List.map_nil]) (fun _ H locs ok175 hP hD hS => ?_)
      have hP : va_P G classes [(h0, .inr (3, [.ref hu, .int wy, .long (lN sec), .int bg, .int 2, .long (lN x), .long (lN y), .long ky, .long c1, .long c2, .long c2, .long (lN rc)])), (hu, .inr (1, [.int nb, .int sd, .int uw, .long (lN uo), .long ul, .long (lN uv), .int 0, .int u1, .int u2, .int u3]))] H := hP
      have hD : va_D A [(h0, .inr (3, [.ref hu, .int wy, .long (lN sec), .int bg, .int 2, .long (lN x), .long (lN y), .long ky, .long c1, .long c2, .long c2, .long (lN rc)])), (hu, .inr (1, [.int nb, .int sd, .int uw, .long (lN uo), .long ul, .long (lN uv), .int 0, .int u1, .int u2, .int u3]))] := hD
      refine lv_iload hx hb d_S_takesConfirmation_37 (lv_at hl 0 rfl) ?_
      exact W.zret (v := 1) (ty := .boolean) hx hb hr rfl (fun t ht hW => ⟨⟨(), ⟨rfl, trivial⟩, by rw [ht]; exact hP, hD⟩, hS.F ht⟩) hS.2.2 d_S_takesConfirmation_39
set_option maxHeartbeats 4000000 in
set_option maxRecDepth 100000 in
theorem c_V_takesConf0 (l : Launch) (G : va_G) (ct : Nat → ClassId) (sz : Nat) (h0 : Nat) (hu : Nat) (wy : Int32) (sec : Nat) (bg : Int32) (st : Int32) (x : Nat) (y : Nat) (ky : Int64) (c1 : Int64) (c2 : Int64) (ms : Int64) (rc : Nat) (nb : Int32) (sd : Int32) (uw : Int32) (uo : Nat) (ul : Int64) (uv : Nat) (uf : Int32) (u1 : Int32) (u2 : Int32) (u3 : Int32) (a : Int64) (ck : Int32) (haw : ¬ a = c1) : Met l my_S_takesConfirmation (tb_w my_S_takesConfirmation mb_S_takesConfirmation 5 (some .boolean)) ({ frames := 2, cells := 0, slots := 0, locals := 43 }) (wk_P [.ref h0, .long a, .int ck] G ct [(h0, .inr (3, [.ref hu, .int wy, .long (lN sec), .int bg, .int st, .long (lN x), .long (lN y), .long ky, .long c1, .long c2, .long ms, .long (lN rc)])), (hu, .inr (1, [.int nb, .int sd, .int uw, .long (lN uo), .long ul, .long (lN uv), .int uf, .int u1, .int u2, .int u3]))] sz) (wk_Q (wk_oi (S := Unit) (fun _ => 0) (fun _ => True)) (fun _ : Unit => [(h0, .inr (3, [.ref hu, .int wy, .long (lN sec), .int bg, .int 3, .long (lN x), .long (lN y), .long ky, .long c1, .long c2, .long ms, .long (lN rc)])), (hu, .inr (1, [.int nb, .int sd, .int uw, .long (lN uo), .long ul, .long (lN uv), .int (uf + 1), .int ck, .int u1, .int u2]))]) G (va_A [(h0, .inr (3, [.ref hu, .int wy, .long (lN sec), .int bg, .int st, .long (lN x), .long (lN y), .long ky, .long c1, .long c2, .long ms, .long (lN rc)])), (hu, .inr (1, [.int nb, .int sd, .int uw, .long (lN uo), .long ul, .long (lN uv), .int uf, .int u1, .int u2, .int u3]))] sz)) 0 0 (va_A [(h0, .inr (3, [.ref hu, .int wy, .long (lN sec), .int bg, .int st, .long (lN x), .long (lN y), .long ky, .long c1, .long c2, .long ms, .long (lN rc)])), (hu, .inr (1, [.int nb, .int sd, .int uw, .long (lN uo), .long ul, .long (lN uv), .int uf, .int u1, .int u2, .int u3]))] sz) := by
  refine Met.ofW (cc := mb_S_takesConfirmation) (maxL := 5) (ret := (some .boolean)) (by decide) rfl ?_
  intro p e s m args below meth c s₁ B hml hv
  obtain ⟨rfl, hsz, hP, hK, hD0⟩ := hv
  have hx := B.exec
  have hb := B.bytes
  have hr := B.returns
  have hts := atoms_spec (ws := tb_w my_S_takesConfirmation mb_S_takesConfirmation 5 (some .boolean)) B.pre
  have hw : ∀ w ∈ gt_tbl, w.before [.ref h0, .long a, .int ck].toArray s = true := fun w h => hts w (List.mem_cons_of_mem _ h)
  have hown : s.vm.findClass cr_S = some m.cls := findClass_of_methodNamed B.named
  have hlocks := B.notSynchronized
  subst hsz
  have hD := hD0.self (sz := s.heap.size)
  generalize hAe : va_A [(h0, .inr (3, [.ref hu, .int wy, .long (lN sec), .int bg, .int st, .long (lN x), .long (lN y), .long ky, .long c1, .long c2, .long ms, .long (lN rc)])), (hu, .inr (1, [.int nb, .int sd, .int uw, .long (lN uo), .long ul, .long (lN uv), .int uf, .int u1, .int u2, .int u3]))] s.heap.size = A at hD ⊢
  have hA : ∀ q : Nat, s.heap.size ≤ q → A q := fun q h => by rw [← hAe]; exact Or.inr h
  have hS : va_S A s.heap s.heap [] := va_S.rf
  have hP : va_P G classes [(h0, .inr (3, [.ref hu, .int wy, .long (lN sec), .int bg, .int st, .long (lN x), .long (lN y), .long ky, .long c1, .long c2, .long ms, .long (lN rc)])), (hu, .inr (1, [.int nb, .int sd, .int uw, .long (lN uo), .long ul, .long (lN uv), .int uf, .int u1, .int u2, .int u3]))] s.heap := hP
  have hl := lv_entry ([.ref h0, .long a, .int ck]) (n := 5) (Nat.le_of_ble_eq_true rfl)
  rw [lg_entry_eq]
  generalize (lg_sl ([.ref h0, .long a, .int ck]) ++ List.replicate (5 - (lg_sl ([.ref h0, .long a, .int ck])).length) Slot.unset).toArray = ls at hl ⊢
  have hl : lv_has ls 5 [(0, .ref h0), (1, .long a), (3, .int ck)] := hl
  refine lv_lload_n hx hb d_S_takesConfirmation_0 rfl (lv_at hl 1 rfl) ?_
  refine lv_aload_n hx hb d_S_takesConfirmation_1 rfl (lv_at hl 0 rfl) ?_
  have hPc : va_P G classes [(h0, .inr (3, [.ref hu, .int wy, .long (lN sec), .int bg, .int st, .long (lN x), .long (lN y), .long ky, .long c1, .long c2, .long ms, .long (lN rc)]))] s.heap := hP.sub [0] rfl
  have hDc := hD.sub (ws' := [(h0, .inr (3, [.ref hu, .int wy, .long (lN sec), .int bg, .int st, .long (lN x), .long (lN y), .long ky, .long c1, .long c2, .long ms, .long (lN rc)]))]) [0] (by decide) rfl
  refine vp_callSl (va_Run.run (va_runU (As := []) (rest := [.long a]) ⟨hx, hb, hml, hown, hts⟩ (c_V_awaited l G ct s.heap.size h0 hu wy sec bg st x y ky c1 c2 ms rc) (tb_U (owner := cr_S) (x := ⟨"PakeDesk$Session", "awaitedConfirmation", "()J"⟩) hw cy_V_awaitedConfirmation ww_572 ww_574 (va_Decl.abs (hK.2.use wf_573)) ⟨by decide, by decide⟩ rfl ww_579 ww_578 rfl rfl ⟨Nat.le_of_ble_eq_true rfl, Nat.le_of_ble_eq_true rfl⟩) (wk_preV (ci := 3) (q0 := 0) hPc hK hDc rfl rfl) rfl rfl hl.1 rfl (lv_room (Nat.le_of_ble_eq_true rfl)) d_S_takesConfirmation_2 ⟨Nat.le_of_ble_eq_true rfl, Nat.le_of_ble_eq_true rfl⟩)) (fun r176 er176 => ?_)
  rw [er176]
  refine W.lcmp hx hb d_S_takesConfirmation_5 ?_
  refine lv_if_ne (tgt := 13) hx hb d_S_takesConfirmation_6 (by decide) (fun h177 => ?_) (fun h177 => ?_)
  · have h177 := fun q => h177 ((lg_cmp_eq _ _).mpr q)
    refine lv_iconst (v := 0) hx hb d_S_takesConfirmation_13 (by decide) ?_
    refine lv_istore (lv' := [(4, .int 0), (0, .ref h0), (1, .long a), (3, .int ck)]) hx hb d_S_takesConfirmation_14 hl (Nat.le_of_ble_eq_true rfl) rfl (fun ls hl => ?_)
    refine lv_aload_n hx hb d_S_takesConfirmation_16 rfl (lv_at hl 1 rfl) ?_
    refine lv_iload hx hb d_S_takesConfirmation_17 (lv_at hl 0 rfl) ?_
    refine lv_if_eq (tgt := 26) hx hb d_S_takesConfirmation_19 (by decide) (fun h178 => ?_) (fun h178 => ?_)
    · refine lv_iconst (v := 3) hx hb d_S_takesConfirmation_26 (by decide) ?_
      refine va_put (D := G) (ci := 3) (v := .int 3) (ty := .int) (C := cr_V) (T := cf_V) (N := 12) hx hb hw uw_V ct_V ct_V_ok ct_V_nm hown hK.1 hP hD hS 0 rfl rfl 4 (by decide) (hw _ ww_312) (fun _ h9 => h9) rfl (by decide +kernel) rfl rfl (Nat.le_of_ble_eq_true rfl) d_S_takesConfirmation_27 (fun H locs hP hD hS => ?_)
      have hP : va_P G classes [(h0, .inr (3, [.ref hu, .int wy, .long (lN sec), .int bg, .int 3, .long (lN x), .long (lN y), .long ky, .long c1, .long c2, .long ms, .long (lN rc)])), (hu, .inr (1, [.int nb, .int sd, .int uw, .long (lN uo), .long ul, .long (lN uv), .int uf, .int u1, .int u2, .int u3]))] H := hP
      have hD : va_D A [(h0, .inr (3, [.ref hu, .int wy, .long (lN sec), .int bg, .int 3, .long (lN x), .long (lN y), .long ky, .long c1, .long c2, .long ms, .long (lN rc)])), (hu, .inr (1, [.int nb, .int sd, .int uw, .long (lN uo), .long ul, .long (lN uv), .int uf, .int u1, .int u2, .int u3]))] := hD
      refine lv_aload_n hx hb d_S_takesConfirmation_30 rfl (lv_at hl 1 rfl) ?_
      refine lv_iload hx hb d_S_takesConfirmation_31 (lv_at hl 0 rfl) ?_
      refine lv_iload_n hx hb d_S_takesConfirmation_33 rfl (lv_at hl 3 rfl) ?_
      have hPc : va_P G classes [(h0, .inr (3, [.ref hu, .int wy, .long (lN sec), .int bg, .int 3, .long (lN x), .long (lN y), .long ky, .long c1, .long c2, .long ms, .long (lN rc)])), (hu, .inr (1, [.int nb, .int sd, .int uw, .long (lN uo), .long ul, .long (lN uv), .int uf, .int u1, .int u2, .int u3]))] H := hP.sub [0, 1] rfl
      have hDc := hD.sub (ws' := [(h0, .inr (3, [.ref hu, .int wy, .long (lN sec), .int bg, .int 3, .long (lN x), .long (lN y), .long ky, .long c1, .long c2, .long ms, .long (lN rc)])), (hu, .inr (1, [.int nb, .int sd, .int uw, .long (lN uo), .long ul, .long (lN uv), .int uf, .int u1, .int u2, .int u3]))]) [0, 1] (by decide) rfl
      refine wk_v (va_runU (As := [.int 0, .int ck]) (rest := []) ⟨hx, hb, hml, hown, hts⟩ (c_V_endWith0 l G ct H.size h0 hu wy sec bg 3 x y ky c1 c2 ms rc nb sd uw uo ul uv uf u1 u2 u3 ck) (tb_U (owner := cr_S) (x := ⟨"PakeDesk$Session", "endWith", "(ZI)V"⟩) hw cy_V_endWith ww_581 ww_583 (va_Decl.abs (hK.2.use wf_582)) ⟨by decide, by decide⟩ rfl ww_588 ww_587 rfl rfl ⟨Nat.le_of_ble_eq_true rfl, Nat.le_of_ble_eq_true rfl⟩) (wk_preV (ci := 3) (q0 := 0) hPc hK hDc rfl rfl) rfl rfl hl.1 rfl (lv_room (Nat.le_of_ble_eq_true rfl)) d_S_takesConfirmation_34 ⟨Nat.le_of_ble_eq_true rfl, Nat.le_of_ble_eq_true rfl⟩) hP hD hS hA [0, 1] (by decide) rfl (fun _ => by simp only [List.map_cons, List.map_nil]) (fun _ H locs ok179 hP hD hS => ?_)
      have hP : va_P G classes [(h0, .inr (3, [.ref hu, .int wy, .long (lN sec), .int bg, .int 3, .long (lN x), .long (lN y), .long ky, .long c1, .long c2, .long ms, .long (lN rc)])), (hu, .inr (1, [.int nb, .int sd, .int uw, .long (lN uo), .long ul, .long (lN uv), .int (uf + 1), .int ck, .int u1, .int u2]))] H := hP
      have hD : va_D A [(h0, .inr (3, [.ref hu, .int wy, .long (lN sec), .int bg, .int 3, .long (lN x), .long (lN y), .long ky, .long c1, .long c2, .long ms, .long (lN rc)])), (hu, .inr (1, [.int nb, .int sd, .int uw, .long (lN uo), .long ul, .long (lN uv), .int (uf + 1), .int ck, .int u1, .int u2]))] := hD
      refine lv_iload hx hb d_S_takesConfirmation_37 (lv_at hl 0 rfl) ?_
      exact W.zret (v := 0) (ty := .boolean) hx hb hr rfl (fun t ht hW => ⟨⟨(), ⟨rfl, trivial⟩, by rw [ht]; exact hP, hD⟩, hS.F ht⟩) hS.2.2 d_S_takesConfirmation_39
    · exact absurd h178 (by decide)
  · have h177 := (lg_cmp_eq _ _).mp h177
    exact absurd h177 haw
