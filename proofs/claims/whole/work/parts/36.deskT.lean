theorem ww_9 : (Jvm.Cond.initialized "java/lang/IllegalArgumentException") ∈ gt_tbl := gt_m (List.mem_append_right _ (List.mem_append_left _ (List.mem_of_getElem? (i := 9) (by decide +kernel)))) (by decide)
theorem ww_192 : (Jvm.Cond.classLink "PakeDesk" (50 : Nat) "java/lang/IllegalArgumentException") ∈ gt_tbl := gt_m (List.mem_append_right _ (List.mem_append_left _ (List.mem_of_getElem? (i := 192) (by decide +kernel)))) (by decide)
set_option maxHeartbeats 4000000 in
set_option maxRecDepth 100000 in
theorem c_D_tick0 (l : Launch) (hfl : l.flags = pinnedFlags ++ [noTraceFlag]) (G : va_G) (ct : Nat → ClassId) (sz : Nat) (hd : Nat) (us : Nat) (op : Nat) (n : Nat) (ck : Int32) (tk : Int32) (hno : ¬ (0 ≤ tk ∧ tk ≤ 100)) : tm_Met l my_D_tick (tb_w my_D_tick mb_D_tick 2 (some .int)) ({ frames := 6, cells := 1, slots := 6, locals := 82 }) (wk_P4 [.ref hd, .int tk] G ct [(hd, .inr (0, [.ref us, .ref op, .int (nI n), .int ck]))] sz) (wk_T "java/lang/IllegalArgumentException" [(hd, .inr (0, [.ref us, .ref op, .int (nI n), .int ck]))] G (va_A [(hd, .inr (0, [.ref us, .ref op, .int (nI n), .int ck]))] sz)) 1 6 (va_A [(hd, .inr (0, [.ref us, .ref op, .int (nI n), .int ck]))] sz) := by
  refine tm_ofW (cc := mb_D_tick) (maxL := 2) (ret := (some .int)) (by decide) rfl ?_
  intro p e s m args below meth c s₁ B hml hv
  obtain ⟨⟨⟨rfl, hsz, hP, hK, hD0⟩, hZ⟩, hR⟩ := hv
  have htr := Launch.traces_off hfl B.admits
  have hx := B.exec
  have hb := B.bytes
  have hr := B.returns
  have hts := atoms_spec (ws := tb_w my_D_tick mb_D_tick 2 (some .int)) B.pre
  have hw : ∀ w ∈ gt_tbl, w.before [.ref hd, .int tk].toArray s = true := fun w h => hts w (List.mem_cons_of_mem _ h)
  have hown : s.vm.findClass cr_D = some m.cls := findClass_of_methodNamed B.named
  have hlocks := B.notSynchronized
  subst hsz
  have hD := hD0.self (sz := s.heap.size)
  generalize hAe : va_A [(hd, .inr (0, [.ref us, .ref op, .int (nI n), .int ck]))] s.heap.size = A at hD hZ ⊢
  have hA : ∀ q : Nat, s.heap.size ≤ q → A q := fun q h => by rw [← hAe]; exact Or.inr h
  have hS : va_S A s.heap s.heap [] := va_S.rf
  have hP : va_P G classes [(hd, .inr (0, [.ref us, .ref op, .int (nI n), .int ck]))] s.heap := hP
  have hl := lv_entry ([.ref hd, .int tk]) (n := 2) (Nat.le_of_ble_eq_true rfl)
  rw [lg_entry_eq]
  generalize (lg_sl ([.ref hd, .int tk]) ++ List.replicate (2 - (lg_sl ([.ref hd, .int tk])).length) Slot.unset).toArray = ls at hl ⊢
  have hl : lv_has ls 2 [(0, .ref hd), (1, .int tk)] := hl
  refine lv_iload_n hx hb d_D_tick_0 rfl (lv_at hl 1 rfl) ?_
  refine lv_if_lt (tgt := 10) hx hb d_D_tick_1 (by decide) (fun h852 => ?_) (fun h852 => ?_)
  · obtain ⟨sa, hstr⟩ := hR _ (List.mem_of_getElem? (l := st_tx) (i := 8) rfl)
    exact th_throw (own := "PakeDesk") (cls := "java/lang/IllegalArgumentException") (names := ["java/lang/RuntimeException", "java/lang/Exception"]) hx hb hlocks (st_out B _) (hl.1.trans hml.symm) htr hown (by decide) (by decide) (hw _ ww_192) (hw _ ww_193) (hw _ ww_9) (st_hat hw hK.2 hZ hS ow_IA) hstr d_D_tick_10 d_D_tick_13 d_D_tick_14 d_D_tick_16 d_D_tick_19 (Nat.le_of_ble_eq_true rfl) (Nat.le_of_ble_eq_true rfl) (Nat.le_of_ble_eq_true rfl) (Nat.le_of_ble_eq_true rfl) hS.2.2 (wk_T.of hP hD hS)
  · refine lv_iload_n hx hb d_D_tick_4 rfl (lv_at hl 1 rfl) ?_
    refine lv_bipush (v := 100) hx hb d_D_tick_5 (by decide) ?_
    refine lv_icmp_le (tgt := 20) hx hb d_D_tick_7 (by decide) (fun h853 => ?_) (fun h853 => ?_)
    · exact absurd ⟨Int32.not_lt.mp h852, h853⟩ hno
    · obtain ⟨sa, hstr⟩ := hR _ (List.mem_of_getElem? (l := st_tx) (i := 8) rfl)
      exact th_throw (own := "PakeDesk") (cls := "java/lang/IllegalArgumentException") (names := ["java/lang/RuntimeException", "java/lang/Exception"]) hx hb hlocks (st_out B _) (hl.1.trans hml.symm) htr hown (by decide) (by decide) (hw _ ww_192) (hw _ ww_193) (hw _ ww_9) (st_hat hw hK.2 hZ hS ow_IA) hstr d_D_tick_10 d_D_tick_13 d_D_tick_14 d_D_tick_16 d_D_tick_19 (Nat.le_of_ble_eq_true rfl) (Nat.le_of_ble_eq_true rfl) (Nat.le_of_ble_eq_true rfl) (Nat.le_of_ble_eq_true rfl) hS.2.2 (wk_T.of hP hD hS)
