theorem d_J_floorMod_0 : decode mb_J_floorMod 0 = .ok (.lload_n 0, 1) := by decide +kernel
theorem d_J_floorMod_1 : decode mb_J_floorMod 1 = .ok (.lload_n 2, 1) := by decide +kernel
theorem d_J_floorMod_2 : decode mb_J_floorMod 2 = .ok (.lrem, 1) := by decide +kernel
theorem d_J_floorMod_3 : decode mb_J_floorMod 3 = .ok (.lstore 4, 2) := by decide +kernel
theorem d_J_floorMod_5 : decode mb_J_floorMod 5 = .ok (.lload_n 0, 1) := by decide +kernel
theorem d_J_floorMod_6 : decode mb_J_floorMod 6 = .ok (.lload_n 2, 1) := by decide +kernel
theorem d_J_floorMod_7 : decode mb_J_floorMod 7 = .ok (.lxor, 1) := by decide +kernel
theorem d_J_floorMod_8 : decode mb_J_floorMod 8 = .ok (.lconst 0, 1) := by decide +kernel
theorem d_J_floorMod_9 : decode mb_J_floorMod 9 = .ok (.lcmp, 1) := by decide +kernel
theorem d_J_floorMod_10 : decode mb_J_floorMod 10 = .ok (.ifCond .ge 15, 3) := by decide +kernel
theorem d_J_floorMod_13 : decode mb_J_floorMod 13 = .ok (.lload 4, 2) := by decide +kernel
theorem d_J_floorMod_15 : decode mb_J_floorMod 15 = .ok (.lconst 0, 1) := by decide +kernel
theorem d_J_floorMod_16 : decode mb_J_floorMod 16 = .ok (.lcmp, 1) := by decide +kernel
theorem d_J_floorMod_17 : decode mb_J_floorMod 17 = .ok (.ifCond .eq 8, 3) := by decide +kernel
theorem d_J_floorMod_20 : decode mb_J_floorMod 20 = .ok (.lload 4, 2) := by decide +kernel
theorem d_J_floorMod_22 : decode mb_J_floorMod 22 = .ok (.lload_n 2, 1) := by decide +kernel
theorem d_J_floorMod_23 : decode mb_J_floorMod 23 = .ok (.ladd, 1) := by decide +kernel
theorem d_J_floorMod_24 : decode mb_J_floorMod 24 = .ok (.lreturn, 1) := by decide +kernel
theorem d_J_floorMod_25 : decode mb_J_floorMod 25 = .ok (.lload 4, 2) := by decide +kernel
theorem d_J_floorMod_27 : decode mb_J_floorMod 27 = .ok (.lreturn, 1) := by decide +kernel
set_option maxHeartbeats 4000000 in
set_option maxRecDepth 100000 in
theorem c_J_floorMod (l : Launch) (y : Nat) (hd : Nat) (hy1 : y < pq_P) (hh1 : hd < pq_P) : Met l my_J_floorMod (tb_w my_J_floorMod mb_J_floorMod 6 (some .long)) ({ frames := 0, cells := 0, slots := 0, locals := 0 }) (fun av _ => av = [.long (lN y - lN hd), .long 2147483579].toArray) (vp_Sl (fun r => r = lN ((y + (pq_P - hd)) % pq_P))) 0 0 (fun _ => False) := by
  refine va_MetF (cc := mb_J_floorMod) (maxL := 6) (ret := (some .long)) (by decide +kernel) rfl ?_
  intro p e s m args below meth c s₁ B hml hv
  subst hv
  have hx := B.exec
  have hb := B.bytes
  have hr := B.returns
  have hts := atoms_spec (ws := tb_w my_J_floorMod mb_J_floorMod 6 (some .long)) B.pre
  have hw : ∀ w ∈ gt_tbl, w.before [.long (lN y - lN hd), .long 2147483579].toArray s = true := fun w h => hts w (List.mem_cons_of_mem _ h)
  have hown : s.vm.findClass cr_J = some m.cls := findClass_of_methodNamed B.named
  have hlocks := B.notSynchronized
  have hl := lv_entry ([.long (lN y - lN hd), .long 2147483579]) (n := 6) (Nat.le_of_ble_eq_true rfl)
  rw [lg_entry_eq]
  generalize (lg_sl ([.long (lN y - lN hd), .long 2147483579]) ++ List.replicate (6 - (lg_sl ([.long (lN y - lN hd), .long 2147483579])).length) Slot.unset).toArray = ls at hl ⊢
  have hl : lv_has ls 6 [(0, .long (lN y - lN hd)), (2, .long 2147483579)] := hl
  by_cases hc : hd ≤ y
  · rw [lN_sub hc] at hl
    have hlt : y - hd < pq_P := Nat.lt_of_le_of_lt (Nat.sub_le _ _) hy1
    refine lv_lload_n hx hb d_J_floorMod_0 rfl (lv_at hl 0 rfl) ?_
    refine lv_lload_n hx hb d_J_floorMod_1 rfl (lv_at hl 1 rfl) ?_
    refine lv_lrem hx hb d_J_floorMod_2 (by decide) ?_
    refine tp_l ((pk_lRem (Nat.lt_trans hlt (by decide)) (by decide) (by decide)).trans (congrArg lN (Nat.mod_eq_of_lt hlt))) ?_
    refine lv_lstore (lv' := [(4, .long (lN (y - hd))), (0, .long (lN (y - hd))), (2, .long 2147483579)]) hx hb d_J_floorMod_3 hl (Nat.le_of_ble_eq_true rfl) rfl (fun ls hl => ?_)
    refine lv_lload_n hx hb d_J_floorMod_5 rfl (lv_at hl 1 rfl) ?_
    refine lv_lload_n hx hb d_J_floorMod_6 rfl (lv_at hl 2 rfl) ?_
    refine lv_lxor hx hb d_J_floorMod_7 ?_
    refine lv_lconst (v := 0) hx hb d_J_floorMod_8 (by decide) ?_
    refine W.lcmp hx hb d_J_floorMod_9 ?_
    refine lv_if_ge (tgt := 25) hx hb d_J_floorMod_10 (by decide) (fun h62 => ?_) (fun h62 => ?_)
    · have h62 := (lg_cmp_ge _ _).mp h62
      refine lv_lload hx hb d_J_floorMod_25 (lv_at hl 0 rfl) ?_
      exact W.lret (v := lN (y - hd)) hx hb hr (fun t ht hW => ⟨lN (y - hd), rfl, congrArg lN (fm_sub hy1 hc).symm, ht⟩) (fun q h => nomatch h) d_J_floorMod_27
    · have h62 := fun q => h62 ((lg_cmp_ge _ _).mpr q)
      exact absurd (fm_ge hlt) h62
  · have hc := Nat.not_le.mp hc
    refine lv_lload_n hx hb d_J_floorMod_0 rfl (lv_at hl 0 rfl) ?_
    refine lv_lload_n hx hb d_J_floorMod_1 rfl (lv_at hl 1 rfl) ?_
    refine lv_lrem hx hb d_J_floorMod_2 (by decide) ?_
    refine tp_l (fm_rem hy1 hh1 hc) ?_
    refine lv_lstore (lv' := [(4, .long (lN y - lN hd)), (0, .long (lN y - lN hd)), (2, .long 2147483579)]) hx hb d_J_floorMod_3 hl (Nat.le_of_ble_eq_true rfl) rfl (fun ls hl => ?_)
    refine lv_lload_n hx hb d_J_floorMod_5 rfl (lv_at hl 1 rfl) ?_
    refine lv_lload_n hx hb d_J_floorMod_6 rfl (lv_at hl 2 rfl) ?_
    refine lv_lxor hx hb d_J_floorMod_7 ?_
    refine lv_lconst (v := 0) hx hb d_J_floorMod_8 (by decide) ?_
    refine W.lcmp hx hb d_J_floorMod_9 ?_
    refine lv_if_ge (tgt := 25) hx hb d_J_floorMod_10 (by decide) (fun h63 => ?_) (fun h63 => ?_)
    · have h63 := (lg_cmp_ge _ _).mp h63
      exact absurd h63 (fm_lt hy1 hh1 hc)
    · have h63 := fun q => h63 ((lg_cmp_ge _ _).mpr q)
      refine lv_lload hx hb d_J_floorMod_13 (lv_at hl 0 rfl) ?_
      refine lv_lconst (v := 0) hx hb d_J_floorMod_15 (by decide) ?_
      refine W.lcmp hx hb d_J_floorMod_16 ?_
      refine lv_if_eq (tgt := 25) hx hb d_J_floorMod_17 (by decide) (fun h64 => ?_) (fun h64 => ?_)
      · have h64 := (lg_cmp_eq _ _).mp h64
        exact absurd h64 (fm_ne hy1 hh1 hc)
      · have h64 := fun q => h64 ((lg_cmp_eq _ _).mpr q)
        refine lv_lload hx hb d_J_floorMod_20 (lv_at hl 0 rfl) ?_
        refine lv_lload_n hx hb d_J_floorMod_22 rfl (lv_at hl 2 rfl) ?_
        refine lv_ladd hx hb d_J_floorMod_23 ?_
        exact W.lret (v := (lN y - lN hd) + 2147483579) hx hb hr (fun t ht hW => ⟨(lN y - lN hd) + 2147483579, rfl, fm_add hy1 hh1 hc, ht⟩) (fun q h => nomatch h) d_J_floorMod_24
