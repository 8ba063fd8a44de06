theorem d_L_cell_0 : decode mb_L_cell 0 = .ok (.iload_n 1, 1) := by decide +kernel
theorem d_L_cell_1 : decode mb_L_cell 1 = .ok (.aload_n 0, 1) := by decide +kernel
theorem d_L_cell_2 : decode mb_L_cell 2 = .ok (.arraylength, 1) := by decide +kernel
theorem d_L_cell_3 : decode mb_L_cell 3 = .ok (.if_icmp .ge 9, 3) := by decide +kernel
theorem d_L_cell_6 : decode mb_L_cell 6 = .ok (.aload_n 0, 1) := by decide +kernel
theorem d_L_cell_7 : decode mb_L_cell 7 = .ok (.iload_n 1, 1) := by decide +kernel
theorem d_L_cell_8 : decode mb_L_cell 8 = .ok (.iaload, 1) := by decide +kernel
theorem d_L_cell_9 : decode mb_L_cell 9 = .ok (.goto 4, 3) := by decide +kernel
theorem d_L_cell_12 : decode mb_L_cell 12 = .ok (.iconst 0, 1) := by decide +kernel
theorem d_L_cell_13 : decode mb_L_cell 13 = .ok (.ireturn, 1) := by decide +kernel
def ce_v (L : Nat) (xs : Nat → Int32) : Int32 := if 0 < L then xs 0 else 0
def ce_P (b L : Nat) (xs : Nat → Int32) : Array Value → State → Prop := fun a U => a = [Value.ref b, .int 0].toArray ∧ va_X b L xs U U.heap
theorem ce_in {L : Nat} (h : 0 < L) (hL : L ≤ 3585) : vp_in 0 L := vp_in_nI (n := 0) h (by omega)
theorem ce_n {L : Nat} (hL : L ≤ 3585) (h : (0 : Int32) ≥ Int32.ofNat L) : L = 0 := by
  have h1 : nI L ≤ nI 0 := h
  rw [Int32.le_iff_toInt_le, nI_toInt (by omega), nI_toInt (by decide)] at h1
  omega
theorem ce_y {L : Nat} (hL : L ≤ 3585) (h : ¬ (0 : Int32) ≥ Int32.ofNat L) : 0 < L := by
  have h1 : ¬ nI L ≤ nI 0 := h
  rw [Int32.le_iff_toInt_le, nI_toInt (by omega), nI_toInt (by decide)] at h1
  omega
theorem ce_pre {s : State} {H : Heap} {b L : Nat} {xs : Nat → Int32} (hX : va_X b L xs s H) : PreS s H (ce_P b L xs) [Value.ref b, .int 0] :=
  ⟨fun a U g mk q => ⟨q.1, va_X.moved (u := U) (U := U.calling g mk a) (Vm.Alike.refl U.vm) q.2⟩, fun U hU hW => ⟨rfl, by rw [hU]; exact hX.moved hW.alike⟩⟩
set_option maxHeartbeats 4000000 in
set_option maxRecDepth 100000 in
theorem c_L_cell (l : Launch) (b L : Nat) (xs : Nat → Int32) (hL : L ≤ 3585) : Met l my_L_cell (tb_w my_L_cell mb_L_cell 2 (some .int)) ({ frames := 0, cells := 0, slots := 0, locals := 0 }) (ce_P b L xs) (vp_Si (fun r => r = ce_v L xs)) 0 0 (fun _ => False) := by
  refine Met.ofW (cc := mb_L_cell) (maxL := 2) (ret := (some .int)) (by decide) rfl ?_
  intro p e s m args below meth c s₁ B hml hv
  obtain ⟨rfl, hX⟩ := hv
  have hbl : b < s.heap.size := by
    obtain ⟨_, h1, _⟩ := hX
    exact (Array.getElem?_eq_some_iff.mp h1).1
  have hx := B.exec
  have hb := B.bytes
  have hr := B.returns
  have hts := atoms_spec (ws := tb_w my_L_cell mb_L_cell 2 (some .int)) B.pre
  have hw : ∀ w ∈ gt_tbl, w.before [.ref b, .int 0].toArray s = true := fun w h => hts w (List.mem_cons_of_mem _ h)
  have hown : s.vm.findClass cr_L = some m.cls := findClass_of_methodNamed B.named
  have hlocks := B.notSynchronized
  have hl := lv_entry ([.ref b, .int 0]) (n := 2) (Nat.le_of_ble_eq_true rfl)
  rw [lg_entry_eq]
  generalize (lg_sl ([.ref b, .int 0]) ++ List.replicate (2 - (lg_sl ([.ref b, .int 0])).length) Slot.unset).toArray = ls at hl ⊢
  have hl : lv_has ls 2 [(0, .ref b), (1, .int 0)] := hl
  refine lv_iload_n hx hb d_L_cell_0 rfl (lv_at hl 1 rfl) ?_
  refine lv_aload_n hx hb d_L_cell_1 rfl (lv_at hl 0 rfl) ?_
  refine va_slen (A := fun _ => False) hx hb hX hbl (fun q => q) va_S.rf d_L_cell_2 ?_
  refine lv_icmp_ge (tgt := 12) hx hb d_L_cell_3 (by decide) (fun h1371 => ?_) (fun h1371 => ?_)
  · have hh0 : L = 0 := ce_n hL h1371
    refine lv_iconst (v := 0) hx hb d_L_cell_12 (by decide) ?_
    exact W.iret (v := 0) hx hb hr (fun t ht hW => ⟨0, rfl, (if_neg (by omega)).symm, ht⟩) (fun q h => nomatch h) d_L_cell_13
  · have hh0 : 0 < L := ce_y hL h1371
    refine lv_aload_n hx hb d_L_cell_6 rfl (lv_at hl 0 rfl) ?_
    refine lv_iload_n hx hb d_L_cell_7 rfl (lv_at hl 1 rfl) ?_
    refine va_sld (A := fun _ => False) hx hb hX hbl (fun q => q) va_S.rf (ce_in hh0 hL) d_L_cell_8 ?_
    refine lv_goto (tgt := 13) hx hb d_L_cell_9 (by decide) ?_
    exact W.iret (v := xs 0) hx hb hr (fun t ht hW => ⟨xs 0, rfl, (if_pos hh0).symm, ht⟩) (fun q h => nomatch h) d_L_cell_13
