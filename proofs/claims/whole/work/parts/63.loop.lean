section LQ
variable {p : Program} {l : Launch} {e : Env} {s : State} {m : MethodId} {below : List Frame} {meth : Method} {c : Code} {b : Nat} {L : Nat} {xs : Nat → Int32} {G : va_G} {ct : Nat → ClassId} {A : Nat → Prop} {hd : Nat} {us : Nat} {op : Nat} {hm : Nat} {qo : Nat} {qa : Nat → Nat} {fu : Nat → Option Nat} {au : Nat → Nat} {ns : Int32} {iv cells slots : Nat} {Q : State → Prop} {H : Heap} {locs : List Loc} {ls : Array Slot} {n : Nat} {ck : Int32} {th : Int32} {hh : Int64} {a1 : Nat → Int32} {a2 : Nat → Int64} {a3 : Nat → Int64} {a4 : Nat → Int64} {a5 : Nat → Int32} {a6 : Nat → Int32} {a7 : Nat → Int32} {a8 : Nat → Int32} {a9 : Nat → Int32} {b0 : Nat → Int32} {b1 : Nat → Int32} {b2 : Nat → Int32} {b3 : Nat → Int32} {b4 : Nat → Int64} {b5 : Nat → Int64} {b6 : Nat → Int64} {b7 : Nat → Int64} {b8 : Nat → Int64} {b9 : Nat → Int64} {b10 : Nat → Int64} {og : Nat → Int64} {fo : Nat → Option Nat} {ad : Nat → Nat} {eu : Nat → va_E} {es : Nat → va_E}
theorem ls_16 (x : Int32) : ∃ r : Nat, r < 16 ∧ x &&& 15 = nI r := by
  refine ⟨(x.toBitVec &&& 15#32).toNat, ?_, ?_⟩
  · rw [BitVec.toNat_and]
    exact Nat.lt_of_le_of_lt Nat.and_le_right (by decide)
  · apply Int32.toBitVec_inj.mp
    show x.toBitVec &&& (15 : Int32).toBitVec = BitVec.ofNat 32 (x.toBitVec &&& 15#32).toNat
    rw [BitVec.ofNat_toNat, BitVec.setWidth_eq]
    rfl
theorem nI_ad (a d : Nat) : nI a + nI d = nI (a + d) := by
  apply Int32.toBitVec_inj.mp
  show BitVec.ofNat 32 a + BitVec.ofNat 32 d = BitVec.ofNat 32 (a + d)
  rw [BitVec.ofNat_add]
theorem ls_7 {L : Nat} (hL : L ≤ 3585) : (Int32.ofNat L - 7).toInt = (L : Int) - 7 := by
  have e1 : (Int32.ofNat L).toInt = (L : Int) := nI_toInt (n := L) (by omega)
  have e2 : (7 : Int32).toInt = 7 := by decide
  rw [Jvm.Kit.i32_sub (by rw [e1, e2]; omega) (by rw [e1, e2]; omega), e1, e2]
theorem ls_y {iv L : Nat} (hL : L ≤ 3585) (hi : iv ≤ 3600) (h : Int32.ofNat L - 7 < nI iv) : ¬ iv + 7 ≤ L := by
  rw [Int32.lt_iff_toInt_lt, ls_7 hL, nI_toInt (by omega)] at h
  omega
theorem ls_n {iv L : Nat} (hL : L ≤ 3585) (hi : iv ≤ 3600) (h : ¬ Int32.ofNat L - 7 < nI iv) : iv + 7 ≤ L := by
  rw [Int32.lt_iff_toInt_lt, ls_7 hL, nI_toInt (by omega)] at h
  omega
theorem lp_head (C0 : lc_C p l s m meth c b L xs G ct A) (hi : iv ≤ 3600) (hS : va_S A s.heap H locs) (hl : lv_has ls 8 [(4, .int (nI iv)), (3, .ref qo), (2, .ref hm), (1, .ref hd), (0, .ref b)]) (k1 : ¬ iv + 7 ≤ L → W p l e room_1 s m #[Value.ref b] below meth c H locs cells slots Q (F0 m 1011 ls [])) (k2 : iv + 7 ≤ L → W p l e room_1 s m #[Value.ref b] below meth c H locs cells slots Q (F0 m 43 ls [])) : W p l e room_1 s m #[Value.ref b] below meth c H locs cells slots Q (F0 m 33 ls []) := by
  obtain ⟨hx, hb, hr, hml, hown, hw, hK, hZ, hR, hN, hfl, hA, hbA, hX, hbl, hL, hlocks⟩ := C0
  refine lv_iload hx hb d_L_law_33 (lv_at hl 0 rfl) ?_
  refine lv_aload_n hx hb d_L_law_35 rfl (lv_at hl 4 rfl) ?_
  refine va_slen hx hb hX hbl hbA hS d_L_law_36 ?_
  refine lv_bipush (v := 7) hx hb d_L_law_37 (by decide) ?_
  refine lv_isub hx hb d_L_law_39 ?_
  refine lv_icmp_gt (tgt := 1011) hx hb d_L_law_40 (by decide) (fun h1372 => ?_) (fun h1372 => ?_)
  · exact k1 (ls_y hL hi h1372)
  · exact k2 (ls_n hL hi h1372)
theorem lp_step (C0 : lc_C p l s m meth c b L xs G ct A) (hiv : iv + 7 ≤ L) (hcc : cells + 1 ≤ room_1.cells) (hzz : slots + 13 ≤ room_1.slots) (Z : li_R fu au ns n a1 a2 a3 a4 a5 a6 a7 a8 a9 b0 b1 b2 b3 b4 b5 b6 b7 b8 b9 b10 fo ad eu es) (hP : va_P G classes (lw_W ct hd us op hm qo qa fu au ns n ck n ck th hh a1 a2 a3 a4 a5 a6 a7 a8 a9 b0 b1 b2 b3 b4 b5 b6 b7 b8 b9 b10 og fo ad eu es) H) (hD : va_D A (lw_W ct hd us op hm qo qa fu au ns n ck n ck th hh a1 a2 a3 a4 a5 a6 a7 a8 a9 b0 b1 b2 b3 b4 b5 b6 b7 b8 b9 b10 og fo ad eu es)) (hS : va_S A s.heap H locs) (hl : lv_has ls 8 [(4, .int (nI iv)), (3, .ref qo), (2, .ref hm), (1, .ref hd), (0, .ref b)]) (kk : lc_K p l e s m below meth c b L xs G ct A hd us op hm qo qa fu au ns iv (cells + 1) (slots + 13) Q) : W p l e room_1 s m #[Value.ref b] below meth c H locs cells slots Q (F0 m 43 ls []) := by
  have C9 := C0
  obtain ⟨hx, hb, hr, hml, hown, hw, hK, hZ, hR, hN, hfl, hA, hbA, hX, hbl, hL, hlocks⟩ := C0
  refine lv_aload_n hx hb d_L_law_43 rfl (lv_at hl 4 rfl) ?_
  refine lv_iload hx hb d_L_law_44 (lv_at hl 0 rfl) ?_
  refine va_sld hx hb hX hbl hbA hS (vp_in_nI (by omega) (by omega)) d_L_law_46 ?_
  rw [nI_clamp (by omega)]
  refine lv_bipush (v := 15) hx hb d_L_law_47 (by decide) ?_
  refine lv_iand hx hb d_L_law_49 ?_
  obtain ⟨r, hr16, er⟩ := ls_16 (xs iv)
  refine tp_i er ?_
  have hr : r = 0 ∨ r = 1 ∨ r = 2 ∨ r = 3 ∨ r = 4 ∨ r = 5 ∨ r = 6 ∨ r = 7 ∨ r = 8 ∨ r = 9 ∨ r = 10 ∨ r = 11 ∨ r = 12 ∨ r = 13 ∨ r = 14 ∨ r = 15 := by omega
  rcases hr with rfl | rfl | rfl | rfl | rfl | rfl | rfl | rfl | rfl | rfl | rfl | rfl | rfl | rfl | rfl | rfl
  · refine lv_tableIn (tgt := 120) hx hb d_L_law_50 (by decide) (by decide) rfl (by decide) ?_
    exact lx_register C9 hiv hcc hzz Z hP hD hS hl kk
  · refine lv_tableIn (tgt := 247) hx hb d_L_law_50 (by decide) (by decide) rfl (by decide) ?_
    exact lx_forget C9 hiv hcc hzz Z hP hD hS hl kk
  · refine lv_tableIn (tgt := 272) hx hb d_L_law_50 (by decide) (by decide) rfl (by decide) ?_
    exact lx_way C9 hiv hcc hzz Z hP hD hS hl kk
  · refine lv_tableIn (tgt := 297) hx hb d_L_law_50 (by decide) (by decide) rfl (by decide) ?_
    exact lx_salt C9 hiv hcc hzz Z hP hD hS hl kk
  · refine lv_tableIn (tgt := 323) hx hb d_L_law_50 (by decide) (by decide) rfl (by decide) ?_
    exact lx_client C9 hiv hcc hzz Z hP hD hS hl kk
  · refine lv_tableIn (tgt := 481) hx hb d_L_law_50 (by decide) (by decide) rfl (by decide) ?_
    exact lx_server C9 hiv hcc hzz Z hP hD hS hl kk
  · refine lv_tableIn (tgt := 593) hx hb d_L_law_50 (by decide) (by decide) rfl (by decide) ?_
    exact lx_receive C9 hiv hcc hzz Z hP hD hS hl kk
  · refine lv_tableIn (tgt := 693) hx hb d_L_law_50 (by decide) (by decide) rfl (by decide) ?_
    exact lx_pass C9 hiv hcc hzz Z hP hD hS hl kk
  · refine lv_tableIn (tgt := 805) hx hb d_L_law_50 (by decide) (by decide) rfl (by decide) ?_
    exact lx_message C9 hiv hcc hzz Z hP hD hS hl kk
  · refine lv_tableIn (tgt := 831) hx hb d_L_law_50 (by decide) (by decide) rfl (by decide) ?_
    exact lx_key C9 hiv hcc hzz Z hP hD hS hl kk
  · refine lv_tableIn (tgt := 886) hx hb d_L_law_50 (by decide) (by decide) rfl (by decide) ?_
    exact lx_state C9 hiv hcc hzz Z hP hD hS hl kk
  · refine lv_tableIn (tgt := 911) hx hb d_L_law_50 (by decide) (by decide) rfl (by decide) ?_
    exact lx_blocked C9 hiv hcc hzz Z hP hD hS hl kk
  · refine lv_tableIn (tgt := 936) hx hb d_L_law_50 (by decide) (by decide) rfl (by decide) ?_
    exact lx_tick C9 hiv hcc hzz Z hP hD hS hl kk
  · refine lv_tableIn (tgt := 992) hx hb d_L_law_50 (by decide) (by decide) rfl (by decide) ?_
    exact lx_sessions C9 hiv hcc hzz Z hP hD hS hl kk
  · refine lv_tableOut (tgt := 1005) hx hb d_L_law_50 (by decide) (by decide) ?_
    refine W.widen (k := cells + 1) (n := slots + 13) (by omega) (by omega) ?_
    exact kk n ck th hh a1 a2 a3 a4 a5 a6 a7 a8 a9 b0 b1 b2 b3 b4 b5 b6 b7 b8 b9 b10 og fo ad eu es H locs ls Z hP hD hS hl
  · refine lv_tableOut (tgt := 1005) hx hb d_L_law_50 (by decide) (by decide) ?_
    refine W.widen (k := cells + 1) (n := slots + 13) (by omega) (by omega) ?_
    exact kk n ck th hh a1 a2 a3 a4 a5 a6 a7 a8 a9 b0 b1 b2 b3 b4 b5 b6 b7 b8 b9 b10 og fo ad eu es H locs ls Z hP hD hS hl
theorem lp_loop (C0 : lc_C p l s m meth c b L xs G ct A) (hend : ∀ (H : Heap) (locs : List Loc) (ls : Array Slot) (cells slots : Nat), (∀ q ∈ locs, A q.base) → cells ≤ room_1.cells → slots ≤ room_1.slots → W p l e room_1 s m #[Value.ref b] below meth c H locs cells slots Q (F0 m 1011 ls [])) :
    ∀ (d iv cells slots : Nat) (n : Nat) (ck : Int32) (th : Int32) (hh : Int64) (a1 : Nat → Int32) (a2 : Nat → Int64) (a3 : Nat → Int64) (a4 : Nat → Int64) (a5 : Nat → Int32) (a6 : Nat → Int32) (a7 : Nat → Int32) (a8 : Nat → Int32) (a9 : Nat → Int32) (b0 : Nat → Int32) (b1 : Nat → Int32) (b2 : Nat → Int32) (b3 : Nat → Int32) (b4 : Nat → Int64) (b5 : Nat → Int64) (b6 : Nat → Int64) (b7 : Nat → Int64) (b8 : Nat → Int64) (b9 : Nat → Int64) (b10 : Nat → Int64) (og : Nat → Int64) (fo : Nat → Option Nat) (ad : Nat → Nat) (eu : Nat → va_E) (es : Nat → va_E) (H : Heap) (locs : List Loc) (ls : Array Slot), L ≤ iv + 7 * d → iv ≤ 3600 → cells + d ≤ room_1.cells → slots + 13 * d ≤ room_1.slots → li_R fu au ns n a1 a2 a3 a4 a5 a6 a7 a8 a9 b0 b1 b2 b3 b4 b5 b6 b7 b8 b9 b10 fo ad eu es → va_P G classes (lw_W ct hd us op hm qo qa fu au ns n ck n ck th hh a1 a2 a3 a4 a5 a6 a7 a8 a9 b0 b1 b2 b3 b4 b5 b6 b7 b8 b9 b10 og fo ad eu es) H → va_D A (lw_W ct hd us op hm qo qa fu au ns n ck n ck th hh a1 a2 a3 a4 a5 a6 a7 a8 a9 b0 b1 b2 b3 b4 b5 b6 b7 b8 b9 b10 og fo ad eu es) → va_S A s.heap H locs → lv_has ls 8 [(4, .int (nI iv)), (3, .ref qo), (2, .ref hm), (1, .ref hd), (0, .ref b)] → W p l e room_1 s m #[Value.ref b] below meth c H locs cells slots Q (F0 m 33 ls []) := by
  intro d
  induction d with
  | zero =>
    intro iv cells slots n ck th hh a1 a2 a3 a4 a5 a6 a7 a8 a9 b0 b1 b2 b3 b4 b5 b6 b7 b8 b9 b10 og fo ad eu es H locs ls h1 h2 h3 h4 Z hP hD hS hl
    exact lp_head C0 h2 hS hl (fun _ => hend H locs ls cells slots hS.2.2 (by omega) (by omega)) (fun q => absurd q (by omega))
  | succ d ih =>
    intro iv cells slots n ck th hh a1 a2 a3 a4 a5 a6 a7 a8 a9 b0 b1 b2 b3 b4 b5 b6 b7 b8 b9 b10 og fo ad eu es H locs ls h1 h2 h3 h4 Z hP hD hS hl
    have hL := C0.2.2.2.2.2.2.2.2.2.2.2.2.2.2.2.1
    refine lp_head C0 h2 hS hl (fun _ => hend H locs ls cells slots hS.2.2 (by omega) (by omega)) (fun hiv => lp_step C0 hiv (by omega) (by omega) Z hP hD hS hl ?_)
    intro n ck th hh a1 a2 a3 a4 a5 a6 a7 a8 a9 b0 b1 b2 b3 b4 b5 b6 b7 b8 b9 b10 og fo ad eu es H locs ls Z hP hD hS hl
    refine lv_iinc (k := 0) (v := nI (iv + 7)) (lv' := [(4, .int (nI (iv + 7))), (3, .ref qo), (2, .ref hm), (1, .ref hd), (0, .ref b)]) C0.1 C0.2.1 d_L_law_1005 hl rfl (nI_ad iv 7) (Nat.le_of_ble_eq_true rfl) rfl (fun ls hl => ?_)
    refine lv_goto (tgt := 33) C0.1 C0.2.1 d_L_law_1008 (by decide) ?_
    exact ih (iv + 7) (cells + 1) (slots + 13) n ck th hh a1 a2 a3 a4 a5 a6 a7 a8 a9 b0 b1 b2 b3 b4 b5 b6 b7 b8 b9 b10 og fo ad eu es H locs ls (by omega) (by omega) (by omega) (by omega) Z hP hD hS hl
end LQ
