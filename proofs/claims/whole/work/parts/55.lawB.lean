theorem ww_0 : (Jvm.Cond.initialized "PakeDeskLaw") ∈ gt_tbl := gt_m (List.mem_append_right _ (List.mem_append_left _ (List.mem_of_getElem? (i := 0) (by decide +kernel)))) (by decide)
theorem ww_183 : (Jvm.Cond.methodLink "PakeDeskLaw" (72 : Nat) ({ cls := "PakeDeskLaw", name := "client", desc := "(LPakeDesk;IIJJ[J)I" } : Jvm.MethodName)) ∈ gt_tbl := gt_m (List.mem_append_right _ (List.mem_append_left _ (List.mem_of_getElem? (i := 183) (by decide +kernel)))) (by decide)
theorem ww_184 : (Jvm.Cond.static ({ cls := "PakeDeskLaw", name := "client", desc := "(LPakeDesk;IIJJ[J)I" } : Jvm.MethodName)) ∈ gt_tbl := gt_m (List.mem_append_right _ (List.mem_append_left _ (List.mem_of_getElem? (i := 184) (by decide +kernel)))) (by decide)
theorem ww_185 : (Jvm.Cond.codeWith ({ cls := "PakeDeskLaw", name := "client", desc := "(LPakeDesk;IIJJ[J)I" } : Jvm.MethodName) method_3_code (9 : Nat) (Option.some Jvm.ClassFile.FieldType.int) [((0 : Nat), (14 : Nat), (17 : Nat), (13 : Nat)), ((0 : Nat), (14 : Nat), (21 : Nat), (15 : Nat))]) ∈ gt_tbl := gt_m (List.mem_append_right _ (List.mem_append_left _ (List.mem_of_getElem? (i := 185) (by decide +kernel)))) (by decide)
theorem ww_376 : (Jvm.Cond.methodLink "PakeDeskLaw" (80 : Nat) ({ cls := "PakeDeskLaw", name := "server", desc := "(LPakeDesk;IIJ[J)I" } : Jvm.MethodName)) ∈ gt_tbl := gt_m (List.mem_append_right _ (List.mem_append_right _ (List.mem_append_left _ (List.mem_of_getElem? (i := 136) (by decide +kernel))))) (by decide)
theorem ww_377 : (Jvm.Cond.static ({ cls := "PakeDeskLaw", name := "server", desc := "(LPakeDesk;IIJ[J)I" } : Jvm.MethodName)) ∈ gt_tbl := gt_m (List.mem_append_right _ (List.mem_append_right _ (List.mem_append_left _ (List.mem_of_getElem? (i := 137) (by decide +kernel))))) (by decide)
theorem ww_378 : (Jvm.Cond.codeWith ({ cls := "PakeDeskLaw", name := "server", desc := "(LPakeDesk;IIJ[J)I" } : Jvm.MethodName) method_4_code (7 : Nat) (Option.some Jvm.ClassFile.FieldType.int) [((0 : Nat), (12 : Nat), (15 : Nat), (13 : Nat)), ((0 : Nat), (12 : Nat), (19 : Nat), (15 : Nat))]) ∈ gt_tbl := gt_m (List.mem_append_right _ (List.mem_append_right _ (List.mem_append_left _ (List.mem_of_getElem? (i := 138) (by decide +kernel))))) (by decide)
theorem ww_618 : (Jvm.Cond.methodLink "PakeDeskLaw" (95 : Nat) ({ cls := "PakeDeskLaw", name := "key", desc := "(LPakeDesk;I[J)I" } : Jvm.MethodName)) ∈ gt_tbl := gt_m (List.mem_append_right _ (List.mem_append_right _ (List.mem_append_right _ (List.mem_append_left _ (List.mem_of_getElem? (i := 138) (by decide +kernel)))))) (by decide)
theorem ww_619 : (Jvm.Cond.static ({ cls := "PakeDeskLaw", name := "key", desc := "(LPakeDesk;I[J)I" } : Jvm.MethodName)) ∈ gt_tbl := gt_m (List.mem_append_right _ (List.mem_append_right _ (List.mem_append_right _ (List.mem_append_left _ (List.mem_of_getElem? (i := 139) (by decide +kernel)))))) (by decide)
theorem ww_620 : (Jvm.Cond.codeWith ({ cls := "PakeDeskLaw", name := "key", desc := "(LPakeDesk;I[J)I" } : Jvm.MethodName) method_7_code (4 : Nat) (Option.some Jvm.ClassFile.FieldType.int) [((0 : Nat), (8 : Nat), (11 : Nat), (25 : Nat)), ((0 : Nat), (8 : Nat), (14 : Nat), (15 : Nat))]) ∈ gt_tbl := gt_m (List.mem_append_right _ (List.mem_append_right _ (List.mem_append_right _ (List.mem_append_left _ (List.mem_of_getElem? (i := 140) (by decide +kernel)))))) (by decide)
theorem ww_626 : (Jvm.Cond.methodLink "PakeDeskLaw" (107 : Nat) ({ cls := "PakeDeskLaw", name := "tick", desc := "(LPakeDesk;I[J)I" } : Jvm.MethodName)) ∈ gt_tbl := gt_m (List.mem_append_right _ (List.mem_append_right _ (List.mem_append_right _ (List.mem_append_left _ (List.mem_of_getElem? (i := 146) (by decide +kernel)))))) (by decide)
theorem ww_627 : (Jvm.Cond.static ({ cls := "PakeDeskLaw", name := "tick", desc := "(LPakeDesk;I[J)I" } : Jvm.MethodName)) ∈ gt_tbl := gt_m (List.mem_append_right _ (List.mem_append_right _ (List.mem_append_right _ (List.mem_append_left _ (List.mem_of_getElem? (i := 147) (by decide +kernel)))))) (by decide)
theorem ww_628 : (Jvm.Cond.codeWith ({ cls := "PakeDeskLaw", name := "tick", desc := "(LPakeDesk;I[J)I" } : Jvm.MethodName) method_8_code (4 : Nat) (Option.some Jvm.ClassFile.FieldType.int) [((0 : Nat), (9 : Nat), (12 : Nat), (13 : Nat))]) ∈ gt_tbl := gt_m (List.mem_append_right _ (List.mem_append_right _ (List.mem_append_right _ (List.mem_append_left _ (List.mem_of_getElem? (i := 148) (by decide +kernel)))))) (by decide)
theorem ww_719 : (Jvm.Cond.methodLink "PakeDeskLaw" (76 : Nat) ({ cls := "PakeDeskModel", name := "thrown", desc := "()I" } : Jvm.MethodName)) ∈ gt_tbl := gt_m (List.mem_append_right _ (List.mem_append_right _ (List.mem_append_right _ (List.mem_append_left _ (List.mem_of_getElem? (i := 239) (by decide +kernel)))))) (by decide)
theorem ww_720 : (Jvm.Cond.instanceMethod ({ cls := "PakeDeskModel", name := "thrown", desc := "()I" } : Jvm.MethodName)) ∈ gt_tbl := gt_m (List.mem_append_right _ (List.mem_append_right _ (List.mem_append_right _ (List.mem_append_right _ (List.mem_of_getElem? (i := 0) (by decide +kernel)))))) (by decide)
theorem ww_721 : (Jvm.Cond.selects "PakeDeskModel" ({ cls := "PakeDeskModel", name := "thrown", desc := "()I" } : Jvm.MethodName) ({ cls := "PakeDeskModel", name := "thrown", desc := "()I" } : Jvm.MethodName)) ∈ gt_tbl := gt_m (List.mem_append_right _ (List.mem_append_right _ (List.mem_append_right _ (List.mem_append_right _ (List.mem_of_getElem? (i := 1) (by decide +kernel)))))) (by decide)
theorem ww_722 : (Jvm.Cond.code ({ cls := "PakeDeskModel", name := "thrown", desc := "()I" } : Jvm.MethodName) prog_9_method_2_code (1 : Nat) (Option.some Jvm.ClassFile.FieldType.int)) ∈ gt_tbl := gt_m (List.mem_append_right _ (List.mem_append_right _ (List.mem_append_right _ (List.mem_append_right _ (List.mem_of_getElem? (i := 2) (by decide +kernel)))))) (by decide)
theorem ww_787 : (Jvm.Cond.methodLink "PakeDeskLaw" (75 : Nat) ({ cls := "PakeDeskModel", name := "client", desc := "(IIJJ)I" } : Jvm.MethodName)) ∈ gt_tbl := gt_m (List.mem_append_right _ (List.mem_append_right _ (List.mem_append_right _ (List.mem_append_right _ (List.mem_of_getElem? (i := 67) (by decide +kernel)))))) (by decide)
theorem ww_788 : (Jvm.Cond.instanceMethod ({ cls := "PakeDeskModel", name := "client", desc := "(IIJJ)I" } : Jvm.MethodName)) ∈ gt_tbl := gt_m (List.mem_append_right _ (List.mem_append_right _ (List.mem_append_right _ (List.mem_append_right _ (List.mem_of_getElem? (i := 68) (by decide +kernel)))))) (by decide)
theorem ww_789 : (Jvm.Cond.selects "PakeDeskModel" ({ cls := "PakeDeskModel", name := "client", desc := "(IIJJ)I" } : Jvm.MethodName) ({ cls := "PakeDeskModel", name := "client", desc := "(IIJJ)I" } : Jvm.MethodName)) ∈ gt_tbl := gt_m (List.mem_append_right _ (List.mem_append_right _ (List.mem_append_right _ (List.mem_append_right _ (List.mem_of_getElem? (i := 69) (by decide +kernel)))))) (by decide)
theorem ww_790 : (Jvm.Cond.code ({ cls := "PakeDeskModel", name := "client", desc := "(IIJJ)I" } : Jvm.MethodName) prog_9_method_19_code (10 : Nat) (Option.some Jvm.ClassFile.FieldType.int)) ∈ gt_tbl := gt_m (List.mem_append_right _ (List.mem_append_right _ (List.mem_append_right _ (List.mem_append_right _ (List.mem_of_getElem? (i := 70) (by decide +kernel)))))) (by decide)
theorem ww_796 : (Jvm.Cond.methodLink "PakeDeskLaw" (83 : Nat) ({ cls := "PakeDeskModel", name := "server", desc := "(IIJ)I" } : Jvm.MethodName)) ∈ gt_tbl := gt_m (List.mem_append_right _ (List.mem_append_right _ (List.mem_append_right _ (List.mem_append_right _ (List.mem_of_getElem? (i := 76) (by decide +kernel)))))) (by decide)
theorem ww_797 : (Jvm.Cond.instanceMethod ({ cls := "PakeDeskModel", name := "server", desc := "(IIJ)I" } : Jvm.MethodName)) ∈ gt_tbl := gt_m (List.mem_append_right _ (List.mem_append_right _ (List.mem_append_right _ (List.mem_append_right _ (List.mem_of_getElem? (i := 77) (by decide +kernel)))))) (by decide)
theorem ww_798 : (Jvm.Cond.selects "PakeDeskModel" ({ cls := "PakeDeskModel", name := "server", desc := "(IIJ)I" } : Jvm.MethodName) ({ cls := "PakeDeskModel", name := "server", desc := "(IIJ)I" } : Jvm.MethodName)) ∈ gt_tbl := gt_m (List.mem_append_right _ (List.mem_append_right _ (List.mem_append_right _ (List.mem_append_right _ (List.mem_of_getElem? (i := 78) (by decide +kernel)))))) (by decide)
theorem ww_799 : (Jvm.Cond.code ({ cls := "PakeDeskModel", name := "server", desc := "(IIJ)I" } : Jvm.MethodName) prog_9_method_21_code (7 : Nat) (Option.some Jvm.ClassFile.FieldType.int)) ∈ gt_tbl := gt_m (List.mem_append_right _ (List.mem_append_right _ (List.mem_append_right _ (List.mem_append_right _ (List.mem_of_getElem? (i := 79) (by decide +kernel)))))) (by decide)
theorem ww_864 : (Jvm.Cond.methodLink "PakeDeskLaw" (98 : Nat) ({ cls := "PakeDeskModel", name := "key", desc := "(I)J" } : Jvm.MethodName)) ∈ gt_tbl := gt_m (List.mem_append_right _ (List.mem_append_right _ (List.mem_append_right _ (List.mem_append_right _ (List.mem_of_getElem? (i := 144) (by decide +kernel)))))) (by decide)
theorem ww_865 : (Jvm.Cond.instanceMethod ({ cls := "PakeDeskModel", name := "key", desc := "(I)J" } : Jvm.MethodName)) ∈ gt_tbl := gt_m (List.mem_append_right _ (List.mem_append_right _ (List.mem_append_right _ (List.mem_append_right _ (List.mem_of_getElem? (i := 145) (by decide +kernel)))))) (by decide)
theorem ww_866 : (Jvm.Cond.selects "PakeDeskModel" ({ cls := "PakeDeskModel", name := "key", desc := "(I)J" } : Jvm.MethodName) ({ cls := "PakeDeskModel", name := "key", desc := "(I)J" } : Jvm.MethodName)) ∈ gt_tbl := gt_m (List.mem_append_right _ (List.mem_append_right _ (List.mem_append_right _ (List.mem_append_right _ (List.mem_of_getElem? (i := 146) (by decide +kernel)))))) (by decide)
theorem ww_867 : (Jvm.Cond.code ({ cls := "PakeDeskModel", name := "key", desc := "(I)J" } : Jvm.MethodName) prog_9_method_35_code (2 : Nat) (Option.some Jvm.ClassFile.FieldType.long)) ∈ gt_tbl := gt_m (List.mem_append_right _ (List.mem_append_right _ (List.mem_append_right _ (List.mem_append_right _ (List.mem_of_getElem? (i := 147) (by decide +kernel)))))) (by decide)
theorem ww_876 : (Jvm.Cond.methodLink "PakeDeskLaw" (109 : Nat) ({ cls := "PakeDeskModel", name := "tick", desc := "(I)I" } : Jvm.MethodName)) ∈ gt_tbl := gt_m (List.mem_append_right _ (List.mem_append_right _ (List.mem_append_right _ (List.mem_append_right _ (List.mem_of_getElem? (i := 156) (by decide +kernel)))))) (by decide)
theorem ww_877 : (Jvm.Cond.instanceMethod ({ cls := "PakeDeskModel", name := "tick", desc := "(I)I" } : Jvm.MethodName)) ∈ gt_tbl := gt_m (List.mem_append_right _ (List.mem_append_right _ (List.mem_append_right _ (List.mem_append_right _ (List.mem_of_getElem? (i := 157) (by decide +kernel)))))) (by decide)
theorem ww_878 : (Jvm.Cond.selects "PakeDeskModel" ({ cls := "PakeDeskModel", name := "tick", desc := "(I)I" } : Jvm.MethodName) ({ cls := "PakeDeskModel", name := "tick", desc := "(I)I" } : Jvm.MethodName)) ∈ gt_tbl := gt_m (List.mem_append_right _ (List.mem_append_right _ (List.mem_append_right _ (List.mem_append_right _ (List.mem_of_getElem? (i := 158) (by decide +kernel)))))) (by decide)
theorem ww_879 : (Jvm.Cond.code ({ cls := "PakeDeskModel", name := "tick", desc := "(I)I" } : Jvm.MethodName) prog_9_method_38_code (2 : Nat) (Option.some Jvm.ClassFile.FieldType.int)) ∈ gt_tbl := gt_m (List.mem_append_right _ (List.mem_append_right _ (List.mem_append_right _ (List.mem_append_right _ (List.mem_of_getElem? (i := 159) (by decide +kernel)))))) (by decide)
theorem cy_M_tick : tb_C my_M_tick mb_M_tick 2 (some .int) 1 := ⟨ww_879, ww_3, by decide, by decide, by decide +kernel⟩
theorem cy_M_thrown : tb_C my_M_thrown mb_M_thrown 1 (some .int) 0 := ⟨ww_722, ww_3, by decide, by decide, by decide +kernel⟩
theorem cy_M_key : tb_C my_M_key mb_M_key 2 (some .long) 1 := ⟨ww_867, ww_3, by decide, by decide, by decide +kernel⟩
theorem cy_M_client : tb_C my_M_client mb_M_client 10 (some .int) 4 := ⟨ww_790, ww_3, by decide, by decide, by decide +kernel⟩
theorem cy_M_server : tb_C my_M_server mb_M_server 7 (some .int) 3 := ⟨ww_799, ww_3, by decide, by decide, by decide +kernel⟩
section LQ
variable {p : Program} {l : Launch} {e : Env} {s : State} {m : MethodId} {below : List Frame} {meth : Method} {c : Code} {b : Nat} {L : Nat} {xs : Nat → Int32} {G : va_G} {ct : Nat → ClassId} {A : Nat → Prop} {hd : Nat} {us : Nat} {op : Nat} {hm : Nat} {qo : Nat} {qa : Nat → Nat} {fu : Nat → Option Nat} {au : Nat → Nat} {ns : Int32} {iv cells slots : Nat} {Q : State → Prop} {H : Heap} {locs : List Loc} {ls : Array Slot} {n : Nat} {ck : Int32} {th : Int32} {hh : Int64} {a1 : Nat → Int32} {a2 : Nat → Int64} {a3 : Nat → Int64} {a4 : Nat → Int64} {a5 : Nat → Int32} {a6 : Nat → Int32} {a7 : Nat → Int32} {a8 : Nat → Int32} {a9 : Nat → Int32} {b0 : Nat → Int32} {b1 : Nat → Int32} {b2 : Nat → Int32} {b3 : Nat → Int32} {b4 : Nat → Int64} {b5 : Nat → Int64} {b6 : Nat → Int64} {b7 : Nat → Int64} {b8 : Nat → Int64} {b9 : Nat → Int64} {b10 : Nat → Int64} {og : Nat → Int64} {fo : Nat → Option Nat} {ad : Nat → Nat} {eu : Nat → va_E} {es : Nat → va_E}
set_option maxHeartbeats 4000000 in
set_option maxRecDepth 100000 in
theorem lq_tick1  (C0 : lc_C p l s m meth c b L xs G ct A) (hiv : iv + 7 ≤ L) (hcc : cells + 1 ≤ room_1.cells) (hzz : slots + 13 ≤ room_1.slots)
    (hP : va_P G classes (lw_W ct hd us op hm qo qa fu au ns n ck n ck th hh a1 a2 a3 a4 a5 a6 a7 a8 a9 b0 b1 b2 b3 b4 b5 b6 b7 b8 b9 b10 og fo ad eu es) H) (hD : va_D A (lw_W ct hd us op hm qo qa fu au ns n ck n ck th hh a1 a2 a3 a4 a5 a6 a7 a8 a9 b0 b1 b2 b3 b4 b5 b6 b7 b8 b9 b10 og fo ad eu es)) (hS : va_S A s.heap H locs) (hl : lv_has ls 8 [(4, .int (nI iv)), (3, .ref qo), (2, .ref hm), (1, .ref hd), (0, .ref b)])
    (kk : lc_K p l e s m below meth c b L xs G ct A hd us op hm qo qa fu au ns iv (cells + 1) (slots + 13) Q)
     (d_ht0 : 0 ≤ (xs (iv + 1))) (d_ht1 : (xs (iv + 1)) ≤ 100) (m_ht0 : 0 ≤ (xs (iv + 1))) (m_ht1 : (xs (iv + 1)) ≤ 100)  (hnew : li_R fu au ns n a1 a2 a3 a4 a5 a6 a7 a8 a9 b0 b1 b2 b3 b4 b5 b6 b7 b8 b9 b10 fo ad eu es)  : W p l e room_1 s m #[Value.ref b] below meth c H locs cells slots Q (F0 m 936 ls []) := by
  obtain ⟨hx, hb, hr, hml, hown, hw, hK, hZ, hR, hN, hfl, hA, hbA, hX, hbl, hL, hlocks⟩ := C0
  have hts := hw
  have hP : va_P G classes (lw_W ct hd us op hm qo qa fu au ns n ck n ck th hh a1 a2 a3 a4 a5 a6 a7 a8 a9 b0 b1 b2 b3 b4 b5 b6 b7 b8 b9 b10 og fo ad eu es) H := hP
  have hD : va_D A (lw_W ct hd us op hm qo qa fu au ns n ck n ck th hh a1 a2 a3 a4 a5 a6 a7 a8 a9 b0 b1 b2 b3 b4 b5 b6 b7 b8 b9 b10 og fo ad eu es) := hD
  refine lv_aload_n hx hb d_L_law_936 rfl (lv_at hl 3 rfl) ?_
  refine lv_aload_n hx hb d_L_law_937 rfl (lv_at hl 4 rfl) ?_
  refine lv_iload hx hb d_L_law_938 (lv_at hl 0 rfl) ?_
  refine lv_iconst (v := 1) hx hb d_L_law_940 (by decide) ?_
  refine lv_iadd hx hb d_L_law_941 ?_
  refine sl_ld (j := iv) (d := 1) hx hb hX hbl hbA hS hL (by omega) d_L_law_942 ?_
  refine lv_aload_n hx hb d_L_law_943 rfl (lv_at hl 1 rfl) ?_
  have hC9 : List.map (fun i => ((lw_W ct hd us op hm qo qa fu au ns n ck n ck th hh a1 a2 a3 a4 a5 a6 a7 a8 a9 b0 b1 b2 b3 b4 b5 b6 b7 b8 b9 b10 og fo ad eu es) : va_W)[i]?) [22, 21] = List.map some ([(hd, .inr (0, [.ref us, .ref op, .int (nI n), .int ck])), (qo, .inl ((ct 1), 1, .inr (.inl og)))] : va_W) := (wc_c rfl (wc_c rfl rfl))
  have hn9 : va_nd [22, 21] = true := by decide
  have hPc : va_P G classes [(hd, .inr (0, [.ref us, .ref op, .int (nI n), .int ck])), (qo, .inl ((ct 1), 1, .inr (.inl og)))] H := lp_sub hP [22, 21] hC9
  have hDc := hD.sub (ws' := [(hd, .inr (0, [.ref us, .ref op, .int (nI n), .int ck])), (qo, .inl ((ct 1), 1, .inr (.inl og)))]) [22, 21] hn9 hC9
  have hW9 : wk_sets ((lw_W ct hd us op hm qo qa fu au ns n ck n ck th hh a1 a2 a3 a4 a5 a6 a7 a8 a9 b0 b1 b2 b3 b4 b5 b6 b7 b8 b9 b10 og fo ad eu es) : va_W) [22, 21] ([(hd, .inr (0, [.ref us, .ref op, .int (nI n), .int (ck + (xs (iv + 1)))])), (qo, .inl ((ct 1), 1, .inr (.inl (vp_updL og 0 ((ck + (xs (iv + 1))).toInt64)))))] : va_W) = ((lw_W ct hd us op hm qo qa fu au ns n (ck + (xs (iv + 1))) n ck th hh a1 a2 a3 a4 a5 a6 a7 a8 a9 b0 b1 b2 b3 b4 b5 b6 b7 b8 b9 b10 (vp_updL og 0 ((ck + (xs (iv + 1))).toInt64)) fo ad eu es) : va_W) := (ws_c (ws' := ([(hm, .inr (4, [.int th, .long ns.toInt64, .int ck, .long hh, .ref (qa 1), .ref (qa 2), .ref (qa 3), .ref (qa 4), .ref (qa 5), .ref (qa 6), .ref (qa 7), .ref (qa 8), .int (nI n), .ref (qa 9), .ref (qa 10), .ref (qa 11), .ref (qa 12), .ref (qa 13), .ref (qa 14), .ref (qa 15), .ref (qa 16), .ref (qa 17), .ref (qa 18), .ref (qa 19), .ref (qa 20)])), ((qa 1), .inl ((ct 0), 8, .inl a1)), ((qa 2), .inl ((ct 1), 8, .inr (.inl a2))), ((qa 3), .inl ((ct 1), 8, .inr (.inl a3))), ((qa 4), .inl ((ct 1), 8, .inr (.inl a4))), ((qa 5), .inl ((ct 0), 8, .inl a5)), ((qa 6), .inl ((ct 0), 8, .inl a6)), ((qa 7), .inl ((ct 0), 8, .inl a7)), ((qa 8), .inl ((ct 0), 8, .inl a8)), ((qa 9), .inl ((ct 2), 40, .inl a9)), ((qa 10), .inl ((ct 0), 40, .inl b0)), ((qa 11), .inl ((ct 0), 40, .inl b1)), ((qa 12), .inl ((ct 0), 40, .inl b2)), ((qa 13), .inl ((ct 0), 40, .inl b3)), ((qa 14), .inl ((ct 1), 40, .inr (.inl b4))), ((qa 15), .inl ((ct 1), 40, .inr (.inl b5))), ((qa 16), .inl ((ct 1), 40, .inr (.inl b6))), ((qa 17), .inl ((ct 1), 40, .inr (.inl b7))), ((qa 18), .inl ((ct 1), 40, .inr (.inl b8))), ((qa 19), .inl ((ct 1), 40, .inr (.inl b9))), ((qa 20), .inl ((ct 1), 40, .inr (.inl b10))), (qo, .inl ((ct 1), 1, .inr (.inl og))), (hd, .inr (0, [.ref us, .ref op, .int (nI n), .int (ck + (xs (iv + 1)))])), (us, .inl ((ct 3), 8, .inr (.inr (.inr (.inr fu))))), (op, .inl ((ct 4), 40, .inr (.inr (.inr (.inr fo)))))] ++ (ix_w 8 au eu ++ ix_w n ad es))) rfl (ws_c (ws' := ([(hm, .inr (4, [.int th, .long ns.toInt64, .int ck, .long hh, .ref (qa 1), .ref (qa 2), .ref (qa 3), .ref (qa 4), .ref (qa 5), .ref (qa 6), .ref (qa 7), .ref (qa 8), .int (nI n), .ref (qa 9), .ref (qa 10), .ref (qa 11), .ref (qa 12), .ref (qa 13), .ref (qa 14), .ref (qa 15), .ref (qa 16), .ref (qa 17), .ref (qa 18), .ref (qa 19), .ref (qa 20)])), ((qa 1), .inl ((ct 0), 8, .inl a1)), ((qa 2), .inl ((ct 1), 8, .inr (.inl a2))), ((qa 3), .inl ((ct 1), 8, .inr (.inl a3))), ((qa 4), .inl ((ct 1), 8, .inr (.inl a4))), ((qa 5), .inl ((ct 0), 8, .inl a5)), ((qa 6), .inl ((ct 0), 8, .inl a6)), ((qa 7), .inl ((ct 0), 8, .inl a7)), ((qa 8), .inl ((ct 0), 8, .inl a8)), ((qa 9), .inl ((ct 2), 40, .inl a9)), ((qa 10), .inl ((ct 0), 40, .inl b0)), ((qa 11), .inl ((ct 0), 40, .inl b1)), ((qa 12), .inl ((ct 0), 40, .inl b2)), ((qa 13), .inl ((ct 0), 40, .inl b3)), ((qa 14), .inl ((ct 1), 40, .inr (.inl b4))), ((qa 15), .inl ((ct 1), 40, .inr (.inl b5))), ((qa 16), .inl ((ct 1), 40, .inr (.inl b6))), ((qa 17), .inl ((ct 1), 40, .inr (.inl b7))), ((qa 18), .inl ((ct 1), 40, .inr (.inl b8))), ((qa 19), .inl ((ct 1), 40, .inr (.inl b9))), ((qa 20), .inl ((ct 1), 40, .inr (.inl b10))), (qo, .inl ((ct 1), 1, .inr (.inl (vp_updL og 0 ((ck + (xs (iv + 1))).toInt64))))), (hd, .inr (0, [.ref us, .ref op, .int (nI n), .int (ck + (xs (iv + 1)))])), (us, .inl ((ct 3), 8, .inr (.inr (.inr (.inr fu))))), (op, .inl ((ct 4), 40, .inr (.inr (.inr (.inr fo)))))] ++ (ix_w 8 au eu ++ ix_w n ad es))) rfl rfl))
  refine wk_i (sh_run (As := [.ref hd, .int (xs (iv + 1)), .ref qo]) (rest := []) (hs := [(0, 9, 12, 13)]) ⟨hx, hb, hml, hown, hts⟩ (c_L_tick1 l G ct H.size hd us op n ck (xs (iv + 1)) qo og d_ht0 d_ht1) wk_ret ⟨hw, ww_628, ww_0, ⟨by decide, by decide⟩, np_L_tick, ww_626, ww_627, rfl, rfl, Nat.le_of_ble_eq_true rfl, Nat.le_of_ble_eq_true rfl⟩ (wk_pre hPc hK hDc) rfl hl.1 rfl (lv_room (Nat.le_of_ble_eq_true rfl)) d_L_law_944 ⟨by omega, by omega⟩) hP hD hS hA [22, 21] hn9 hC9 (fun _ => by simp only [List.map_cons, List.map_nil]) (fun _ H locs _ hP hD hS => ?_)
  have hP : va_P G classes (lw_W ct hd us op hm qo qa fu au ns n (ck + (xs (iv + 1))) n ck th hh a1 a2 a3 a4 a5 a6 a7 a8 a9 b0 b1 b2 b3 b4 b5 b6 b7 b8 b9 b10 (vp_updL og 0 ((ck + (xs (iv + 1))).toInt64)) fo ad eu es) H := lp_P hW9 hP
  have hD : va_D A (lw_W ct hd us op hm qo qa fu au ns n (ck + (xs (iv + 1))) n ck th hh a1 a2 a3 a4 a5 a6 a7 a8 a9 b0 b1 b2 b3 b4 b5 b6 b7 b8 b9 b10 (vp_updL og 0 ((ck + (xs (iv + 1))).toInt64)) fo ad eu es) := lp_D hW9 hD
  refine lv_istore (lv' := [(5, .int 0), (4, .int (nI iv)), (3, .ref qo), (2, .ref hm), (1, .ref hd), (0, .ref b)]) hx hb d_L_law_947 hl (Nat.le_of_ble_eq_true rfl) rfl (fun ls hl => ?_)
  refine lv_aload_n hx hb d_L_law_949 rfl (lv_at hl 3 rfl) ?_
  refine lv_aload_n hx hb d_L_law_950 rfl (lv_at hl 5 rfl) ?_
  refine lv_iload hx hb d_L_law_951 (lv_at hl 1 rfl) ?_
  refine lv_iconst (v := 1) hx hb d_L_law_953 (by decide) ?_
  refine lv_iadd hx hb d_L_law_954 ?_
  refine sl_ld (j := iv) (d := 1) hx hb hX hbl hbA hS hL (by omega) d_L_law_955 ?_
  have hPc : va_P G classes [(hm, .inr (4, [.int th, .long ns.toInt64, .int ck, .long hh, .ref (qa 1), .ref (qa 2), .ref (qa 3), .ref (qa 4), .ref (qa 5), .ref (qa 6), .ref (qa 7), .ref (qa 8), .int (nI n), .ref (qa 9), .ref (qa 10), .ref (qa 11), .ref (qa 12), .ref (qa 13), .ref (qa 14), .ref (qa 15), .ref (qa 16), .ref (qa 17), .ref (qa 18), .ref (qa 19), .ref (qa 20)]))] H := hP.sub [0] rfl
  have hDc := hD.sub (ws' := [(hm, .inr (4, [.int th, .long ns.toInt64, .int ck, .long hh, .ref (qa 1), .ref (qa 2), .ref (qa 3), .ref (qa 4), .ref (qa 5), .ref (qa 6), .ref (qa 7), .ref (qa 8), .int (nI n), .ref (qa 9), .ref (qa 10), .ref (qa 11), .ref (qa 12), .ref (qa 13), .ref (qa 14), .ref (qa 15), .ref (qa 16), .ref (qa 17), .ref (qa 18), .ref (qa 19), .ref (qa 20)]))]) [0] (by decide) rfl
  refine wk_i (va_runV (As := [.int (xs (iv + 1))]) (rest := []) ⟨hx, hb, hml, hown, hts⟩ (c_M_tick1 l G ct H.size hm th ns.toInt64 ck hh (qa 1) (qa 2) (qa 3) (qa 4) (qa 5) (qa 6) (qa 7) (qa 8) (qa 9) (qa 10) (qa 11) (qa 12) (qa 13) (qa 14) (qa 15) (qa 16) (qa 17) (qa 18) (qa 19) (qa 20) n (xs (iv + 1)) m_ht0 m_ht1) (tb_V hw cy_M_tick ww_876 ww_877 ww_878 rfl rfl ⟨Nat.le_of_ble_eq_true rfl, Nat.le_of_ble_eq_true rfl⟩) (wk_preV (ci := 4) (q0 := 0) hPc hK hDc rfl rfl) rfl rfl hl.1 rfl (lv_room (Nat.le_of_ble_eq_true rfl)) d_L_law_956 ⟨by omega, by omega⟩) hP hD hS hA [0] (by decide) rfl (fun _ => by simp only [List.map_cons, List.map_nil]) (fun _ H locs ok1053 hP hD hS => ?_)
  have hP : va_P G classes (lw_W ct hd us op hm qo qa fu au ns n (ck + (xs (iv + 1))) n (ck + (xs (iv + 1))) 0 hh a1 a2 a3 a4 a5 a6 a7 a8 a9 b0 b1 b2 b3 b4 b5 b6 b7 b8 b9 b10 (vp_updL og 0 ((ck + (xs (iv + 1))).toInt64)) fo ad eu es) H := hP
  have hD : va_D A (lw_W ct hd us op hm qo qa fu au ns n (ck + (xs (iv + 1))) n (ck + (xs (iv + 1))) 0 hh a1 a2 a3 a4 a5 a6 a7 a8 a9 b0 b1 b2 b3 b4 b5 b6 b7 b8 b9 b10 (vp_updL og 0 ((ck + (xs (iv + 1))).toInt64)) fo ad eu es) := hD
  refine lv_istore (lv' := [(6, .int (ck + (xs (iv + 1)))), (5, .int 0), (4, .int (nI iv)), (3, .ref qo), (2, .ref hm), (1, .ref hd), (0, .ref b)]) hx hb d_L_law_959 hl (Nat.le_of_ble_eq_true rfl) rfl (fun ls hl => ?_)
  refine lv_aload_n hx hb d_L_law_961 rfl (lv_at hl 4 rfl) ?_
  have hPc : va_P G classes [(hm, .inr (4, [.int 0, .long ns.toInt64, .int (ck + (xs (iv + 1))), .long hh, .ref (qa 1), .ref (qa 2), .ref (qa 3), .ref (qa 4), .ref (qa 5), .ref (qa 6), .ref (qa 7), .ref (qa 8), .int (nI n), .ref (qa 9), .ref (qa 10), .ref (qa 11), .ref (qa 12), .ref (qa 13), .ref (qa 14), .ref (qa 15), .ref (qa 16), .ref (qa 17), .ref (qa 18), .ref (qa 19), .ref (qa 20)]))] H := hP.sub [0] rfl
  have hDc := hD.sub (ws' := [(hm, .inr (4, [.int 0, .long ns.toInt64, .int (ck + (xs (iv + 1))), .long hh, .ref (qa 1), .ref (qa 2), .ref (qa 3), .ref (qa 4), .ref (qa 5), .ref (qa 6), .ref (qa 7), .ref (qa 8), .int (nI n), .ref (qa 9), .ref (qa 10), .ref (qa 11), .ref (qa 12), .ref (qa 13), .ref (qa 14), .ref (qa 15), .ref (qa 16), .ref (qa 17), .ref (qa 18), .ref (qa 19), .ref (qa 20)]))]) [0] (by decide) rfl
  refine vp_callSi (W.runV (As := []) (rest := []) ⟨hx, hb, hml, hown, hts⟩ (c_M_thrown l G ct H.size hm 0 ns.toInt64 (ck + (xs (iv + 1))) hh (qa 1) (qa 2) (qa 3) (qa 4) (qa 5) (qa 6) (qa 7) (qa 8) (qa 9) (qa 10) (qa 11) (qa 12) (qa 13) (qa 14) (qa 15) (qa 16) (qa 17) (qa 18) (qa 19) (qa 20) n) (tb_V hw cy_M_thrown ww_719 ww_720 ww_721 rfl rfl ⟨Nat.le_of_ble_eq_true rfl, Nat.le_of_ble_eq_true rfl⟩) (wk_preV (ci := 4) (q0 := 0) hPc hK hDc rfl rfl) rfl rfl hl.1 rfl (lv_room (Nat.le_of_ble_eq_true rfl)) d_L_law_962 ⟨by omega, by omega⟩) (fun r1054 er1054 => ?_)
  subst er1054
  refine lv_iload hx hb d_L_law_965 (lv_at hl 1 rfl) ?_
  refine lv_icmp_eq (tgt := 972) hx hb d_L_law_967 (by decide) (fun h1055 => ?_) (fun h1055 => ?_)
  · refine lv_iload hx hb d_L_law_972 (lv_at hl 1 rfl) ?_
    refine lv_if_ne (tgt := 989) hx hb d_L_law_974 (by decide) (fun h1056 => ?_) (fun h1056 => ?_)
    · exact absurd h1056 (by decide)
    · refine lv_aload_n hx hb d_L_law_977 rfl (lv_at hl 3 rfl) ?_
      refine lv_iconst (v := 0) hx hb d_L_law_978 (by decide) ?_
      refine ra_ll hx hb hK.1 hP 21 1 rfl rfl (k := 0) (by omega) (by decide) d_L_law_979 ?_
      refine tp_l (ul_se _ _ _) ?_
      refine lv_iload hx hb d_L_law_980 (lv_at hl 0 rfl) ?_
      refine lv_i2l (v := (ck + (xs (iv + 1))).toInt64) hx hb d_L_law_982 rfl ?_
      refine W.lcmp hx hb d_L_law_983 ?_
      refine lv_if_eq (tgt := 989) hx hb d_L_law_984 (by decide) (fun h1057 => ?_) (fun h1057 => ?_)
      · have h1057 := (lg_cmp_eq _ _).mp h1057
        refine lv_goto (tgt := 1005) hx hb d_L_law_989 (by decide) ?_
        refine W.widen (k := cells + 1) (n := slots + 13) (by omega) (by omega) ?_
        exact kk n (ck + (xs (iv + 1))) 0 hh a1 a2 a3 a4 a5 a6 a7 a8 a9 b0 b1 b2 b3 b4 b5 b6 b7 b8 b9 b10 (vp_updL og 0 ((ck + (xs (iv + 1))).toInt64)) fo ad eu es H locs _ hnew hP hD hS (lv_sub hl [2, 3, 4, 5, 6] rfl)
      · have h1057 := fun q => h1057 ((lg_cmp_eq _ _).mpr q)
        exact absurd rfl h1057
  · exact absurd h1055 (by decide)
set_option maxHeartbeats 4000000 in
set_option maxRecDepth 100000 in
theorem lq_tick0  (C0 : lc_C p l s m meth c b L xs G ct A) (hiv : iv + 7 ≤ L) (hcc : cells + 1 ≤ room_1.cells) (hzz : slots + 13 ≤ room_1.slots)
    (hP : va_P G classes (lw_W ct hd us op hm qo qa fu au ns n ck n ck th hh a1 a2 a3 a4 a5 a6 a7 a8 a9 b0 b1 b2 b3 b4 b5 b6 b7 b8 b9 b10 og fo ad eu es) H) (hD : va_D A (lw_W ct hd us op hm qo qa fu au ns n ck n ck th hh a1 a2 a3 a4 a5 a6 a7 a8 a9 b0 b1 b2 b3 b4 b5 b6 b7 b8 b9 b10 og fo ad eu es)) (hS : va_S A s.heap H locs) (hl : lv_has ls 8 [(4, .int (nI iv)), (3, .ref qo), (2, .ref hm), (1, .ref hd), (0, .ref b)])
    (kk : lc_K p l e s m below meth c b L xs G ct A hd us op hm qo qa fu au ns iv (cells + 1) (slots + 13) Q)
     (d_hno : ¬ (0 ≤ (xs (iv + 1)) ∧ (xs (iv + 1)) ≤ 100)) (m_hno : ¬ (0 ≤ (xs (iv + 1)) ∧ (xs (iv + 1)) ≤ 100))  (hnew : li_R fu au ns n a1 a2 a3 a4 a5 a6 a7 a8 a9 b0 b1 b2 b3 b4 b5 b6 b7 b8 b9 b10 fo ad eu es)  : W p l e room_1 s m #[Value.ref b] below meth c H locs cells slots Q (F0 m 936 ls []) := by
  obtain ⟨hx, hb, hr, hml, hown, hw, hK, hZ, hR, hN, hfl, hA, hbA, hX, hbl, hL, hlocks⟩ := C0
  have hts := hw
  have hP : va_P G classes (lw_W ct hd us op hm qo qa fu au ns n ck n ck th hh a1 a2 a3 a4 a5 a6 a7 a8 a9 b0 b1 b2 b3 b4 b5 b6 b7 b8 b9 b10 og fo ad eu es) H := hP
  have hD : va_D A (lw_W ct hd us op hm qo qa fu au ns n ck n ck th hh a1 a2 a3 a4 a5 a6 a7 a8 a9 b0 b1 b2 b3 b4 b5 b6 b7 b8 b9 b10 og fo ad eu es) := hD
  refine lv_aload_n hx hb d_L_law_936 rfl (lv_at hl 3 rfl) ?_
  refine lv_aload_n hx hb d_L_law_937 rfl (lv_at hl 4 rfl) ?_
  refine lv_iload hx hb d_L_law_938 (lv_at hl 0 rfl) ?_
  refine lv_iconst (v := 1) hx hb d_L_law_940 (by decide) ?_
  refine lv_iadd hx hb d_L_law_941 ?_
  refine sl_ld (j := iv) (d := 1) hx hb hX hbl hbA hS hL (by omega) d_L_law_942 ?_
  refine lv_aload_n hx hb d_L_law_943 rfl (lv_at hl 1 rfl) ?_
  have hC9 : List.map (fun i => ((lw_W ct hd us op hm qo qa fu au ns n ck n ck th hh a1 a2 a3 a4 a5 a6 a7 a8 a9 b0 b1 b2 b3 b4 b5 b6 b7 b8 b9 b10 og fo ad eu es) : va_W)[i]?) [22, 21] = List.map some ([(hd, .inr (0, [.ref us, .ref op, .int (nI n), .int ck])), (qo, .inl ((ct 1), 1, .inr (.inl og)))] : va_W) := (wc_c rfl (wc_c rfl rfl))
  have hn9 : va_nd [22, 21] = true := by decide
  have hPc : va_P G classes [(hd, .inr (0, [.ref us, .ref op, .int (nI n), .int ck])), (qo, .inl ((ct 1), 1, .inr (.inl og)))] H := lp_sub hP [22, 21] hC9
  have hDc := hD.sub (ws' := [(hd, .inr (0, [.ref us, .ref op, .int (nI n), .int ck])), (qo, .inl ((ct 1), 1, .inr (.inl og)))]) [22, 21] hn9 hC9
  have hW9 : wk_sets ((lw_W ct hd us op hm qo qa fu au ns n ck n ck th hh a1 a2 a3 a4 a5 a6 a7 a8 a9 b0 b1 b2 b3 b4 b5 b6 b7 b8 b9 b10 og fo ad eu es) : va_W) [22, 21] ([(hd, .inr (0, [.ref us, .ref op, .int (nI n), .int ck])), (qo, .inl ((ct 1), 1, .inr (.inl og)))] : va_W) = ((lw_W ct hd us op hm qo qa fu au ns n ck n ck th hh a1 a2 a3 a4 a5 a6 a7 a8 a9 b0 b1 b2 b3 b4 b5 b6 b7 b8 b9 b10 og fo ad eu es) : va_W) := (ws_k rfl (ws_k rfl rfl))
  refine wk_i (sh_run (As := [.ref hd, .int (xs (iv + 1)), .ref qo]) (rest := []) (hs := [(0, 9, 12, 13)]) ⟨hx, hb, hml, hown, hts⟩ (c_L_tick0 l hfl G ct H.size hd us op n ck (xs (iv + 1)) qo og d_hno) wk_ret ⟨hw, ww_628, ww_0, ⟨by decide, by decide⟩, np_L_tick, ww_626, ww_627, rfl, rfl, Nat.le_of_ble_eq_true rfl, Nat.le_of_ble_eq_true rfl⟩ (wk_pre5 hPc hK hDc hD hS hA [22, 21] hC9 hZ hR hN) rfl hl.1 rfl (lv_room (Nat.le_of_ble_eq_true rfl)) d_L_law_944 ⟨by omega, by omega⟩) hP hD hS hA [22, 21] hn9 hC9 (fun _ => by simp only [List.map_cons, List.map_nil]) (fun _ H locs _ hP hD hS => ?_)
  have hP : va_P G classes (lw_W ct hd us op hm qo qa fu au ns n ck n ck th hh a1 a2 a3 a4 a5 a6 a7 a8 a9 b0 b1 b2 b3 b4 b5 b6 b7 b8 b9 b10 og fo ad eu es) H := lp_P hW9 hP
  have hD : va_D A (lw_W ct hd us op hm qo qa fu au ns n ck n ck th hh a1 a2 a3 a4 a5 a6 a7 a8 a9 b0 b1 b2 b3 b4 b5 b6 b7 b8 b9 b10 og fo ad eu es) := lp_D hW9 hD
  refine lv_istore (lv' := [(5, .int 1), (4, .int (nI iv)), (3, .ref qo), (2, .ref hm), (1, .ref hd), (0, .ref b)]) hx hb d_L_law_947 hl (Nat.le_of_ble_eq_true rfl) rfl (fun ls hl => ?_)
  refine lv_aload_n hx hb d_L_law_949 rfl (lv_at hl 3 rfl) ?_
  refine lv_aload_n hx hb d_L_law_950 rfl (lv_at hl 5 rfl) ?_
  refine lv_iload hx hb d_L_law_951 (lv_at hl 1 rfl) ?_
  refine lv_iconst (v := 1) hx hb d_L_law_953 (by decide) ?_
  refine lv_iadd hx hb d_L_law_954 ?_
  refine sl_ld (j := iv) (d := 1) hx hb hX hbl hbA hS hL (by omega) d_L_law_955 ?_
  have hPc : va_P G classes [(hm, .inr (4, [.int th, .long ns.toInt64, .int ck, .long hh, .ref (qa 1), .ref (qa 2), .ref (qa 3), .ref (qa 4), .ref (qa 5), .ref (qa 6), .ref (qa 7), .ref (qa 8), .int (nI n), .ref (qa 9), .ref (qa 10), .ref (qa 11), .ref (qa 12), .ref (qa 13), .ref (qa 14), .ref (qa 15), .ref (qa 16), .ref (qa 17), .ref (qa 18), .ref (qa 19), .ref (qa 20)]))] H := hP.sub [0] rfl
  have hDc := hD.sub (ws' := [(hm, .inr (4, [.int th, .long ns.toInt64, .int ck, .long hh, .ref (qa 1), .ref (qa 2), .ref (qa 3), .ref (qa 4), .ref (qa 5), .ref (qa 6), .ref (qa 7), .ref (qa 8), .int (nI n), .ref (qa 9), .ref (qa 10), .ref (qa 11), .ref (qa 12), .ref (qa 13), .ref (qa 14), .ref (qa 15), .ref (qa 16), .ref (qa 17), .ref (qa 18), .ref (qa 19), .ref (qa 20)]))]) [0] (by decide) rfl
  refine wk_i (va_runV (As := [.int (xs (iv + 1))]) (rest := []) ⟨hx, hb, hml, hown, hts⟩ (c_M_tick0 l G ct H.size hm th ns.toInt64 ck hh (qa 1) (qa 2) (qa 3) (qa 4) (qa 5) (qa 6) (qa 7) (qa 8) (qa 9) (qa 10) (qa 11) (qa 12) (qa 13) (qa 14) (qa 15) (qa 16) (qa 17) (qa 18) (qa 19) (qa 20) n (xs (iv + 1)) m_hno) (tb_V hw cy_M_tick ww_876 ww_877 ww_878 rfl rfl ⟨Nat.le_of_ble_eq_true rfl, Nat.le_of_ble_eq_true rfl⟩) (wk_preV (ci := 4) (q0 := 0) hPc hK hDc rfl rfl) rfl rfl hl.1 rfl (lv_room (Nat.le_of_ble_eq_true rfl)) d_L_law_956 ⟨by omega, by omega⟩) hP hD hS hA [0] (by decide) rfl (fun _ => by simp only [List.map_cons, List.map_nil]) (fun _ H locs ok1058 hP hD hS => ?_)
  have hP : va_P G classes (lw_W ct hd us op hm qo qa fu au ns n ck n ck 1 hh a1 a2 a3 a4 a5 a6 a7 a8 a9 b0 b1 b2 b3 b4 b5 b6 b7 b8 b9 b10 og fo ad eu es) H := hP
  have hD : va_D A (lw_W ct hd us op hm qo qa fu au ns n ck n ck 1 hh a1 a2 a3 a4 a5 a6 a7 a8 a9 b0 b1 b2 b3 b4 b5 b6 b7 b8 b9 b10 og fo ad eu es) := hD
  refine lv_istore (lv' := [(6, .int 0), (5, .int 1), (4, .int (nI iv)), (3, .ref qo), (2, .ref hm), (1, .ref hd), (0, .ref b)]) hx hb d_L_law_959 hl (Nat.le_of_ble_eq_true rfl) rfl (fun ls hl => ?_)
  refine lv_aload_n hx hb d_L_law_961 rfl (lv_at hl 4 rfl) ?_
  have hPc : va_P G classes [(hm, .inr (4, [.int 1, .long ns.toInt64, .int ck, .long hh, .ref (qa 1), .ref (qa 2), .ref (qa 3), .ref (qa 4), .ref (qa 5), .ref (qa 6), .ref (qa 7), .ref (qa 8), .int (nI n), .ref (qa 9), .ref (qa 10), .ref (qa 11), .ref (qa 12), .ref (qa 13), .ref (qa 14), .ref (qa 15), .ref (qa 16), .ref (qa 17), .ref (qa 18), .ref (qa 19), .ref (qa 20)]))] H := hP.sub [0] rfl
  have hDc := hD.sub (ws' := [(hm, .inr (4, [.int 1, .long ns.toInt64, .int ck, .long hh, .ref (qa 1), .ref (qa 2), .ref (qa 3), .ref (qa 4), .ref (qa 5), .ref (qa 6), .ref (qa 7), .ref (qa 8), .int (nI n), .ref (qa 9), .ref (qa 10), .ref (qa 11), .ref (qa 12), .ref (qa 13), .ref (qa 14), .ref (qa 15), .ref (qa 16), .ref (qa 17), .ref (qa 18), .ref (qa 19), .ref (qa 20)]))]) [0] (by decide) rfl
  refine vp_callSi (W.runV (As := []) (rest := []) ⟨hx, hb, hml, hown, hts⟩ (c_M_thrown l G ct H.size hm 1 ns.toInt64 ck hh (qa 1) (qa 2) (qa 3) (qa 4) (qa 5) (qa 6) (qa 7) (qa 8) (qa 9) (qa 10) (qa 11) (qa 12) (qa 13) (qa 14) (qa 15) (qa 16) (qa 17) (qa 18) (qa 19) (qa 20) n) (tb_V hw cy_M_thrown ww_719 ww_720 ww_721 rfl rfl ⟨Nat.le_of_ble_eq_true rfl, Nat.le_of_ble_eq_true rfl⟩) (wk_preV (ci := 4) (q0 := 0) hPc hK hDc rfl rfl) rfl rfl hl.1 rfl (lv_room (Nat.le_of_ble_eq_true rfl)) d_L_law_962 ⟨by omega, by omega⟩) (fun r1059 er1059 => ?_)
  subst er1059
  refine lv_iload hx hb d_L_law_965 (lv_at hl 1 rfl) ?_
  refine lv_icmp_eq (tgt := 972) hx hb d_L_law_967 (by decide) (fun h1060 => ?_) (fun h1060 => ?_)
  · refine lv_iload hx hb d_L_law_972 (lv_at hl 1 rfl) ?_
    refine lv_if_ne (tgt := 989) hx hb d_L_law_974 (by decide) (fun h1061 => ?_) (fun h1061 => ?_)
    · refine lv_goto (tgt := 1005) hx hb d_L_law_989 (by decide) ?_
      refine W.widen (k := cells + 1) (n := slots + 13) (by omega) (by omega) ?_
      exact kk n ck 1 hh a1 a2 a3 a4 a5 a6 a7 a8 a9 b0 b1 b2 b3 b4 b5 b6 b7 b8 b9 b10 og fo ad eu es H locs _ hnew hP hD hS (lv_sub hl [2, 3, 4, 5, 6] rfl)
    · exact absurd h1061 (by decide)
  · exact absurd h1060 (by decide)
set_option maxHeartbeats 4000000 in
set_option maxRecDepth 100000 in
theorem lq_key0  (C0 : lc_C p l s m meth c b L xs G ct A) (hiv : iv + 7 ≤ L) (hcc : cells + 1 ≤ room_1.cells) (hzz : slots + 13 ≤ room_1.slots)
    (hP : va_P G classes (lw_W ct hd us op hm qo qa fu au ns n ck n ck th hh a1 a2 a3 a4 a5 a6 a7 a8 a9 b0 b1 b2 b3 b4 b5 b6 b7 b8 b9 b10 og fo ad eu es) H) (hD : va_D A (lw_W ct hd us op hm qo qa fu au ns n ck n ck th hh a1 a2 a3 a4 a5 a6 a7 a8 a9 b0 b1 b2 b3 b4 b5 b6 b7 b8 b9 b10 og fo ad eu es)) (hS : va_S A s.heap H locs) (hl : lv_has ls 8 [(4, .int (nI iv)), (3, .ref qo), (2, .ref hm), (1, .ref hd), (0, .ref b)])
    (kk : lc_K p l e s m below meth c b L xs G ct A hd us op hm qo qa fu au ns iv (cells + 1) (slots + 13) Q)
     (d_hno : ¬ th_in (xs (iv + 1)) n) (m_hno : ¬ th_in (xs (iv + 1)) n)  (hnew : li_R fu au ns n a1 a2 a3 a4 a5 a6 a7 a8 a9 b0 b1 b2 b3 b4 b5 b6 b7 b8 b9 b10 fo ad eu es)  : W p l e room_1 s m #[Value.ref b] below meth c H locs cells slots Q (F0 m 831 ls []) := by
  obtain ⟨hx, hb, hr, hml, hown, hw, hK, hZ, hR, hN, hfl, hA, hbA, hX, hbl, hL, hlocks⟩ := C0
  have hts := hw
  have hP : va_P G classes (lw_W ct hd us op hm qo qa fu au ns n ck n ck th hh a1 a2 a3 a4 a5 a6 a7 a8 a9 b0 b1 b2 b3 b4 b5 b6 b7 b8 b9 b10 og fo ad eu es) H := hP
  have hD : va_D A (lw_W ct hd us op hm qo qa fu au ns n ck n ck th hh a1 a2 a3 a4 a5 a6 a7 a8 a9 b0 b1 b2 b3 b4 b5 b6 b7 b8 b9 b10 og fo ad eu es) := hD
  refine lv_aload_n hx hb d_L_law_831 rfl (lv_at hl 3 rfl) ?_
  refine lv_aload_n hx hb d_L_law_832 rfl (lv_at hl 4 rfl) ?_
  refine lv_iload hx hb d_L_law_833 (lv_at hl 0 rfl) ?_
  refine lv_iconst (v := 1) hx hb d_L_law_835 (by decide) ?_
  refine lv_iadd hx hb d_L_law_836 ?_
  refine sl_ld (j := iv) (d := 1) hx hb hX hbl hbA hS hL (by omega) d_L_law_837 ?_
  refine lv_aload_n hx hb d_L_law_838 rfl (lv_at hl 1 rfl) ?_
  have hC9 : List.map (fun i => ((lw_W ct hd us op hm qo qa fu au ns n ck n ck th hh a1 a2 a3 a4 a5 a6 a7 a8 a9 b0 b1 b2 b3 b4 b5 b6 b7 b8 b9 b10 og fo ad eu es) : va_W)[i]?) [22, 21] = List.map some ([(hd, .inr (0, [.ref us, .ref op, .int (nI n), .int ck])), (qo, .inl ((ct 1), 1, .inr (.inl og)))] : va_W) := (wc_c rfl (wc_c rfl rfl))
  have hn9 : va_nd [22, 21] = true := by decide
  have hPc : va_P G classes [(hd, .inr (0, [.ref us, .ref op, .int (nI n), .int ck])), (qo, .inl ((ct 1), 1, .inr (.inl og)))] H := lp_sub hP [22, 21] hC9
  have hDc := hD.sub (ws' := [(hd, .inr (0, [.ref us, .ref op, .int (nI n), .int ck])), (qo, .inl ((ct 1), 1, .inr (.inl og)))]) [22, 21] hn9 hC9
  have hW9 : wk_sets ((lw_W ct hd us op hm qo qa fu au ns n ck n ck th hh a1 a2 a3 a4 a5 a6 a7 a8 a9 b0 b1 b2 b3 b4 b5 b6 b7 b8 b9 b10 og fo ad eu es) : va_W) [22, 21] ([(hd, .inr (0, [.ref us, .ref op, .int (nI n), .int ck])), (qo, .inl ((ct 1), 1, .inr (.inl og)))] : va_W) = ((lw_W ct hd us op hm qo qa fu au ns n ck n ck th hh a1 a2 a3 a4 a5 a6 a7 a8 a9 b0 b1 b2 b3 b4 b5 b6 b7 b8 b9 b10 og fo ad eu es) : va_W) := (ws_k rfl (ws_k rfl rfl))
  refine wk_i (sh_run (As := [.ref hd, .int (xs (iv + 1)), .ref qo]) (rest := []) (hs := [(0, 8, 11, 25), (0, 8, 14, 15)]) ⟨hx, hb, hml, hown, hts⟩ (c_L_key0 l hfl G ct H.size hd us op n ck (xs (iv + 1)) qo og d_hno) wk_ret ⟨hw, ww_620, ww_0, ⟨by decide, by decide⟩, np_L_key, ww_618, ww_619, rfl, rfl, Nat.le_of_ble_eq_true rfl, Nat.le_of_ble_eq_true rfl⟩ (wk_pre5 hPc hK hDc hD hS hA [22, 21] hC9 hZ hR hN) rfl hl.1 rfl (lv_room (Nat.le_of_ble_eq_true rfl)) d_L_law_839 ⟨by omega, by omega⟩) hP hD hS hA [22, 21] hn9 hC9 (fun _ => by simp only [List.map_cons, List.map_nil]) (fun _ H locs _ hP hD hS => ?_)
  have hP : va_P G classes (lw_W ct hd us op hm qo qa fu au ns n ck n ck th hh a1 a2 a3 a4 a5 a6 a7 a8 a9 b0 b1 b2 b3 b4 b5 b6 b7 b8 b9 b10 og fo ad eu es) H := lp_P hW9 hP
  have hD : va_D A (lw_W ct hd us op hm qo qa fu au ns n ck n ck th hh a1 a2 a3 a4 a5 a6 a7 a8 a9 b0 b1 b2 b3 b4 b5 b6 b7 b8 b9 b10 og fo ad eu es) := lp_D hW9 hD
  refine lv_istore (lv' := [(5, .int 1), (4, .int (nI iv)), (3, .ref qo), (2, .ref hm), (1, .ref hd), (0, .ref b)]) hx hb d_L_law_842 hl (Nat.le_of_ble_eq_true rfl) rfl (fun ls hl => ?_)
  refine lv_aload_n hx hb d_L_law_844 rfl (lv_at hl 3 rfl) ?_
  refine lv_aload_n hx hb d_L_law_845 rfl (lv_at hl 5 rfl) ?_
  refine lv_iload hx hb d_L_law_846 (lv_at hl 1 rfl) ?_
  refine lv_iconst (v := 1) hx hb d_L_law_848 (by decide) ?_
  refine lv_iadd hx hb d_L_law_849 ?_
  refine sl_ld (j := iv) (d := 1) hx hb hX hbl hbA hS hL (by omega) d_L_law_850 ?_
  have hPc : va_P G classes [(hm, .inr (4, [.int th, .long ns.toInt64, .int ck, .long hh, .ref (qa 1), .ref (qa 2), .ref (qa 3), .ref (qa 4), .ref (qa 5), .ref (qa 6), .ref (qa 7), .ref (qa 8), .int (nI n), .ref (qa 9), .ref (qa 10), .ref (qa 11), .ref (qa 12), .ref (qa 13), .ref (qa 14), .ref (qa 15), .ref (qa 16), .ref (qa 17), .ref (qa 18), .ref (qa 19), .ref (qa 20)]))] H := hP.sub [0] rfl
  have hDc := hD.sub (ws' := [(hm, .inr (4, [.int th, .long ns.toInt64, .int ck, .long hh, .ref (qa 1), .ref (qa 2), .ref (qa 3), .ref (qa 4), .ref (qa 5), .ref (qa 6), .ref (qa 7), .ref (qa 8), .int (nI n), .ref (qa 9), .ref (qa 10), .ref (qa 11), .ref (qa 12), .ref (qa 13), .ref (qa 14), .ref (qa 15), .ref (qa 16), .ref (qa 17), .ref (qa 18), .ref (qa 19), .ref (qa 20)]))]) [0] (by decide) rfl
  refine wk_l (va_runV (As := [.int (xs (iv + 1))]) (rest := []) ⟨hx, hb, hml, hown, hts⟩ (c_M_key0 l G ct H.size hm th ns.toInt64 ck hh (qa 1) (qa 2) (qa 3) (qa 4) (qa 5) (qa 6) (qa 7) (qa 8) (qa 9) (qa 10) (qa 11) (qa 12) (qa 13) (qa 14) (qa 15) (qa 16) (qa 17) (qa 18) (qa 19) (qa 20) n (xs (iv + 1)) m_hno) (tb_V hw cy_M_key ww_864 ww_865 ww_866 rfl rfl ⟨Nat.le_of_ble_eq_true rfl, Nat.le_of_ble_eq_true rfl⟩) (wk_preV (ci := 4) (q0 := 0) hPc hK hDc rfl rfl) rfl rfl hl.1 rfl (lv_room (Nat.le_of_ble_eq_true rfl)) d_L_law_851 ⟨by omega, by omega⟩) hP hD hS hA [0] (by decide) rfl (fun _ => by simp only [List.map_cons, List.map_nil]) (fun _ H locs ok1062 hP hD hS => ?_)
  have hP : va_P G classes (lw_W ct hd us op hm qo qa fu au ns n ck n ck 1 hh a1 a2 a3 a4 a5 a6 a7 a8 a9 b0 b1 b2 b3 b4 b5 b6 b7 b8 b9 b10 og fo ad eu es) H := hP
  have hD : va_D A (lw_W ct hd us op hm qo qa fu au ns n ck n ck 1 hh a1 a2 a3 a4 a5 a6 a7 a8 a9 b0 b1 b2 b3 b4 b5 b6 b7 b8 b9 b10 og fo ad eu es) := hD
  refine lv_lstore (lv' := [(6, .long 0), (5, .int 1), (4, .int (nI iv)), (3, .ref qo), (2, .ref hm), (1, .ref hd), (0, .ref b)]) hx hb d_L_law_854 hl (Nat.le_of_ble_eq_true rfl) rfl (fun ls hl => ?_)
  refine lv_aload_n hx hb d_L_law_856 rfl (lv_at hl 4 rfl) ?_
  have hPc : va_P G classes [(hm, .inr (4, [.int 1, .long ns.toInt64, .int ck, .long hh, .ref (qa 1), .ref (qa 2), .ref (qa 3), .ref (qa 4), .ref (qa 5), .ref (qa 6), .ref (qa 7), .ref (qa 8), .int (nI n), .ref (qa 9), .ref (qa 10), .ref (qa 11), .ref (qa 12), .ref (qa 13), .ref (qa 14), .ref (qa 15), .ref (qa 16), .ref (qa 17), .ref (qa 18), .ref (qa 19), .ref (qa 20)]))] H := hP.sub [0] rfl
  have hDc := hD.sub (ws' := [(hm, .inr (4, [.int 1, .long ns.toInt64, .int ck, .long hh, .ref (qa 1), .ref (qa 2), .ref (qa 3), .ref (qa 4), .ref (qa 5), .ref (qa 6), .ref (qa 7), .ref (qa 8), .int (nI n), .ref (qa 9), .ref (qa 10), .ref (qa 11), .ref (qa 12), .ref (qa 13), .ref (qa 14), .ref (qa 15), .ref (qa 16), .ref (qa 17), .ref (qa 18), .ref (qa 19), .ref (qa 20)]))]) [0] (by decide) rfl
  refine vp_callSi (W.runV (As := []) (rest := []) ⟨hx, hb, hml, hown, hts⟩ (c_M_thrown l G ct H.size hm 1 ns.toInt64 ck hh (qa 1) (qa 2) (qa 3) (qa 4) (qa 5) (qa 6) (qa 7) (qa 8) (qa 9) (qa 10) (qa 11) (qa 12) (qa 13) (qa 14) (qa 15) (qa 16) (qa 17) (qa 18) (qa 19) (qa 20) n) (tb_V hw cy_M_thrown ww_719 ww_720 ww_721 rfl rfl ⟨Nat.le_of_ble_eq_true rfl, Nat.le_of_ble_eq_true rfl⟩) (wk_preV (ci := 4) (q0 := 0) hPc hK hDc rfl rfl) rfl rfl hl.1 rfl (lv_room (Nat.le_of_ble_eq_true rfl)) d_L_law_857 ⟨by omega, by omega⟩) (fun r1063 er1063 => ?_)
  subst er1063
  refine lv_iload hx hb d_L_law_860 (lv_at hl 1 rfl) ?_
  refine lv_icmp_eq (tgt := 867) hx hb d_L_law_862 (by decide) (fun h1064 => ?_) (fun h1064 => ?_)
  · refine lv_iload hx hb d_L_law_867 (lv_at hl 1 rfl) ?_
    refine lv_if_ne (tgt := 883) hx hb d_L_law_869 (by decide) (fun h1065 => ?_) (fun h1065 => ?_)
    · refine lv_goto (tgt := 1005) hx hb d_L_law_883 (by decide) ?_
      refine W.widen (k := cells + 1) (n := slots + 13) (by omega) (by omega) ?_
      exact kk n ck 1 hh a1 a2 a3 a4 a5 a6 a7 a8 a9 b0 b1 b2 b3 b4 b5 b6 b7 b8 b9 b10 og fo ad eu es H locs _ hnew hP hD hS (lv_sub hl [2, 3, 4, 5, 6] rfl)
    · exact absurd h1065 (by decide)
  · exact absurd h1064 (by decide)
set_option maxHeartbeats 4000000 in
set_option maxRecDepth 100000 in
theorem lq_key1C {k : Nat} {u : Nat} {sec : Nat} {x : Nat} {y : Nat} {rc : Nat} {c1 : Int64} {c2 : Int64} (C0 : lc_C p l s m meth c b L xs G ct A) (hiv : iv + 7 ≤ L) (hcc : cells + 1 ≤ room_1.cells) (hzz : slots + 13 ≤ room_1.slots)
    (hP : va_P G classes (lw_W ct hd us op hm qo qa fu au ns n ck n ck th hh a1 a2 a3 a4 a5 a6 a7 a8 a9 b0 b1 b2 b3 b4 b5 b6 b7 b8 b9 b10 og fo ad eu es) H) (hD : va_D A (lw_W ct hd us op hm qo qa fu au ns n ck n ck th hh a1 a2 a3 a4 a5 a6 a7 a8 a9 b0 b1 b2 b3 b4 b5 b6 b7 b8 b9 b10 og fo ad eu es)) (hS : va_S A s.heap H locs) (hl : lv_has ls 8 [(4, .int (nI iv)), (3, .ref qo), (2, .ref hm), (1, .ref hd), (0, .ref b)])
    (kk : lc_K p l e s m below meth c b L xs G ct A hd us op hm qo qa fu au ns iv (cells + 1) (slots + 13) Q)
    (hv1 : xs (iv + 1) = nI k) (hkn : k < n) (hes : es k = .inr (2, [.ref (au u), .int (b0 k), .long (lN sec), .int (b3 k), .int (b2 k), .long (lN x), .long (lN y), .long (b9 k), .long c1, .long c2, .long (b10 k), .long (b5 k), .long (lN rc)])) (d_hn : n ≤ 40) (d_hkn : k < n) (d_hfo : fo k = some (ad k)) (d_hst : (b2 k) = 2) (m_hn : n ≤ 40) (m_hkn : k < n) (m_hf : b2 k = 2)  (hnew : li_R fu au ns n a1 a2 a3 a4 a5 a6 a7 a8 a9 b0 b1 b2 b3 b4 b5 b6 b7 b8 b9 b10 fo ad eu es)  : W p l e room_1 s m #[Value.ref b] below meth c H locs cells slots Q (F0 m 831 ls []) := by
  obtain ⟨hx, hb, hr, hml, hown, hw, hK, hZ, hR, hN, hfl, hA, hbA, hX, hbl, hL, hlocks⟩ := C0
  have hts := hw
  have hP : va_P G classes (lw_W ct hd us op hm qo qa fu au ns n ck n ck th hh a1 a2 a3 a4 a5 a6 a7 a8 a9 b0 b1 b2 b3 b4 b5 b6 b7 b8 b9 b10 og fo ad eu es) H := hP
  have hD : va_D A (lw_W ct hd us op hm qo qa fu au ns n ck n ck th hh a1 a2 a3 a4 a5 a6 a7 a8 a9 b0 b1 b2 b3 b4 b5 b6 b7 b8 b9 b10 og fo ad eu es) := hD
  refine lv_aload_n hx hb d_L_law_831 rfl (lv_at hl 3 rfl) ?_
  refine lv_aload_n hx hb d_L_law_832 rfl (lv_at hl 4 rfl) ?_
  refine lv_iload hx hb d_L_law_833 (lv_at hl 0 rfl) ?_
  refine lv_iconst (v := 1) hx hb d_L_law_835 (by decide) ?_
  refine lv_iadd hx hb d_L_law_836 ?_
  refine sl_ld (j := iv) (d := 1) hx hb hX hbl hbA hS hL (by omega) d_L_law_837 ?_
  refine tp_i (hv1) ?_
  refine lv_aload_n hx hb d_L_law_838 rfl (lv_at hl 1 rfl) ?_
  have hC9 : List.map (fun i => ((lw_W ct hd us op hm qo qa fu au ns n ck n ck th hh a1 a2 a3 a4 a5 a6 a7 a8 a9 b0 b1 b2 b3 b4 b5 b6 b7 b8 b9 b10 og fo ad eu es) : va_W)[i]?) [22, 24, 25 + (8 + k), 21] = List.map some ([(hd, .inr (0, [.ref us, .ref op, .int (nI n), .int ck])), (op, .inl ((ct 4), 40, .inr (.inr (.inr (.inr fo))))), ((ad k), .inr (2, [.ref (au u), .int (b0 k), .long (lN sec), .int (b3 k), .int (b2 k), .long (lN x), .long (lN y), .long (b9 k), .long c1, .long c2, .long (b10 k), .long (b5 k), .long (lN rc)])), (qo, .inl ((ct 1), 1, .inr (.inl og)))] : va_W) := (wc_c rfl (wc_c rfl (wc_c (lw_s rfl hkn hes) (wc_c rfl rfl))))
  have hn9 : va_nd [22, 24, 25 + (8 + k), 21] = true := (nd_c (by simp only [List.mem_cons, List.not_mem_nil, or_false]; omega) (nd_c (by simp only [List.mem_cons, List.not_mem_nil, or_false]; omega) (nd_c (by simp only [List.mem_cons, List.not_mem_nil, or_false]; omega) (nd_c List.not_mem_nil rfl))))
  have hPc : va_P G classes [(hd, .inr (0, [.ref us, .ref op, .int (nI n), .int ck])), (op, .inl ((ct 4), 40, .inr (.inr (.inr (.inr fo))))), ((ad k), .inr (2, [.ref (au u), .int (b0 k), .long (lN sec), .int (b3 k), .int (b2 k), .long (lN x), .long (lN y), .long (b9 k), .long c1, .long c2, .long (b10 k), .long (b5 k), .long (lN rc)])), (qo, .inl ((ct 1), 1, .inr (.inl og)))] H := lp_sub hP [22, 24, 25 + (8 + k), 21] hC9
  have hDc := hD.sub (ws' := [(hd, .inr (0, [.ref us, .ref op, .int (nI n), .int ck])), (op, .inl ((ct 4), 40, .inr (.inr (.inr (.inr fo))))), ((ad k), .inr (2, [.ref (au u), .int (b0 k), .long (lN sec), .int (b3 k), .int (b2 k), .long (lN x), .long (lN y), .long (b9 k), .long c1, .long c2, .long (b10 k), .long (b5 k), .long (lN rc)])), (qo, .inl ((ct 1), 1, .inr (.inl og)))]) [22, 24, 25 + (8 + k), 21] hn9 hC9
  have hW9 : wk_sets ((lw_W ct hd us op hm qo qa fu au ns n ck n ck th hh a1 a2 a3 a4 a5 a6 a7 a8 a9 b0 b1 b2 b3 b4 b5 b6 b7 b8 b9 b10 og fo ad eu es) : va_W) [22, 24, 25 + (8 + k), 21] ([(hd, .inr (0, [.ref us, .ref op, .int (nI n), .int ck])), (op, .inl ((ct 4), 40, .inr (.inr (.inr (.inr fo))))), ((ad k), .inr (2, [.ref (au u), .int (b0 k), .long (lN sec), .int (b3 k), .int (b2 k), .long (lN x), .long (lN y), .long (b9 k), .long c1, .long c2, .long (b10 k), .long (b5 k), .long (lN rc)])), (qo, .inl ((ct 1), 1, .inr (.inl (vp_updL og 0 (b9 k)))))] : va_W) = ((lw_W ct hd us op hm qo qa fu au ns n ck n ck th hh a1 a2 a3 a4 a5 a6 a7 a8 a9 b0 b1 b2 b3 b4 b5 b6 b7 b8 b9 b10 (vp_updL og 0 (b9 k)) fo ad eu es) : va_W) := (ws_k rfl (ws_k rfl (ws_k (lw_s rfl hkn hes) (ws_c (ws' := ([(hm, .inr (4, [.int th, .long ns.toInt64, .int ck, .long hh, .ref (qa 1), .ref (qa 2), .ref (qa 3), .ref (qa 4), .ref (qa 5), .ref (qa 6), .ref (qa 7), .ref (qa 8), .int (nI n), .ref (qa 9), .ref (qa 10), .ref (qa 11), .ref (qa 12), .ref (qa 13), .ref (qa 14), .ref (qa 15), .ref (qa 16), .ref (qa 17), .ref (qa 18), .ref (qa 19), .ref (qa 20)])), ((qa 1), .inl ((ct 0), 8, .inl a1)), ((qa 2), .inl ((ct 1), 8, .inr (.inl a2))), ((qa 3), .inl ((ct 1), 8, .inr (.inl a3))), ((qa 4), .inl ((ct 1), 8, .inr (.inl a4))), ((qa 5), .inl ((ct 0), 8, .inl a5)), ((qa 6), .inl ((ct 0), 8, .inl a6)), ((qa 7), .inl ((ct 0), 8, .inl a7)), ((qa 8), .inl ((ct 0), 8, .inl a8)), ((qa 9), .inl ((ct 2), 40, .inl a9)), ((qa 10), .inl ((ct 0), 40, .inl b0)), ((qa 11), .inl ((ct 0), 40, .inl b1)), ((qa 12), .inl ((ct 0), 40, .inl b2)), ((qa 13), .inl ((ct 0), 40, .inl b3)), ((qa 14), .inl ((ct 1), 40, .inr (.inl b4))), ((qa 15), .inl ((ct 1), 40, .inr (.inl b5))), ((qa 16), .inl ((ct 1), 40, .inr (.inl b6))), ((qa 17), .inl ((ct 1), 40, .inr (.inl b7))), ((qa 18), .inl ((ct 1), 40, .inr (.inl b8))), ((qa 19), .inl ((ct 1), 40, .inr (.inl b9))), ((qa 20), .inl ((ct 1), 40, .inr (.inl b10))), (qo, .inl ((ct 1), 1, .inr (.inl (vp_updL og 0 (b9 k))))), (hd, .inr (0, [.ref us, .ref op, .int (nI n), .int ck])), (us, .inl ((ct 3), 8, .inr (.inr (.inr (.inr fu))))), (op, .inl ((ct 4), 40, .inr (.inr (.inr (.inr fo)))))] ++ (ix_w 8 au eu ++ ix_w n ad es))) rfl rfl))))
  refine wk_i (sh_run (As := [.ref hd, .int (nI k), .ref qo]) (rest := []) (hs := [(0, 8, 11, 25), (0, 8, 14, 15)]) ⟨hx, hb, hml, hown, hts⟩ (c_L_keyC l G ct H.size hd us op n ck fo k (ad k) (au u) (b0 k) sec (b3 k) (b2 k) x y (b9 k) c1 c2 (b10 k) (b5 k) rc qo og d_hn d_hkn d_hfo d_hst) wk_ret ⟨hw, ww_620, ww_0, ⟨by decide, by decide⟩, np_L_key, ww_618, ww_619, rfl, rfl, Nat.le_of_ble_eq_true rfl, Nat.le_of_ble_eq_true rfl⟩ (wk_pre hPc hK hDc) rfl hl.1 rfl (lv_room (Nat.le_of_ble_eq_true rfl)) d_L_law_839 ⟨by omega, by omega⟩) hP hD hS hA [22, 24, 25 + (8 + k), 21] hn9 hC9 (fun _ => by simp only [List.map_cons, List.map_nil]) (fun _ H locs _ hP hD hS => ?_)
  have hP : va_P G classes (lw_W ct hd us op hm qo qa fu au ns n ck n ck th hh a1 a2 a3 a4 a5 a6 a7 a8 a9 b0 b1 b2 b3 b4 b5 b6 b7 b8 b9 b10 (vp_updL og 0 (b9 k)) fo ad eu es) H := lp_P hW9 hP
  have hD : va_D A (lw_W ct hd us op hm qo qa fu au ns n ck n ck th hh a1 a2 a3 a4 a5 a6 a7 a8 a9 b0 b1 b2 b3 b4 b5 b6 b7 b8 b9 b10 (vp_updL og 0 (b9 k)) fo ad eu es) := lp_D hW9 hD
  refine lv_istore (lv' := [(5, .int 0), (4, .int (nI iv)), (3, .ref qo), (2, .ref hm), (1, .ref hd), (0, .ref b)]) hx hb d_L_law_842 hl (Nat.le_of_ble_eq_true rfl) rfl (fun ls hl => ?_)
  refine lv_aload_n hx hb d_L_law_844 rfl (lv_at hl 3 rfl) ?_
  refine lv_aload_n hx hb d_L_law_845 rfl (lv_at hl 5 rfl) ?_
  refine lv_iload hx hb d_L_law_846 (lv_at hl 1 rfl) ?_
  refine lv_iconst (v := 1) hx hb d_L_law_848 (by decide) ?_
  refine lv_iadd hx hb d_L_law_849 ?_
  refine sl_ld (j := iv) (d := 1) hx hb hX hbl hbA hS hL (by omega) d_L_law_850 ?_
  refine tp_i (hv1) ?_
  have hPc : va_P G classes [(hm, .inr (4, [.int th, .long ns.toInt64, .int ck, .long hh, .ref (qa 1), .ref (qa 2), .ref (qa 3), .ref (qa 4), .ref (qa 5), .ref (qa 6), .ref (qa 7), .ref (qa 8), .int (nI n), .ref (qa 9), .ref (qa 10), .ref (qa 11), .ref (qa 12), .ref (qa 13), .ref (qa 14), .ref (qa 15), .ref (qa 16), .ref (qa 17), .ref (qa 18), .ref (qa 19), .ref (qa 20)])), ((qa 12), .inl ((ct 0), 40, .inl b2)), ((qa 19), .inl ((ct 1), 40, .inr (.inl b9)))] H := hP.sub [0, 12, 19] rfl
  have hDc := hD.sub (ws' := [(hm, .inr (4, [.int th, .long ns.toInt64, .int ck, .long hh, .ref (qa 1), .ref (qa 2), .ref (qa 3), .ref (qa 4), .ref (qa 5), .ref (qa 6), .ref (qa 7), .ref (qa 8), .int (nI n), .ref (qa 9), .ref (qa 10), .ref (qa 11), .ref (qa 12), .ref (qa 13), .ref (qa 14), .ref (qa 15), .ref (qa 16), .ref (qa 17), .ref (qa 18), .ref (qa 19), .ref (qa 20)])), ((qa 12), .inl ((ct 0), 40, .inl b2)), ((qa 19), .inl ((ct 1), 40, .inr (.inl b9)))]) [0, 12, 19] (by decide) rfl
  refine wk_l (va_runV (As := [.int (nI k)]) (rest := []) ⟨hx, hb, hml, hown, hts⟩ (c_M_key1 l G ct H.size hm th ns.toInt64 ck hh (qa 1) (qa 2) (qa 3) (qa 4) (qa 5) (qa 6) (qa 7) (qa 8) (qa 9) (qa 10) (qa 11) (qa 12) (qa 13) (qa 14) (qa 15) (qa 16) (qa 17) (qa 18) (qa 19) (qa 20) n b2 b9 k m_hn m_hkn m_hf) (tb_V hw cy_M_key ww_864 ww_865 ww_866 rfl rfl ⟨Nat.le_of_ble_eq_true rfl, Nat.le_of_ble_eq_true rfl⟩) (wk_preV (ci := 4) (q0 := 0) hPc hK hDc rfl rfl) rfl rfl hl.1 rfl (lv_room (Nat.le_of_ble_eq_true rfl)) d_L_law_851 ⟨by omega, by omega⟩) hP hD hS hA [0, 12, 19] (by decide) rfl (fun _ => by simp only [List.map_cons, List.map_nil]) (fun _ H locs ok1066 hP hD hS => ?_)
  have hP : va_P G classes (lw_W ct hd us op hm qo qa fu au ns n ck n ck 0 hh a1 a2 a3 a4 a5 a6 a7 a8 a9 b0 b1 b2 b3 b4 b5 b6 b7 b8 b9 b10 (vp_updL og 0 (b9 k)) fo ad eu es) H := hP
  have hD : va_D A (lw_W ct hd us op hm qo qa fu au ns n ck n ck 0 hh a1 a2 a3 a4 a5 a6 a7 a8 a9 b0 b1 b2 b3 b4 b5 b6 b7 b8 b9 b10 (vp_updL og 0 (b9 k)) fo ad eu es) := hD
  refine lv_lstore (lv' := [(6, .long (b9 k)), (5, .int 0), (4, .int (nI iv)), (3, .ref qo), (2, .ref hm), (1, .ref hd), (0, .ref b)]) hx hb d_L_law_854 hl (Nat.le_of_ble_eq_true rfl) rfl (fun ls hl => ?_)
  refine lv_aload_n hx hb d_L_law_856 rfl (lv_at hl 4 rfl) ?_
  have hPc : va_P G classes [(hm, .inr (4, [.int 0, .long ns.toInt64, .int ck, .long hh, .ref (qa 1), .ref (qa 2), .ref (qa 3), .ref (qa 4), .ref (qa 5), .ref (qa 6), .ref (qa 7), .ref (qa 8), .int (nI n), .ref (qa 9), .ref (qa 10), .ref (qa 11), .ref (qa 12), .ref (qa 13), .ref (qa 14), .ref (qa 15), .ref (qa 16), .ref (qa 17), .ref (qa 18), .ref (qa 19), .ref (qa 20)]))] H := hP.sub [0] rfl
  have hDc := hD.sub (ws' := [(hm, .inr (4, [.int 0, .long ns.toInt64, .int ck, .long hh, .ref (qa 1), .ref (qa 2), .ref (qa 3), .ref (qa 4), .ref (qa 5), .ref (qa 6), .ref (qa 7), .ref (qa 8), .int (nI n), .ref (qa 9), .ref (qa 10), .ref (qa 11), .ref (qa 12), .ref (qa 13), .ref (qa 14), .ref (qa 15), .ref (qa 16), .ref (qa 17), .ref (qa 18), .ref (qa 19), .ref (qa 20)]))]) [0] (by decide) rfl
  refine vp_callSi (W.runV (As := []) (rest := []) ⟨hx, hb, hml, hown, hts⟩ (c_M_thrown l G ct H.size hm 0 ns.toInt64 ck hh (qa 1) (qa 2) (qa 3) (qa 4) (qa 5) (qa 6) (qa 7) (qa 8) (qa 9) (qa 10) (qa 11) (qa 12) (qa 13) (qa 14) (qa 15) (qa 16) (qa 17) (qa 18) (qa 19) (qa 20) n) (tb_V hw cy_M_thrown ww_719 ww_720 ww_721 rfl rfl ⟨Nat.le_of_ble_eq_true rfl, Nat.le_of_ble_eq_true rfl⟩) (wk_preV (ci := 4) (q0 := 0) hPc hK hDc rfl rfl) rfl rfl hl.1 rfl (lv_room (Nat.le_of_ble_eq_true rfl)) d_L_law_857 ⟨by omega, by omega⟩) (fun r1067 er1067 => ?_)
  subst er1067
  refine lv_iload hx hb d_L_law_860 (lv_at hl 1 rfl) ?_
  refine lv_icmp_eq (tgt := 867) hx hb d_L_law_862 (by decide) (fun h1068 => ?_) (fun h1068 => ?_)
  · refine lv_iload hx hb d_L_law_867 (lv_at hl 1 rfl) ?_
    refine lv_if_ne (tgt := 883) hx hb d_L_law_869 (by decide) (fun h1069 => ?_) (fun h1069 => ?_)
    · exact absurd h1069 (by decide)
    · refine lv_aload_n hx hb d_L_law_872 rfl (lv_at hl 3 rfl) ?_
      refine lv_iconst (v := 0) hx hb d_L_law_873 (by decide) ?_
      refine ra_ll hx hb hK.1 hP 21 1 rfl rfl (k := 0) (by omega) (by decide) d_L_law_874 ?_
      refine tp_l (ul_se _ _ _) ?_
      refine lv_lload hx hb d_L_law_875 (lv_at hl 0 rfl) ?_
      refine W.lcmp hx hb d_L_law_877 ?_
      refine lv_if_eq (tgt := 883) hx hb d_L_law_878 (by decide) (fun h1070 => ?_) (fun h1070 => ?_)
      · have h1070 := (lg_cmp_eq _ _).mp h1070
        refine lv_goto (tgt := 1005) hx hb d_L_law_883 (by decide) ?_
        refine W.widen (k := cells + 1) (n := slots + 13) (by omega) (by omega) ?_
        exact kk n ck 0 hh a1 a2 a3 a4 a5 a6 a7 a8 a9 b0 b1 b2 b3 b4 b5 b6 b7 b8 b9 b10 (vp_updL og 0 (b9 k)) fo ad eu es H locs _ hnew hP hD hS (lv_sub hl [2, 3, 4, 5, 6] rfl)
      · have h1070 := fun q => h1070 ((lg_cmp_eq _ _).mpr q)
        exact absurd rfl h1070
  · exact absurd h1068 (by decide)
set_option maxHeartbeats 4000000 in
set_option maxRecDepth 100000 in
theorem lq_key2C {k : Nat} {u : Nat} {sec : Nat} {x : Nat} {y : Nat} {rc : Nat} {c1 : Int64} {c2 : Int64} (C0 : lc_C p l s m meth c b L xs G ct A) (hiv : iv + 7 ≤ L) (hcc : cells + 1 ≤ room_1.cells) (hzz : slots + 13 ≤ room_1.slots)
    (hP : va_P G classes (lw_W ct hd us op hm qo qa fu au ns n ck n ck th hh a1 a2 a3 a4 a5 a6 a7 a8 a9 b0 b1 b2 b3 b4 b5 b6 b7 b8 b9 b10 og fo ad eu es) H) (hD : va_D A (lw_W ct hd us op hm qo qa fu au ns n ck n ck th hh a1 a2 a3 a4 a5 a6 a7 a8 a9 b0 b1 b2 b3 b4 b5 b6 b7 b8 b9 b10 og fo ad eu es)) (hS : va_S A s.heap H locs) (hl : lv_has ls 8 [(4, .int (nI iv)), (3, .ref qo), (2, .ref hm), (1, .ref hd), (0, .ref b)])
    (kk : lc_K p l e s m below meth c b L xs G ct A hd us op hm qo qa fu au ns iv (cells + 1) (slots + 13) Q)
    (hv1 : xs (iv + 1) = nI k) (hkn : k < n) (hes : es k = .inr (2, [.ref (au u), .int (b0 k), .long (lN sec), .int (b3 k), .int (b2 k), .long (lN x), .long (lN y), .long (b9 k), .long c1, .long c2, .long (b10 k), .long (b5 k), .long (lN rc)])) (d_hn : n ≤ 40) (d_hkn : k < n) (d_hfo : fo k = some (ad k)) (d_hst : ¬ (b2 k) = 2) (m_hn : n ≤ 40) (m_hkn : k < n) (m_hf : ¬ b2 k = 2)  (hnew : li_R fu au ns n a1 a2 a3 a4 a5 a6 a7 a8 a9 b0 b1 b2 b3 b4 b5 b6 b7 b8 b9 b10 fo ad eu es)  : W p l e room_1 s m #[Value.ref b] below meth c H locs cells slots Q (F0 m 831 ls []) := by
  obtain ⟨hx, hb, hr, hml, hown, hw, hK, hZ, hR, hN, hfl, hA, hbA, hX, hbl, hL, hlocks⟩ := C0
  have hts := hw
  have hP : va_P G classes (lw_W ct hd us op hm qo qa fu au ns n ck n ck th hh a1 a2 a3 a4 a5 a6 a7 a8 a9 b0 b1 b2 b3 b4 b5 b6 b7 b8 b9 b10 og fo ad eu es) H := hP
  have hD : va_D A (lw_W ct hd us op hm qo qa fu au ns n ck n ck th hh a1 a2 a3 a4 a5 a6 a7 a8 a9 b0 b1 b2 b3 b4 b5 b6 b7 b8 b9 b10 og fo ad eu es) := hD
  refine lv_aload_n hx hb d_L_law_831 rfl (lv_at hl 3 rfl) ?_
  refine lv_aload_n hx hb d_L_law_832 rfl (lv_at hl 4 rfl) ?_
  refine lv_iload hx hb d_L_law_833 (lv_at hl 0 rfl) ?_
  refine lv_iconst (v := 1) hx hb d_L_law_835 (by decide) ?_
  refine lv_iadd hx hb d_L_law_836 ?_
  refine sl_ld (j := iv) (d := 1) hx hb hX hbl hbA hS hL (by omega) d_L_law_837 ?_
  refine tp_i (hv1) ?_
  refine lv_aload_n hx hb d_L_law_838 rfl (lv_at hl 1 rfl) ?_
  have hC9 : List.map (fun i => ((lw_W ct hd us op hm qo qa fu au ns n ck n ck th hh a1 a2 a3 a4 a5 a6 a7 a8 a9 b0 b1 b2 b3 b4 b5 b6 b7 b8 b9 b10 og fo ad eu es) : va_W)[i]?) [22, 24, 25 + (8 + k), 21] = List.map some ([(hd, .inr (0, [.ref us, .ref op, .int (nI n), .int ck])), (op, .inl ((ct 4), 40, .inr (.inr (.inr (.inr fo))))), ((ad k), .inr (2, [.ref (au u), .int (b0 k), .long (lN sec), .int (b3 k), .int (b2 k), .long (lN x), .long (lN y), .long (b9 k), .long c1, .long c2, .long (b10 k), .long (b5 k), .long (lN rc)])), (qo, .inl ((ct 1), 1, .inr (.inl og)))] : va_W) := (wc_c rfl (wc_c rfl (wc_c (lw_s rfl hkn hes) (wc_c rfl rfl))))
  have hn9 : va_nd [22, 24, 25 + (8 + k), 21] = true := (nd_c (by simp only [List.mem_cons, List.not_mem_nil, or_false]; omega) (nd_c (by simp only [List.mem_cons, List.not_mem_nil, or_false]; omega) (nd_c (by simp only [List.mem_cons, List.not_mem_nil, or_false]; omega) (nd_c List.not_mem_nil rfl))))
  have hPc : va_P G classes [(hd, .inr (0, [.ref us, .ref op, .int (nI n), .int ck])), (op, .inl ((ct 4), 40, .inr (.inr (.inr (.inr fo))))), ((ad k), .inr (2, [.ref (au u), .int (b0 k), .long (lN sec), .int (b3 k), .int (b2 k), .long (lN x), .long (lN y), .long (b9 k), .long c1, .long c2, .long (b10 k), .long (b5 k), .long (lN rc)])), (qo, .inl ((ct 1), 1, .inr (.inl og)))] H := lp_sub hP [22, 24, 25 + (8 + k), 21] hC9
  have hDc := hD.sub (ws' := [(hd, .inr (0, [.ref us, .ref op, .int (nI n), .int ck])), (op, .inl ((ct 4), 40, .inr (.inr (.inr (.inr fo))))), ((ad k), .inr (2, [.ref (au u), .int (b0 k), .long (lN sec), .int (b3 k), .int (b2 k), .long (lN x), .long (lN y), .long (b9 k), .long c1, .long c2, .long (b10 k), .long (b5 k), .long (lN rc)])), (qo, .inl ((ct 1), 1, .inr (.inl og)))]) [22, 24, 25 + (8 + k), 21] hn9 hC9
  have hW9 : wk_sets ((lw_W ct hd us op hm qo qa fu au ns n ck n ck th hh a1 a2 a3 a4 a5 a6 a7 a8 a9 b0 b1 b2 b3 b4 b5 b6 b7 b8 b9 b10 og fo ad eu es) : va_W) [22, 24, 25 + (8 + k), 21] ([(hd, .inr (0, [.ref us, .ref op, .int (nI n), .int ck])), (op, .inl ((ct 4), 40, .inr (.inr (.inr (.inr fo))))), ((ad k), .inr (2, [.ref (au u), .int (b0 k), .long (lN sec), .int (b3 k), .int (b2 k), .long (lN x), .long (lN y), .long (b9 k), .long c1, .long c2, .long (b10 k), .long (b5 k), .long (lN rc)])), (qo, .inl ((ct 1), 1, .inr (.inl og)))] : va_W) = ((lw_W ct hd us op hm qo qa fu au ns n ck n ck th hh a1 a2 a3 a4 a5 a6 a7 a8 a9 b0 b1 b2 b3 b4 b5 b6 b7 b8 b9 b10 og fo ad eu es) : va_W) := (ws_k rfl (ws_k rfl (ws_k (lw_s rfl hkn hes) (ws_k rfl rfl))))
  refine wk_i (sh_run (As := [.ref hd, .int (nI k), .ref qo]) (rest := []) (hs := [(0, 8, 11, 25), (0, 8, 14, 15)]) ⟨hx, hb, hml, hown, hts⟩ (c_L_key2C l hfl G ct H.size hd us op n ck fo k (ad k) (au u) (b0 k) sec (b3 k) (b2 k) x y (b9 k) c1 c2 (b10 k) (b5 k) rc qo og d_hn d_hkn d_hfo d_hst) wk_ret ⟨hw, ww_620, ww_0, ⟨by decide, by decide⟩, np_L_key, ww_618, ww_619, rfl, rfl, Nat.le_of_ble_eq_true rfl, Nat.le_of_ble_eq_true rfl⟩ (wk_pre5 hPc hK hDc hD hS hA [22, 24, 25 + (8 + k), 21] hC9 hZ hR hN) rfl hl.1 rfl (lv_room (Nat.le_of_ble_eq_true rfl)) d_L_law_839 ⟨by omega, by omega⟩) hP hD hS hA [22, 24, 25 + (8 + k), 21] hn9 hC9 (fun _ => by simp only [List.map_cons, List.map_nil]) (fun _ H locs _ hP hD hS => ?_)
  have hP : va_P G classes (lw_W ct hd us op hm qo qa fu au ns n ck n ck th hh a1 a2 a3 a4 a5 a6 a7 a8 a9 b0 b1 b2 b3 b4 b5 b6 b7 b8 b9 b10 og fo ad eu es) H := lp_P hW9 hP
  have hD : va_D A (lw_W ct hd us op hm qo qa fu au ns n ck n ck th hh a1 a2 a3 a4 a5 a6 a7 a8 a9 b0 b1 b2 b3 b4 b5 b6 b7 b8 b9 b10 og fo ad eu es) := lp_D hW9 hD
  refine lv_istore (lv' := [(5, .int 2), (4, .int (nI iv)), (3, .ref qo), (2, .ref hm), (1, .ref hd), (0, .ref b)]) hx hb d_L_law_842 hl (Nat.le_of_ble_eq_true rfl) rfl (fun ls hl => ?_)
  refine lv_aload_n hx hb d_L_law_844 rfl (lv_at hl 3 rfl) ?_
  refine lv_aload_n hx hb d_L_law_845 rfl (lv_at hl 5 rfl) ?_
  refine lv_iload hx hb d_L_law_846 (lv_at hl 1 rfl) ?_
  refine lv_iconst (v := 1) hx hb d_L_law_848 (by decide) ?_
  refine lv_iadd hx hb d_L_law_849 ?_
  refine sl_ld (j := iv) (d := 1) hx hb hX hbl hbA hS hL (by omega) d_L_law_850 ?_
  refine tp_i (hv1) ?_
  have hPc : va_P G classes [(hm, .inr (4, [.int th, .long ns.toInt64, .int ck, .long hh, .ref (qa 1), .ref (qa 2), .ref (qa 3), .ref (qa 4), .ref (qa 5), .ref (qa 6), .ref (qa 7), .ref (qa 8), .int (nI n), .ref (qa 9), .ref (qa 10), .ref (qa 11), .ref (qa 12), .ref (qa 13), .ref (qa 14), .ref (qa 15), .ref (qa 16), .ref (qa 17), .ref (qa 18), .ref (qa 19), .ref (qa 20)])), ((qa 12), .inl ((ct 0), 40, .inl b2)), ((qa 19), .inl ((ct 1), 40, .inr (.inl b9)))] H := hP.sub [0, 12, 19] rfl
  have hDc := hD.sub (ws' := [(hm, .inr (4, [.int th, .long ns.toInt64, .int ck, .long hh, .ref (qa 1), .ref (qa 2), .ref (qa 3), .ref (qa 4), .ref (qa 5), .ref (qa 6), .ref (qa 7), .ref (qa 8), .int (nI n), .ref (qa 9), .ref (qa 10), .ref (qa 11), .ref (qa 12), .ref (qa 13), .ref (qa 14), .ref (qa 15), .ref (qa 16), .ref (qa 17), .ref (qa 18), .ref (qa 19), .ref (qa 20)])), ((qa 12), .inl ((ct 0), 40, .inl b2)), ((qa 19), .inl ((ct 1), 40, .inr (.inl b9)))]) [0, 12, 19] (by decide) rfl
  refine wk_l (va_runV (As := [.int (nI k)]) (rest := []) ⟨hx, hb, hml, hown, hts⟩ (c_M_key2 l G ct H.size hm th ns.toInt64 ck hh (qa 1) (qa 2) (qa 3) (qa 4) (qa 5) (qa 6) (qa 7) (qa 8) (qa 9) (qa 10) (qa 11) (qa 12) (qa 13) (qa 14) (qa 15) (qa 16) (qa 17) (qa 18) (qa 19) (qa 20) n b2 b9 k m_hn m_hkn m_hf) (tb_V hw cy_M_key ww_864 ww_865 ww_866 rfl rfl ⟨Nat.le_of_ble_eq_true rfl, Nat.le_of_ble_eq_true rfl⟩) (wk_preV (ci := 4) (q0 := 0) hPc hK hDc rfl rfl) rfl rfl hl.1 rfl (lv_room (Nat.le_of_ble_eq_true rfl)) d_L_law_851 ⟨by omega, by omega⟩) hP hD hS hA [0, 12, 19] (by decide) rfl (fun _ => by simp only [List.map_cons, List.map_nil]) (fun _ H locs ok1071 hP hD hS => ?_)
  have hP : va_P G classes (lw_W ct hd us op hm qo qa fu au ns n ck n ck 2 hh a1 a2 a3 a4 a5 a6 a7 a8 a9 b0 b1 b2 b3 b4 b5 b6 b7 b8 b9 b10 og fo ad eu es) H := hP
  have hD : va_D A (lw_W ct hd us op hm qo qa fu au ns n ck n ck 2 hh a1 a2 a3 a4 a5 a6 a7 a8 a9 b0 b1 b2 b3 b4 b5 b6 b7 b8 b9 b10 og fo ad eu es) := hD
  refine lv_lstore (lv' := [(6, .long 0), (5, .int 2), (4, .int (nI iv)), (3, .ref qo), (2, .ref hm), (1, .ref hd), (0, .ref b)]) hx hb d_L_law_854 hl (Nat.le_of_ble_eq_true rfl) rfl (fun ls hl => ?_)
  refine lv_aload_n hx hb d_L_law_856 rfl (lv_at hl 4 rfl) ?_
  have hPc : va_P G classes [(hm, .inr (4, [.int 2, .long ns.toInt64, .int ck, .long hh, .ref (qa 1), .ref (qa 2), .ref (qa 3), .ref (qa 4), .ref (qa 5), .ref (qa 6), .ref (qa 7), .ref (qa 8), .int (nI n), .ref (qa 9), .ref (qa 10), .ref (qa 11), .ref (qa 12), .ref (qa 13), .ref (qa 14), .ref (qa 15), .ref (qa 16), .ref (qa 17), .ref (qa 18), .ref (qa 19), .ref (qa 20)]))] H := hP.sub [0] rfl
  have hDc := hD.sub (ws' := [(hm, .inr (4, [.int 2, .long ns.toInt64, .int ck, .long hh, .ref (qa 1), .ref (qa 2), .ref (qa 3), .ref (qa 4), .ref (qa 5), .ref (qa 6), .ref (qa 7), .ref (qa 8), .int (nI n), .ref (qa 9), .ref (qa 10), .ref (qa 11), .ref (qa 12), .ref (qa 13), .ref (qa 14), .ref (qa 15), .ref (qa 16), .ref (qa 17), .ref (qa 18), .ref (qa 19), .ref (qa 20)]))]) [0] (by decide) rfl
  refine vp_callSi (W.runV (As := []) (rest := []) ⟨hx, hb, hml, hown, hts⟩ (c_M_thrown l G ct H.size hm 2 ns.toInt64 ck hh (qa 1) (qa 2) (qa 3) (qa 4) (qa 5) (qa 6) (qa 7) (qa 8) (qa 9) (qa 10) (qa 11) (qa 12) (qa 13) (qa 14) (qa 15) (qa 16) (qa 17) (qa 18) (qa 19) (qa 20) n) (tb_V hw cy_M_thrown ww_719 ww_720 ww_721 rfl rfl ⟨Nat.le_of_ble_eq_true rfl, Nat.le_of_ble_eq_true rfl⟩) (wk_preV (ci := 4) (q0 := 0) hPc hK hDc rfl rfl) rfl rfl hl.1 rfl (lv_room (Nat.le_of_ble_eq_true rfl)) d_L_law_857 ⟨by omega, by omega⟩) (fun r1072 er1072 => ?_)
  subst er1072
  refine lv_iload hx hb d_L_law_860 (lv_at hl 1 rfl) ?_
  refine lv_icmp_eq (tgt := 867) hx hb d_L_law_862 (by decide) (fun h1073 => ?_) (fun h1073 => ?_)
  · refine lv_iload hx hb d_L_law_867 (lv_at hl 1 rfl) ?_
    refine lv_if_ne (tgt := 883) hx hb d_L_law_869 (by decide) (fun h1074 => ?_) (fun h1074 => ?_)
    · refine lv_goto (tgt := 1005) hx hb d_L_law_883 (by decide) ?_
      refine W.widen (k := cells + 1) (n := slots + 13) (by omega) (by omega) ?_
      exact kk n ck 2 hh a1 a2 a3 a4 a5 a6 a7 a8 a9 b0 b1 b2 b3 b4 b5 b6 b7 b8 b9 b10 og fo ad eu es H locs _ hnew hP hD hS (lv_sub hl [2, 3, 4, 5, 6] rfl)
    · exact absurd h1074 (by decide)
  · exact absurd h1073 (by decide)
set_option maxHeartbeats 4000000 in
set_option maxRecDepth 100000 in
theorem lq_key1V {k : Nat} {u : Nat} {sec : Nat} {x : Nat} {y : Nat} {rc : Nat} {c1 : Int64} {c2 : Int64} (C0 : lc_C p l s m meth c b L xs G ct A) (hiv : iv + 7 ≤ L) (hcc : cells + 1 ≤ room_1.cells) (hzz : slots + 13 ≤ room_1.slots)
    (hP : va_P G classes (lw_W ct hd us op hm qo qa fu au ns n ck n ck th hh a1 a2 a3 a4 a5 a6 a7 a8 a9 b0 b1 b2 b3 b4 b5 b6 b7 b8 b9 b10 og fo ad eu es) H) (hD : va_D A (lw_W ct hd us op hm qo qa fu au ns n ck n ck th hh a1 a2 a3 a4 a5 a6 a7 a8 a9 b0 b1 b2 b3 b4 b5 b6 b7 b8 b9 b10 og fo ad eu es)) (hS : va_S A s.heap H locs) (hl : lv_has ls 8 [(4, .int (nI iv)), (3, .ref qo), (2, .ref hm), (1, .ref hd), (0, .ref b)])
    (kk : lc_K p l e s m below meth c b L xs G ct A hd us op hm qo qa fu au ns iv (cells + 1) (slots + 13) Q)
    (hv1 : xs (iv + 1) = nI k) (hkn : k < n) (hes : es k = .inr (3, [.ref (au u), .int (b0 k), .long (lN sec), .int (b3 k), .int (b2 k), .long (lN x), .long (lN y), .long (b9 k), .long c1, .long c2, .long (b10 k), .long (lN rc)])) (d_hn : n ≤ 40) (d_hkn : k < n) (d_hfo : fo k = some (ad k)) (d_hst : (b2 k) = 2) (m_hn : n ≤ 40) (m_hkn : k < n) (m_hf : b2 k = 2)  (hnew : li_R fu au ns n a1 a2 a3 a4 a5 a6 a7 a8 a9 b0 b1 b2 b3 b4 b5 b6 b7 b8 b9 b10 fo ad eu es)  : W p l e room_1 s m #[Value.ref b] below meth c H locs cells slots Q (F0 m 831 ls []) := by
  obtain ⟨hx, hb, hr, hml, hown, hw, hK, hZ, hR, hN, hfl, hA, hbA, hX, hbl, hL, hlocks⟩ := C0
  have hts := hw
  have hP : va_P G classes (lw_W ct hd us op hm qo qa fu au ns n ck n ck th hh a1 a2 a3 a4 a5 a6 a7 a8 a9 b0 b1 b2 b3 b4 b5 b6 b7 b8 b9 b10 og fo ad eu es) H := hP
  have hD : va_D A (lw_W ct hd us op hm qo qa fu au ns n ck n ck th hh a1 a2 a3 a4 a5 a6 a7 a8 a9 b0 b1 b2 b3 b4 b5 b6 b7 b8 b9 b10 og fo ad eu es) := hD
  refine lv_aload_n hx hb d_L_law_831 rfl (lv_at hl 3 rfl) ?_
  refine lv_aload_n hx hb d_L_law_832 rfl (lv_at hl 4 rfl) ?_
  refine lv_iload hx hb d_L_law_833 (lv_at hl 0 rfl) ?_
  refine lv_iconst (v := 1) hx hb d_L_law_835 (by decide) ?_
  refine lv_iadd hx hb d_L_law_836 ?_
  refine sl_ld (j := iv) (d := 1) hx hb hX hbl hbA hS hL (by omega) d_L_law_837 ?_
  refine tp_i (hv1) ?_
  refine lv_aload_n hx hb d_L_law_838 rfl (lv_at hl 1 rfl) ?_
  have hC9 : List.map (fun i => ((lw_W ct hd us op hm qo qa fu au ns n ck n ck th hh a1 a2 a3 a4 a5 a6 a7 a8 a9 b0 b1 b2 b3 b4 b5 b6 b7 b8 b9 b10 og fo ad eu es) : va_W)[i]?) [22, 24, 25 + (8 + k), 21] = List.map some ([(hd, .inr (0, [.ref us, .ref op, .int (nI n), .int ck])), (op, .inl ((ct 4), 40, .inr (.inr (.inr (.inr fo))))), ((ad k), .inr (3, [.ref (au u), .int (b0 k), .long (lN sec), .int (b3 k), .int (b2 k), .long (lN x), .long (lN y), .long (b9 k), .long c1, .long c2, .long (b10 k), .long (lN rc)])), (qo, .inl ((ct 1), 1, .inr (.inl og)))] : va_W) := (wc_c rfl (wc_c rfl (wc_c (lw_s rfl hkn hes) (wc_c rfl rfl))))
  have hn9 : va_nd [22, 24, 25 + (8 + k), 21] = true := (nd_c (by simp only [List.mem_cons, List.not_mem_nil, or_false]; omega) (nd_c (by simp only [List.mem_cons, List.not_mem_nil, or_false]; omega) (nd_c (by simp only [List.mem_cons, List.not_mem_nil, or_false]; omega) (nd_c List.not_mem_nil rfl))))
  have hPc : va_P G classes [(hd, .inr (0, [.ref us, .ref op, .int (nI n), .int ck])), (op, .inl ((ct 4), 40, .inr (.inr (.inr (.inr fo))))), ((ad k), .inr (3, [.ref (au u), .int (b0 k), .long (lN sec), .int (b3 k), .int (b2 k), .long (lN x), .long (lN y), .long (b9 k), .long c1, .long c2, .long (b10 k), .long (lN rc)])), (qo, .inl ((ct 1), 1, .inr (.inl og)))] H := lp_sub hP [22, 24, 25 + (8 + k), 21] hC9
  have hDc := hD.sub (ws' := [(hd, .inr (0, [.ref us, .ref op, .int (nI n), .int ck])), (op, .inl ((ct 4), 40, .inr (.inr (.inr (.inr fo))))), ((ad k), .inr (3, [.ref (au u), .int (b0 k), .long (lN sec), .int (b3 k), .int (b2 k), .long (lN x), .long (lN y), .long (b9 k), .long c1, .long c2, .long (b10 k), .long (lN rc)])), (qo, .inl ((ct 1), 1, .inr (.inl og)))]) [22, 24, 25 + (8 + k), 21] hn9 hC9
  have hW9 : wk_sets ((lw_W ct hd us op hm qo qa fu au ns n ck n ck th hh a1 a2 a3 a4 a5 a6 a7 a8 a9 b0 b1 b2 b3 b4 b5 b6 b7 b8 b9 b10 og fo ad eu es) : va_W) [22, 24, 25 + (8 + k), 21] ([(hd, .inr (0, [.ref us, .ref op, .int (nI n), .int ck])), (op, .inl ((ct 4), 40, .inr (.inr (.inr (.inr fo))))), ((ad k), .inr (3, [.ref (au u), .int (b0 k), .long (lN sec), .int (b3 k), .int (b2 k), .long (lN x), .long (lN y), .long (b9 k), .long c1, .long c2, .long (b10 k), .long (lN rc)])), (qo, .inl ((ct 1), 1, .inr (.inl (vp_updL og 0 (b9 k)))))] : va_W) = ((lw_W ct hd us op hm qo qa fu au ns n ck n ck th hh a1 a2 a3 a4 a5 a6 a7 a8 a9 b0 b1 b2 b3 b4 b5 b6 b7 b8 b9 b10 (vp_updL og 0 (b9 k)) fo ad eu es) : va_W) := (ws_k rfl (ws_k rfl (ws_k (lw_s rfl hkn hes) (ws_c (ws' := ([(hm, .inr (4, [.int th, .long ns.toInt64, .int ck, .long hh, .ref (qa 1), .ref (qa 2), .ref (qa 3), .ref (qa 4), .ref (qa 5), .ref (qa 6), .ref (qa 7), .ref (qa 8), .int (nI n), .ref (qa 9), .ref (qa 10), .ref (qa 11), .ref (qa 12), .ref (qa 13), .ref (qa 14), .ref (qa 15), .ref (qa 16), .ref (qa 17), .ref (qa 18), .ref (qa 19), .ref (qa 20)])), ((qa 1), .inl ((ct 0), 8, .inl a1)), ((qa 2), .inl ((ct 1), 8, .inr (.inl a2))), ((qa 3), .inl ((ct 1), 8, .inr (.inl a3))), ((qa 4), .inl ((ct 1), 8, .inr (.inl a4))), ((qa 5), .inl ((ct 0), 8, .inl a5)), ((qa 6), .inl ((ct 0), 8, .inl a6)), ((qa 7), .inl ((ct 0), 8, .inl a7)), ((qa 8), .inl ((ct 0), 8, .inl a8)), ((qa 9), .inl ((ct 2), 40, .inl a9)), ((qa 10), .inl ((ct 0), 40, .inl b0)), ((qa 11), .inl ((ct 0), 40, .inl b1)), ((qa 12), .inl ((ct 0), 40, .inl b2)), ((qa 13), .inl ((ct 0), 40, .inl b3)), ((qa 14), .inl ((ct 1), 40, .inr (.inl b4))), ((qa 15), .inl ((ct 1), 40, .inr (.inl b5))), ((qa 16), .inl ((ct 1), 40, .inr (.inl b6))), ((qa 17), .inl ((ct 1), 40, .inr (.inl b7))), ((qa 18), .inl ((ct 1), 40, .inr (.inl b8))), ((qa 19), .inl ((ct 1), 40, .inr (.inl b9))), ((qa 20), .inl ((ct 1), 40, .inr (.inl b10))), (qo, .inl ((ct 1), 1, .inr (.inl (vp_updL og 0 (b9 k))))), (hd, .inr (0, [.ref us, .ref op, .int (nI n), .int ck])), (us, .inl ((ct 3), 8, .inr (.inr (.inr (.inr fu))))), (op, .inl ((ct 4), 40, .inr (.inr (.inr (.inr fo)))))] ++ (ix_w 8 au eu ++ ix_w n ad es))) rfl rfl))))
  refine wk_i (sh_run (As := [.ref hd, .int (nI k), .ref qo]) (rest := []) (hs := [(0, 8, 11, 25), (0, 8, 14, 15)]) ⟨hx, hb, hml, hown, hts⟩ (c_L_keyV l G ct H.size hd us op n ck fo k (ad k) (au u) (b0 k) sec (b3 k) (b2 k) x y (b9 k) c1 c2 (b10 k) rc qo og d_hn d_hkn d_hfo d_hst) wk_ret ⟨hw, ww_620, ww_0, ⟨by decide, by decide⟩, np_L_key, ww_618, ww_619, rfl, rfl, Nat.le_of_ble_eq_true rfl, Nat.le_of_ble_eq_true rfl⟩ (wk_pre hPc hK hDc) rfl hl.1 rfl (lv_room (Nat.le_of_ble_eq_true rfl)) d_L_law_839 ⟨by omega, by omega⟩) hP hD hS hA [22, 24, 25 + (8 + k), 21] hn9 hC9 (fun _ => by simp only [List.map_cons, List.map_nil]) (fun _ H locs _ hP hD hS => ?_)
  have hP : va_P G classes (lw_W ct hd us op hm qo qa fu au ns n ck n ck th hh a1 a2 a3 a4 a5 a6 a7 a8 a9 b0 b1 b2 b3 b4 b5 b6 b7 b8 b9 b10 (vp_updL og 0 (b9 k)) fo ad eu es) H := lp_P hW9 hP
  have hD : va_D A (lw_W ct hd us op hm qo qa fu au ns n ck n ck th hh a1 a2 a3 a4 a5 a6 a7 a8 a9 b0 b1 b2 b3 b4 b5 b6 b7 b8 b9 b10 (vp_updL og 0 (b9 k)) fo ad eu es) := lp_D hW9 hD
  refine lv_istore (lv' := [(5, .int 0), (4, .int (nI iv)), (3, .ref qo), (2, .ref hm), (1, .ref hd), (0, .ref b)]) hx hb d_L_law_842 hl (Nat.le_of_ble_eq_true rfl) rfl (fun ls hl => ?_)
  refine lv_aload_n hx hb d_L_law_844 rfl (lv_at hl 3 rfl) ?_
  refine lv_aload_n hx hb d_L_law_845 rfl (lv_at hl 5 rfl) ?_
  refine lv_iload hx hb d_L_law_846 (lv_at hl 1 rfl) ?_
  refine lv_iconst (v := 1) hx hb d_L_law_848 (by decide) ?_
  refine lv_iadd hx hb d_L_law_849 ?_
  refine sl_ld (j := iv) (d := 1) hx hb hX hbl hbA hS hL (by omega) d_L_law_850 ?_
  refine tp_i (hv1) ?_
  have hPc : va_P G classes [(hm, .inr (4, [.int th, .long ns.toInt64, .int ck, .long hh, .ref (qa 1), .ref (qa 2), .ref (qa 3), .ref (qa 4), .ref (qa 5), .ref (qa 6), .ref (qa 7), .ref (qa 8), .int (nI n), .ref (qa 9), .ref (qa 10), .ref (qa 11), .ref (qa 12), .ref (qa 13), .ref (qa 14), .ref (qa 15), .ref (qa 16), .ref (qa 17), .ref (qa 18), .ref (qa 19), .ref (qa 20)])), ((qa 12), .inl ((ct 0), 40, .inl b2)), ((qa 19), .inl ((ct 1), 40, .inr (.inl b9)))] H := hP.sub [0, 12, 19] rfl
  have hDc := hD.sub (ws' := [(hm, .inr (4, [.int th, .long ns.toInt64, .int ck, .long hh, .ref (qa 1), .ref (qa 2), .ref (qa 3), .ref (qa 4), .ref (qa 5), .ref (qa 6), .ref (qa 7), .ref (qa 8), .int (nI n), .ref (qa 9), .ref (qa 10), .ref (qa 11), .ref (qa 12), .ref (qa 13), .ref (qa 14), .ref (qa 15), .ref (qa 16), .ref (qa 17), .ref (qa 18), .ref (qa 19), .ref (qa 20)])), ((qa 12), .inl ((ct 0), 40, .inl b2)), ((qa 19), .inl ((ct 1), 40, .inr (.inl b9)))]) [0, 12, 19] (by decide) rfl
  refine wk_l (va_runV (As := [.int (nI k)]) (rest := []) ⟨hx, hb, hml, hown, hts⟩ (c_M_key1 l G ct H.size hm th ns.toInt64 ck hh (qa 1) (qa 2) (qa 3) (qa 4) (qa 5) (qa 6) (qa 7) (qa 8) (qa 9) (qa 10) (qa 11) (qa 12) (qa 13) (qa 14) (qa 15) (qa 16) (qa 17) (qa 18) (qa 19) (qa 20) n b2 b9 k m_hn m_hkn m_hf) (tb_V hw cy_M_key ww_864 ww_865 ww_866 rfl rfl ⟨Nat.le_of_ble_eq_true rfl, Nat.le_of_ble_eq_true rfl⟩) (wk_preV (ci := 4) (q0 := 0) hPc hK hDc rfl rfl) rfl rfl hl.1 rfl (lv_room (Nat.le_of_ble_eq_true rfl)) d_L_law_851 ⟨by omega, by omega⟩) hP hD hS hA [0, 12, 19] (by decide) rfl (fun _ => by simp only [List.map_cons, List.map_nil]) (fun _ H locs ok1075 hP hD hS => ?_)
  have hP : va_P G classes (lw_W ct hd us op hm qo qa fu au ns n ck n ck 0 hh a1 a2 a3 a4 a5 a6 a7 a8 a9 b0 b1 b2 b3 b4 b5 b6 b7 b8 b9 b10 (vp_updL og 0 (b9 k)) fo ad eu es) H := hP
  have hD : va_D A (lw_W ct hd us op hm qo qa fu au ns n ck n ck 0 hh a1 a2 a3 a4 a5 a6 a7 a8 a9 b0 b1 b2 b3 b4 b5 b6 b7 b8 b9 b10 (vp_updL og 0 (b9 k)) fo ad eu es) := hD
  refine lv_lstore (lv' := [(6, .long (b9 k)), (5, .int 0), (4, .int (nI iv)), (3, .ref qo), (2, .ref hm), (1, .ref hd), (0, .ref b)]) hx hb d_L_law_854 hl (Nat.le_of_ble_eq_true rfl) rfl (fun ls hl => ?_)
  refine lv_aload_n hx hb d_L_law_856 rfl (lv_at hl 4 rfl) ?_
  have hPc : va_P G classes [(hm, .inr (4, [.int 0, .long ns.toInt64, .int ck, .long hh, .ref (qa 1), .ref (qa 2), .ref (qa 3), .ref (qa 4), .ref (qa 5), .ref (qa 6), .ref (qa 7), .ref (qa 8), .int (nI n), .ref (qa 9), .ref (qa 10), .ref (qa 11), .ref (qa 12), .ref (qa 13), .ref (qa 14), .ref (qa 15), .ref (qa 16), .ref (qa 17), .ref (qa 18), .ref (qa 19), .ref (qa 20)]))] H := hP.sub [0] rfl
  have hDc := hD.sub (ws' := [(hm, .inr (4, [.int 0, .long ns.toInt64, .int ck, .long hh, .ref (qa 1), .ref (qa 2), .ref (qa 3), .ref (qa 4), .ref (qa 5), .ref (qa 6), .ref (qa 7), .ref (qa 8), .int (nI n), .ref (qa 9), .ref (qa 10), .ref (qa 11), .ref (qa 12), .ref (qa 13), .ref (qa 14), .ref (qa 15), .ref (qa 16), .ref (qa 17), .ref (qa 18), .ref (qa 19), .ref (qa 20)]))]) [0] (by decide) rfl
  refine vp_callSi (W.runV (As := []) (rest := []) ⟨hx, hb, hml, hown, hts⟩ (c_M_thrown l G ct H.size hm 0 ns.toInt64 ck hh (qa 1) (qa 2) (qa 3) (qa 4) (qa 5) (qa 6) (qa 7) (qa 8) (qa 9) (qa 10) (qa 11) (qa 12) (qa 13) (qa 14) (qa 15) (qa 16) (qa 17) (qa 18) (qa 19) (qa 20) n) (tb_V hw cy_M_thrown ww_719 ww_720 ww_721 rfl rfl ⟨Nat.le_of_ble_eq_true rfl, Nat.le_of_ble_eq_true rfl⟩) (wk_preV (ci := 4) (q0 := 0) hPc hK hDc rfl rfl) rfl rfl hl.1 rfl (lv_room (Nat.le_of_ble_eq_true rfl)) d_L_law_857 ⟨by omega, by omega⟩) (fun r1076 er1076 => ?_)
  subst er1076
  refine lv_iload hx hb d_L_law_860 (lv_at hl 1 rfl) ?_
  refine lv_icmp_eq (tgt := 867) hx hb d_L_law_862 (by decide) (fun h1077 => ?_) (fun h1077 => ?_)
  · refine lv_iload hx hb d_L_law_867 (lv_at hl 1 rfl) ?_
    refine lv_if_ne (tgt := 883) hx hb d_L_law_869 (by decide) (fun h1078 => ?_) (fun h1078 => ?_)
    · exact absurd h1078 (by decide)
    · refine lv_aload_n hx hb d_L_law_872 rfl (lv_at hl 3 rfl) ?_
      refine lv_iconst (v := 0) hx hb d_L_law_873 (by decide) ?_
      refine ra_ll hx hb hK.1 hP 21 1 rfl rfl (k := 0) (by omega) (by decide) d_L_law_874 ?_
      refine tp_l (ul_se _ _ _) ?_
      refine lv_lload hx hb d_L_law_875 (lv_at hl 0 rfl) ?_
      refine W.lcmp hx hb d_L_law_877 ?_
      refine lv_if_eq (tgt := 883) hx hb d_L_law_878 (by decide) (fun h1079 => ?_) (fun h1079 => ?_)
      · have h1079 := (lg_cmp_eq _ _).mp h1079
        refine lv_goto (tgt := 1005) hx hb d_L_law_883 (by decide) ?_
        refine W.widen (k := cells + 1) (n := slots + 13) (by omega) (by omega) ?_
        exact kk n ck 0 hh a1 a2 a3 a4 a5 a6 a7 a8 a9 b0 b1 b2 b3 b4 b5 b6 b7 b8 b9 b10 (vp_updL og 0 (b9 k)) fo ad eu es H locs _ hnew hP hD hS (lv_sub hl [2, 3, 4, 5, 6] rfl)
      · have h1079 := fun q => h1079 ((lg_cmp_eq _ _).mpr q)
        exact absurd rfl h1079
  · exact absurd h1077 (by decide)
set_option maxHeartbeats 4000000 in
set_option maxRecDepth 100000 in
theorem lq_key2V {k : Nat} {u : Nat} {sec : Nat} {x : Nat} {y : Nat} {rc : Nat} {c1 : Int64} {c2 : Int64} (C0 : lc_C p l s m meth c b L xs G ct A) (hiv : iv + 7 ≤ L) (hcc : cells + 1 ≤ room_1.cells) (hzz : slots + 13 ≤ room_1.slots)
    (hP : va_P G classes (lw_W ct hd us op hm qo qa fu au ns n ck n ck th hh a1 a2 a3 a4 a5 a6 a7 a8 a9 b0 b1 b2 b3 b4 b5 b6 b7 b8 b9 b10 og fo ad eu es) H) (hD : va_D A (lw_W ct hd us op hm qo qa fu au ns n ck n ck th hh a1 a2 a3 a4 a5 a6 a7 a8 a9 b0 b1 b2 b3 b4 b5 b6 b7 b8 b9 b10 og fo ad eu es)) (hS : va_S A s.heap H locs) (hl : lv_has ls 8 [(4, .int (nI iv)), (3, .ref qo), (2, .ref hm), (1, .ref hd), (0, .ref b)])
    (kk : lc_K p l e s m below meth c b L xs G ct A hd us op hm qo qa fu au ns iv (cells + 1) (slots + 13) Q)
    (hv1 : xs (iv + 1) = nI k) (hkn : k < n) (hes : es k = .inr (3, [.ref (au u), .int (b0 k), .long (lN sec), .int (b3 k), .int (b2 k), .long (lN x), .long (lN y), .long (b9 k), .long c1, .long c2, .long (b10 k), .long (lN rc)])) (d_hn : n ≤ 40) (d_hkn : k < n) (d_hfo : fo k = some (ad k)) (d_hst : ¬ (b2 k) = 2) (m_hn : n ≤ 40) (m_hkn : k < n) (m_hf : ¬ b2 k = 2)  (hnew : li_R fu au ns n a1 a2 a3 a4 a5 a6 a7 a8 a9 b0 b1 b2 b3 b4 b5 b6 b7 b8 b9 b10 fo ad eu es)  : W p l e room_1 s m #[Value.ref b] below meth c H locs cells slots Q (F0 m 831 ls []) := by
  obtain ⟨hx, hb, hr, hml, hown, hw, hK, hZ, hR, hN, hfl, hA, hbA, hX, hbl, hL, hlocks⟩ := C0
  have hts := hw
  have hP : va_P G classes (lw_W ct hd us op hm qo qa fu au ns n ck n ck th hh a1 a2 a3 a4 a5 a6 a7 a8 a9 b0 b1 b2 b3 b4 b5 b6 b7 b8 b9 b10 og fo ad eu es) H := hP
  have hD : va_D A (lw_W ct hd us op hm qo qa fu au ns n ck n ck th hh a1 a2 a3 a4 a5 a6 a7 a8 a9 b0 b1 b2 b3 b4 b5 b6 b7 b8 b9 b10 og fo ad eu es) := hD
  refine lv_aload_n hx hb d_L_law_831 rfl (lv_at hl 3 rfl) ?_
  refine lv_aload_n hx hb d_L_law_832 rfl (lv_at hl 4 rfl) ?_
  refine lv_iload hx hb d_L_law_833 (lv_at hl 0 rfl) ?_
  refine lv_iconst (v := 1) hx hb d_L_law_835 (by decide) ?_
  refine lv_iadd hx hb d_L_law_836 ?_
  refine sl_ld (j := iv) (d := 1) hx hb hX hbl hbA hS hL (by omega) d_L_law_837 ?_
  refine tp_i (hv1) ?_
  refine lv_aload_n hx hb d_L_law_838 rfl (lv_at hl 1 rfl) ?_
  have hC9 : List.map (fun i => ((lw_W ct hd us op hm qo qa fu au ns n ck n ck th hh a1 a2 a3 a4 a5 a6 a7 a8 a9 b0 b1 b2 b3 b4 b5 b6 b7 b8 b9 b10 og fo ad eu es) : va_W)[i]?) [22, 24, 25 + (8 + k), 21] = List.map some ([(hd, .inr (0, [.ref us, .ref op, .int (nI n), .int ck])), (op, .inl ((ct 4), 40, .inr (.inr (.inr (.inr fo))))), ((ad k), .inr (3, [.ref (au u), .int (b0 k), .long (lN sec), .int (b3 k), .int (b2 k), .long (lN x), .long (lN y), .long (b9 k), .long c1, .long c2, .long (b10 k), .long (lN rc)])), (qo, .inl ((ct 1), 1, .inr (.inl og)))] : va_W) := (wc_c rfl (wc_c rfl (wc_c (lw_s rfl hkn hes) (wc_c rfl rfl))))
  have hn9 : va_nd [22, 24, 25 + (8 + k), 21] = true := (nd_c (by simp only [List.mem_cons, List.not_mem_nil, or_false]; omega) (nd_c (by simp only [List.mem_cons, List.not_mem_nil, or_false]; omega) (nd_c (by simp only [List.mem_cons, List.not_mem_nil, or_false]; omega) (nd_c List.not_mem_nil rfl))))
  have hPc : va_P G classes [(hd, .inr (0, [.ref us, .ref op, .int (nI n), .int ck])), (op, .inl ((ct 4), 40, .inr (.inr (.inr (.inr fo))))), ((ad k), .inr (3, [.ref (au u), .int (b0 k), .long (lN sec), .int (b3 k), .int (b2 k), .long (lN x), .long (lN y), .long (b9 k), .long c1, .long c2, .long (b10 k), .long (lN rc)])), (qo, .inl ((ct 1), 1, .inr (.inl og)))] H := lp_sub hP [22, 24, 25 + (8 + k), 21] hC9
  have hDc := hD.sub (ws' := [(hd, .inr (0, [.ref us, .ref op, .int (nI n), .int ck])), (op, .inl ((ct 4), 40, .inr (.inr (.inr (.inr fo))))), ((ad k), .inr (3, [.ref (au u), .int (b0 k), .long (lN sec), .int (b3 k), .int (b2 k), .long (lN x), .long (lN y), .long (b9 k), .long c1, .long c2, .long (b10 k), .long (lN rc)])), (qo, .inl ((ct 1), 1, .inr (.inl og)))]) [22, 24, 25 + (8 + k), 21] hn9 hC9
  have hW9 : wk_sets ((lw_W ct hd us op hm qo qa fu au ns n ck n ck th hh a1 a2 a3 a4 a5 a6 a7 a8 a9 b0 b1 b2 b3 b4 b5 b6 b7 b8 b9 b10 og fo ad eu es) : va_W) [22, 24, 25 + (8 + k), 21] ([(hd, .inr (0, [.ref us, .ref op, .int (nI n), .int ck])), (op, .inl ((ct 4), 40, .inr (.inr (.inr (.inr fo))))), ((ad k), .inr (3, [.ref (au u), .int (b0 k), .long (lN sec), .int (b3 k), .int (b2 k), .long (lN x), .long (lN y), .long (b9 k), .long c1, .long c2, .long (b10 k), .long (lN rc)])), (qo, .inl ((ct 1), 1, .inr (.inl og)))] : va_W) = ((lw_W ct hd us op hm qo qa fu au ns n ck n ck th hh a1 a2 a3 a4 a5 a6 a7 a8 a9 b0 b1 b2 b3 b4 b5 b6 b7 b8 b9 b10 og fo ad eu es) : va_W) := (ws_k rfl (ws_k rfl (ws_k (lw_s rfl hkn hes) (ws_k rfl rfl))))
  refine wk_i (sh_run (As := [.ref hd, .int (nI k), .ref qo]) (rest := []) (hs := [(0, 8, 11, 25), (0, 8, 14, 15)]) ⟨hx, hb, hml, hown, hts⟩ (c_L_key2V l hfl G ct H.size hd us op n ck fo k (ad k) (au u) (b0 k) sec (b3 k) (b2 k) x y (b9 k) c1 c2 (b10 k) rc qo og d_hn d_hkn d_hfo d_hst) wk_ret ⟨hw, ww_620, ww_0, ⟨by decide, by decide⟩, np_L_key, ww_618, ww_619, rfl, rfl, Nat.le_of_ble_eq_true rfl, Nat.le_of_ble_eq_true rfl⟩ (wk_pre5 hPc hK hDc hD hS hA [22, 24, 25 + (8 + k), 21] hC9 hZ hR hN) rfl hl.1 rfl (lv_room (Nat.le_of_ble_eq_true rfl)) d_L_law_839 ⟨by omega, by omega⟩) hP hD hS hA [22, 24, 25 + (8 + k), 21] hn9 hC9 (fun _ => by simp only [List.map_cons, List.map_nil]) (fun _ H locs _ hP hD hS => ?_)
  have hP : va_P G classes (lw_W ct hd us op hm qo qa fu au ns n ck n ck th hh a1 a2 a3 a4 a5 a6 a7 a8 a9 b0 b1 b2 b3 b4 b5 b6 b7 b8 b9 b10 og fo ad eu es) H := lp_P hW9 hP
  have hD : va_D A (lw_W ct hd us op hm qo qa fu au ns n ck n ck th hh a1 a2 a3 a4 a5 a6 a7 a8 a9 b0 b1 b2 b3 b4 b5 b6 b7 b8 b9 b10 og fo ad eu es) := lp_D hW9 hD
  refine lv_istore (lv' := [(5, .int 2), (4, .int (nI iv)), (3, .ref qo), (2, .ref hm), (1, .ref hd), (0, .ref b)]) hx hb d_L_law_842 hl (Nat.le_of_ble_eq_true rfl) rfl (fun ls hl => ?_)
  refine lv_aload_n hx hb d_L_law_844 rfl (lv_at hl 3 rfl) ?_
  refine lv_aload_n hx hb d_L_law_845 rfl (lv_at hl 5 rfl) ?_
  refine lv_iload hx hb d_L_law_846 (lv_at hl 1 rfl) ?_
  refine lv_iconst (v := 1) hx hb d_L_law_848 (by decide) ?_
  refine lv_iadd hx hb d_L_law_849 ?_
  refine sl_ld (j := iv) (d := 1) hx hb hX hbl hbA hS hL (by omega) d_L_law_850 ?_
  refine tp_i (hv1) ?_
  have hPc : va_P G classes [(hm, .inr (4, [.int th, .long ns.toInt64, .int ck, .long hh, .ref (qa 1), .ref (qa 2), .ref (qa 3), .ref (qa 4), .ref (qa 5), .ref (qa 6), .ref (qa 7), .ref (qa 8), .int (nI n), .ref (qa 9), .ref (qa 10), .ref (qa 11), .ref (qa 12), .ref (qa 13), .ref (qa 14), .ref (qa 15), .ref (qa 16), .ref (qa 17), .ref (qa 18), .ref (qa 19), .ref (qa 20)])), ((qa 12), .inl ((ct 0), 40, .inl b2)), ((qa 19), .inl ((ct 1), 40, .inr (.inl b9)))] H := hP.sub [0, 12, 19] rfl
  have hDc := hD.sub (ws' := [(hm, .inr (4, [.int th, .long ns.toInt64, .int ck, .long hh, .ref (qa 1), .ref (qa 2), .ref (qa 3), .ref (qa 4), .ref (qa 5), .ref (qa 6), .ref (qa 7), .ref (qa 8), .int (nI n), .ref (qa 9), .ref (qa 10), .ref (qa 11), .ref (qa 12), .ref (qa 13), .ref (qa 14), .ref (qa 15), .ref (qa 16), .ref (qa 17), .ref (qa 18), .ref (qa 19), .ref (qa 20)])), ((qa 12), .inl ((ct 0), 40, .inl b2)), ((qa 19), .inl ((ct 1), 40, .inr (.inl b9)))]) [0, 12, 19] (by decide) rfl
  refine wk_l (va_runV (As := [.int (nI k)]) (rest := []) ⟨hx, hb, hml, hown, hts⟩ (c_M_key2 l G ct H.size hm th ns.toInt64 ck hh (qa 1) (qa 2) (qa 3) (qa 4) (qa 5) (qa 6) (qa 7) (qa 8) (qa 9) (qa 10) (qa 11) (qa 12) (qa 13) (qa 14) (qa 15) (qa 16) (qa 17) (qa 18) (qa 19) (qa 20) n b2 b9 k m_hn m_hkn m_hf) (tb_V hw cy_M_key ww_864 ww_865 ww_866 rfl rfl ⟨Nat.le_of_ble_eq_true rfl, Nat.le_of_ble_eq_true rfl⟩) (wk_preV (ci := 4) (q0 := 0) hPc hK hDc rfl rfl) rfl rfl hl.1 rfl (lv_room (Nat.le_of_ble_eq_true rfl)) d_L_law_851 ⟨by omega, by omega⟩) hP hD hS hA [0, 12, 19] (by decide) rfl (fun _ => by simp only [List.map_cons, List.map_nil]) (fun _ H locs ok1080 hP hD hS => ?_)
  have hP : va_P G classes (lw_W ct hd us op hm qo qa fu au ns n ck n ck 2 hh a1 a2 a3 a4 a5 a6 a7 a8 a9 b0 b1 b2 b3 b4 b5 b6 b7 b8 b9 b10 og fo ad eu es) H := hP
  have hD : va_D A (lw_W ct hd us op hm qo qa fu au ns n ck n ck 2 hh a1 a2 a3 a4 a5 a6 a7 a8 a9 b0 b1 b2 b3 b4 b5 b6 b7 b8 b9 b10 og fo ad eu es) := hD
  refine lv_lstore (lv' := [(6, .long 0), (5, .int 2), (4, .int (nI iv)), (3, .ref qo), (2, .ref hm), (1, .ref hd), (0, .ref b)]) hx hb d_L_law_854 hl (Nat.le_of_ble_eq_true rfl) rfl (fun ls hl => ?_)
  refine lv_aload_n hx hb d_L_law_856 rfl (lv_at hl 4 rfl) ?_
  have hPc : va_P G classes [(hm, .inr (4, [.int 2, .long ns.toInt64, .int ck, .long hh, .ref (qa 1), .ref (qa 2), .ref (qa 3), .ref (qa 4), .ref (qa 5), .ref (qa 6), .ref (qa 7), .ref (qa 8), .int (nI n), .ref (qa 9), .ref (qa 10), .ref (qa 11), .ref (qa 12), .ref (qa 13), .ref (qa 14), .ref (qa 15), .ref (qa 16), .ref (qa 17), .ref (qa 18), .ref (qa 19), .ref (qa 20)]))] H := hP.sub [0] rfl
  have hDc := hD.sub (ws' := [(hm, .inr (4, [.int 2, .long ns.toInt64, .int ck, .long hh, .ref (qa 1), .ref (qa 2), .ref (qa 3), .ref (qa 4), .ref (qa 5), .ref (qa 6), .ref (qa 7), .ref (qa 8), .int (nI n), .ref (qa 9), .ref (qa 10), .ref (qa 11), .ref (qa 12), .ref (qa 13), .ref (qa 14), .ref (qa 15), .ref (qa 16), .ref (qa 17), .ref (qa 18), .ref (qa 19), .ref (qa 20)]))]) [0] (by decide) rfl
  refine vp_callSi (W.runV (As := []) (rest := []) ⟨hx, hb, hml, hown, hts⟩ (c_M_thrown l G ct H.size hm 2 ns.toInt64 ck hh (qa 1) (qa 2) (qa 3) (qa 4) (qa 5) (qa 6) (qa 7) (qa 8) (qa 9) (qa 10) (qa 11) (qa 12) (qa 13) (qa 14) (qa 15) (qa 16) (qa 17) (qa 18) (qa 19) (qa 20) n) (tb_V hw cy_M_thrown ww_719 ww_720 ww_721 rfl rfl ⟨Nat.le_of_ble_eq_true rfl, Nat.le_of_ble_eq_true rfl⟩) (wk_preV (ci := 4) (q0 := 0) hPc hK hDc rfl rfl) rfl rfl hl.1 rfl (lv_room (Nat.le_of_ble_eq_true rfl)) d_L_law_857 ⟨by omega, by omega⟩) (fun r1081 er1081 => ?_)
  subst er1081
  refine lv_iload hx hb d_L_law_860 (lv_at hl 1 rfl) ?_
  refine lv_icmp_eq (tgt := 867) hx hb d_L_law_862 (by decide) (fun h1082 => ?_) (fun h1082 => ?_)
  · refine lv_iload hx hb d_L_law_867 (lv_at hl 1 rfl) ?_
    refine lv_if_ne (tgt := 883) hx hb d_L_law_869 (by decide) (fun h1083 => ?_) (fun h1083 => ?_)
    · refine lv_goto (tgt := 1005) hx hb d_L_law_883 (by decide) ?_
      refine W.widen (k := cells + 1) (n := slots + 13) (by omega) (by omega) ?_
      exact kk n ck 2 hh a1 a2 a3 a4 a5 a6 a7 a8 a9 b0 b1 b2 b3 b4 b5 b6 b7 b8 b9 b10 og fo ad eu es H locs _ hnew hP hD hS (lv_sub hl [2, 3, 4, 5, 6] rfl)
    · exact absurd h1083 (by decide)
  · exact absurd h1082 (by decide)
set_option maxHeartbeats 4000000 in
set_option maxRecDepth 100000 in
theorem lq_client1W {k : Nat} {uo : Nat} {ul : Int64} {uv : Nat} (C0 : lc_C p l s m meth c b L xs G ct A) (hiv : iv + 7 ≤ L) (hcc : cells + 1 ≤ room_1.cells) (hzz : slots + 13 ≤ room_1.slots)
    (hP : va_P G classes (lw_W ct hd us op hm qo qa fu au ns n ck n ck th hh a1 a2 a3 a4 a5 a6 a7 a8 a9 b0 b1 b2 b3 b4 b5 b6 b7 b8 b9 b10 og fo ad eu es) H) (hD : va_D A (lw_W ct hd us op hm qo qa fu au ns n ck n ck th hh a1 a2 a3 a4 a5 a6 a7 a8 a9 b0 b1 b2 b3 b4 b5 b6 b7 b8 b9 b10 og fo ad eu es)) (hS : va_S A s.heap H locs) (hl : lv_has ls 8 [(4, .int (nI iv)), (3, .ref qo), (2, .ref hm), (1, .ref hd), (0, .ref b)])
    (kk : lc_K p l e s m below meth c b L xs G ct A hd us op hm qo qa fu au ns iv (cells + 1) (slots + 13) Q)
    (hv1 : xs (iv + 1) = nI k) (hk8 : k < 8) (heu : eu k = .inr (1, [.int (nI k), .int ns, .int (a1 k), .long (lN uo), .long ul, .long (lN uv), .int (a5 k), .int (a6 k), .int (a7 k), .int (a8 k)])) (d_hk : k < 8) (d_hfu : fu k = some (au k)) (d_hwi : wy_in (xs (iv + 2))) (d_hn : n < 40) (m_hk : k < 8) (m_hn : n < 40) (m_hwy : (xs (iv + 2)) = 0)  (hnew : ∀ q9 : Nat, li_R fu au ns (n + 1) a1 a2 a3 a4 a5 a6 a7 a8 (upd a9 n 0) (upd b0 n (xs (iv + 2))) (upd b1 n (nI k)) (upd b2 n 0) (upd b3 n ck) (vp_updL b4 n (lN (sc_n (lj (xs (iv + 5)) (xs (iv + 6)))))) (vp_updL b5 n (lj (xs (iv + 3)) (xs (iv + 4)))) (vp_updL b6 n (lN (wd_n (nI k) (lj (xs (iv + 3)) (xs (iv + 4)))))) (vp_updL b7 n (lN (pw_m 4 (sc_n (lj (xs (iv + 5)) (xs (iv + 6)))) * pw_m 9 (wd_n (nI k) (lj (xs (iv + 3)) (xs (iv + 4)))) % pq_P))) b8 b9 (vp_updL (vp_updL b10 n 0) n (lN (pw_m 4 (sc_n (lj (xs (iv + 5)) (xs (iv + 6)))) * pw_m 9 (wd_n (nI k) (lj (xs (iv + 3)) (xs (iv + 4)))) % pq_P))) (va_up fo n (some q9)) (va_up ad n q9) eu (va_up es n (.inr (2, [.ref (au k), .int (xs (iv + 2)), .long (lN (sc_n (lj (xs (iv + 5)) (xs (iv + 6))))), .int ck, .int 0, .long (lN (cl_x0 (xs (iv + 2)) (sc_n (lj (xs (iv + 5)) (xs (iv + 6)))) (wd_n (nI k) (lj (xs (iv + 3)) (xs (iv + 4)))))), .long (lN 0), .long 0, .long 0, .long 0, .long (lN (cl_x0 (xs (iv + 2)) (sc_n (lj (xs (iv + 5)) (xs (iv + 6)))) (wd_n (nI k) (lj (xs (iv + 3)) (xs (iv + 4)))))), .long (lj (xs (iv + 3)) (xs (iv + 4))), .long (lN (wd_n (nI k) (lj (xs (iv + 3)) (xs (iv + 4)))))]))))  : W p l e room_1 s m #[Value.ref b] below meth c H locs cells slots Q (F0 m 323 ls []) := by
  obtain ⟨hx, hb, hr, hml, hown, hw, hK, hZ, hR, hN, hfl, hA, hbA, hX, hbl, hL, hlocks⟩ := C0
  have hts := hw
  have hP : va_P G classes (lw_W ct hd us op hm qo qa fu au ns n ck n ck th hh a1 a2 a3 a4 a5 a6 a7 a8 a9 b0 b1 b2 b3 b4 b5 b6 b7 b8 b9 b10 og fo ad eu es) H := hP
  have hD : va_D A (lw_W ct hd us op hm qo qa fu au ns n ck n ck th hh a1 a2 a3 a4 a5 a6 a7 a8 a9 b0 b1 b2 b3 b4 b5 b6 b7 b8 b9 b10 og fo ad eu es) := hD
  refine lv_aload_n hx hb d_L_law_323 rfl (lv_at hl 3 rfl) ?_
  refine lv_aload_n hx hb d_L_law_324 rfl (lv_at hl 4 rfl) ?_
  refine lv_iload hx hb d_L_law_325 (lv_at hl 0 rfl) ?_
  refine lv_iconst (v := 1) hx hb d_L_law_327 (by decide) ?_
  refine lv_iadd hx hb d_L_law_328 ?_
  refine sl_ld (j := iv) (d := 1) hx hb hX hbl hbA hS hL (by omega) d_L_law_329 ?_
  refine tp_i (hv1) ?_
  refine lv_aload_n hx hb d_L_law_330 rfl (lv_at hl 4 rfl) ?_
  refine lv_iload hx hb d_L_law_331 (lv_at hl 0 rfl) ?_
  refine lv_iconst (v := 2) hx hb d_L_law_333 (by decide) ?_
  refine lv_iadd hx hb d_L_law_334 ?_
  refine sl_ld (j := iv) (d := 2) hx hb hX hbl hbA hS hL (by omega) d_L_law_335 ?_
  refine lv_aload_n hx hb d_L_law_336 rfl (lv_at hl 4 rfl) ?_
  refine lv_iload hx hb d_L_law_337 (lv_at hl 0 rfl) ?_
  refine lv_iconst (v := 3) hx hb d_L_law_339 (by decide) ?_
  refine lv_iadd hx hb d_L_law_340 ?_
  refine sl_ld (j := iv) (d := 3) hx hb hX hbl hbA hS hL (by omega) d_L_law_341 ?_
  refine lv_i2l (v := (xs (iv + 3)).toInt64) hx hb d_L_law_342 rfl ?_
  refine lv_bipush (v := 32) hx hb d_L_law_343 (by decide) ?_
  refine lv_lshl (v := ((xs (iv + 3)).toInt64) <<< ((32 : Int32).toInt64 &&& 63)) hx hb d_L_law_345 rfl ?_
  refine lv_aload_n hx hb d_L_law_346 rfl (lv_at hl 4 rfl) ?_
  refine lv_iload hx hb d_L_law_347 (lv_at hl 0 rfl) ?_
  refine lv_iconst (v := 4) hx hb d_L_law_349 (by decide) ?_
  refine lv_iadd hx hb d_L_law_350 ?_
  refine sl_ld (j := iv) (d := 4) hx hb hX hbl hbA hS hL (by omega) d_L_law_351 ?_
  refine lv_i2l (v := (xs (iv + 4)).toInt64) hx hb d_L_law_352 rfl ?_
  refine lv_ldc2 (v := 4294967295) hx hb hown (hw _ ww_884) d_L_law_353 ?_
  refine lv_land hx hb d_L_law_356 ?_
  refine lv_lor hx hb d_L_law_357 ?_
  refine tp_l (rfl) ?_
  refine lv_aload_n hx hb d_L_law_358 rfl (lv_at hl 4 rfl) ?_
  refine lv_iload hx hb d_L_law_359 (lv_at hl 0 rfl) ?_
  refine lv_iconst (v := 5) hx hb d_L_law_361 (by decide) ?_
  refine lv_iadd hx hb d_L_law_362 ?_
  refine sl_ld (j := iv) (d := 5) hx hb hX hbl hbA hS hL (by omega) d_L_law_363 ?_
  refine lv_i2l (v := (xs (iv + 5)).toInt64) hx hb d_L_law_364 rfl ?_
  refine lv_bipush (v := 32) hx hb d_L_law_365 (by decide) ?_
  refine lv_lshl (v := ((xs (iv + 5)).toInt64) <<< ((32 : Int32).toInt64 &&& 63)) hx hb d_L_law_367 rfl ?_
  refine lv_aload_n hx hb d_L_law_368 rfl (lv_at hl 4 rfl) ?_
  refine lv_iload hx hb d_L_law_369 (lv_at hl 0 rfl) ?_
  refine lv_bipush (v := 6) hx hb d_L_law_371 (by decide) ?_
  refine lv_iadd hx hb d_L_law_373 ?_
  refine sl_ld (j := iv) (d := 6) hx hb hX hbl hbA hS hL (by omega) d_L_law_374 ?_
  refine lv_i2l (v := (xs (iv + 6)).toInt64) hx hb d_L_law_375 rfl ?_
  refine lv_ldc2 (v := 4294967295) hx hb hown (hw _ ww_884) d_L_law_376 ?_
  refine lv_land hx hb d_L_law_379 ?_
  refine lv_lor hx hb d_L_law_380 ?_
  refine tp_l (rfl) ?_
  refine lv_aload_n hx hb d_L_law_381 rfl (lv_at hl 1 rfl) ?_
  have hC9 : List.map (fun i => ((lw_W ct hd us op hm qo qa fu au ns n ck n ck th hh a1 a2 a3 a4 a5 a6 a7 a8 a9 b0 b1 b2 b3 b4 b5 b6 b7 b8 b9 b10 og fo ad eu es) : va_W)[i]?) [22, 23, 24, 25 + k, 21] = List.map some ([(hd, .inr (0, [.ref us, .ref op, .int (nI n), .int ck])), (us, .inl ((ct 3), 8, .inr (.inr (.inr (.inr fu))))), (op, .inl ((ct 4), 40, .inr (.inr (.inr (.inr fo))))), ((au k), .inr (1, [.int (nI k), .int ns, .int (a1 k), .long (lN uo), .long ul, .long (lN uv), .int (a5 k), .int (a6 k), .int (a7 k), .int (a8 k)])), (qo, .inl ((ct 1), 1, .inr (.inl og)))] : va_W) := (wc_c rfl (wc_c rfl (wc_c rfl (wc_c (lw_u rfl hk8 heu) (wc_c rfl rfl)))))
  have hn9 : va_nd [22, 23, 24, 25 + k, 21] = true := (nd_c (by simp only [List.mem_cons, List.not_mem_nil, or_false]; omega) (nd_c (by simp only [List.mem_cons, List.not_mem_nil, or_false]; omega) (nd_c (by simp only [List.mem_cons, List.not_mem_nil, or_false]; omega) (nd_c (by simp only [List.mem_cons, List.not_mem_nil, or_false]; omega) (nd_c List.not_mem_nil rfl)))))
  have hPc : va_P G classes [(hd, .inr (0, [.ref us, .ref op, .int (nI n), .int ck])), (us, .inl ((ct 3), 8, .inr (.inr (.inr (.inr fu))))), (op, .inl ((ct 4), 40, .inr (.inr (.inr (.inr fo))))), ((au k), .inr (1, [.int (nI k), .int ns, .int (a1 k), .long (lN uo), .long ul, .long (lN uv), .int (a5 k), .int (a6 k), .int (a7 k), .int (a8 k)])), (qo, .inl ((ct 1), 1, .inr (.inl og)))] H := lp_sub hP [22, 23, 24, 25 + k, 21] hC9
  have hDc := hD.sub (ws' := [(hd, .inr (0, [.ref us, .ref op, .int (nI n), .int ck])), (us, .inl ((ct 3), 8, .inr (.inr (.inr (.inr fu))))), (op, .inl ((ct 4), 40, .inr (.inr (.inr (.inr fo))))), ((au k), .inr (1, [.int (nI k), .int ns, .int (a1 k), .long (lN uo), .long ul, .long (lN uv), .int (a5 k), .int (a6 k), .int (a7 k), .int (a8 k)])), (qo, .inl ((ct 1), 1, .inr (.inl og)))]) [22, 23, 24, 25 + k, 21] hn9 hC9
  have hW9 : ∀ q9 : Nat, wk_sets ((lw_W ct hd us op hm qo qa fu au ns n ck n ck th hh a1 a2 a3 a4 a5 a6 a7 a8 a9 b0 b1 b2 b3 b4 b5 b6 b7 b8 b9 b10 og fo ad eu es) : va_W) [22, 23, 24, 25 + k, 21] ([(hd, .inr (0, [.ref us, .ref op, .int (nI (n + 1)), .int ck])), (us, .inl ((ct 3), 8, .inr (.inr (.inr (.inr fu))))), (op, .inl ((ct 4), 40, .inr (.inr (.inr (.inr (va_up fo n (some q9))))))), ((au k), .inr (1, [.int (nI k), .int ns, .int (a1 k), .long (lN uo), .long ul, .long (lN uv), .int (a5 k), .int (a6 k), .int (a7 k), .int (a8 k)])), (qo, .inl ((ct 1), 1, .inr (.inl (vp_updL og 0 ((nI n).toInt64)))))] : va_W) ++ ([(q9, .inr (2, [.ref (au k), .int (xs (iv + 2)), .long (lN (sc_n (lj (xs (iv + 5)) (xs (iv + 6))))), .int ck, .int 0, .long (lN (cl_x0 (xs (iv + 2)) (sc_n (lj (xs (iv + 5)) (xs (iv + 6)))) (wd_n (nI k) (lj (xs (iv + 3)) (xs (iv + 4)))))), .long (lN 0), .long 0, .long 0, .long 0, .long (lN (cl_x0 (xs (iv + 2)) (sc_n (lj (xs (iv + 5)) (xs (iv + 6)))) (wd_n (nI k) (lj (xs (iv + 3)) (xs (iv + 4)))))), .long (lj (xs (iv + 3)) (xs (iv + 4))), .long (lN (wd_n (nI k) (lj (xs (iv + 3)) (xs (iv + 4)))))]))] : va_W) = ((lw_W ct hd us op hm qo qa fu au ns (n + 1) ck n ck th hh a1 a2 a3 a4 a5 a6 a7 a8 a9 b0 b1 b2 b3 b4 b5 b6 b7 b8 b9 b10 (vp_updL og 0 ((nI n).toInt64)) (va_up fo n (some q9)) (va_up ad n q9) eu (va_up es n (.inr (2, [.ref (au k), .int (xs (iv + 2)), .long (lN (sc_n (lj (xs (iv + 5)) (xs (iv + 6))))), .int ck, .int 0, .long (lN (cl_x0 (xs (iv + 2)) (sc_n (lj (xs (iv + 5)) (xs (iv + 6)))) (wd_n (nI k) (lj (xs (iv + 3)) (xs (iv + 4)))))), .long (lN 0), .long 0, .long 0, .long 0, .long (lN (cl_x0 (xs (iv + 2)) (sc_n (lj (xs (iv + 5)) (xs (iv + 6)))) (wd_n (nI k) (lj (xs (iv + 3)) (xs (iv + 4)))))), .long (lj (xs (iv + 3)) (xs (iv + 4))), .long (lN (wd_n (nI k) (lj (xs (iv + 3)) (xs (iv + 4)))))])))) : va_W) := fun q9 => (congrArg (· ++ ([(q9, .inr (2, [.ref (au k), .int (xs (iv + 2)), .long (lN (sc_n (lj (xs (iv + 5)) (xs (iv + 6))))), .int ck, .int 0, .long (lN (cl_x0 (xs (iv + 2)) (sc_n (lj (xs (iv + 5)) (xs (iv + 6)))) (wd_n (nI k) (lj (xs (iv + 3)) (xs (iv + 4)))))), .long (lN 0), .long 0, .long 0, .long 0, .long (lN (cl_x0 (xs (iv + 2)) (sc_n (lj (xs (iv + 5)) (xs (iv + 6)))) (wd_n (nI k) (lj (xs (iv + 3)) (xs (iv + 4)))))), .long (lj (xs (iv + 3)) (xs (iv + 4))), .long (lN (wd_n (nI k) (lj (xs (iv + 3)) (xs (iv + 4)))))]))] : va_W)) (show wk_sets ((lw_W ct hd us op hm qo qa fu au ns n ck n ck th hh a1 a2 a3 a4 a5 a6 a7 a8 a9 b0 b1 b2 b3 b4 b5 b6 b7 b8 b9 b10 og fo ad eu es) : va_W) [22, 23, 24, 25 + k, 21] ([(hd, .inr (0, [.ref us, .ref op, .int (nI (n + 1)), .int ck])), (us, .inl ((ct 3), 8, .inr (.inr (.inr (.inr fu))))), (op, .inl ((ct 4), 40, .inr (.inr (.inr (.inr (va_up fo n (some q9))))))), ((au k), .inr (1, [.int (nI k), .int ns, .int (a1 k), .long (lN uo), .long ul, .long (lN uv), .int (a5 k), .int (a6 k), .int (a7 k), .int (a8 k)])), (qo, .inl ((ct 1), 1, .inr (.inl (vp_updL og 0 ((nI n).toInt64)))))] : va_W) = (([(hm, .inr (4, [.int th, .long ns.toInt64, .int ck, .long hh, .ref (qa 1), .ref (qa 2), .ref (qa 3), .ref (qa 4), .ref (qa 5), .ref (qa 6), .ref (qa 7), .ref (qa 8), .int (nI n), .ref (qa 9), .ref (qa 10), .ref (qa 11), .ref (qa 12), .ref (qa 13), .ref (qa 14), .ref (qa 15), .ref (qa 16), .ref (qa 17), .ref (qa 18), .ref (qa 19), .ref (qa 20)])), ((qa 1), .inl ((ct 0), 8, .inl a1)), ((qa 2), .inl ((ct 1), 8, .inr (.inl a2))), ((qa 3), .inl ((ct 1), 8, .inr (.inl a3))), ((qa 4), .inl ((ct 1), 8, .inr (.inl a4))), ((qa 5), .inl ((ct 0), 8, .inl a5)), ((qa 6), .inl ((ct 0), 8, .inl a6)), ((qa 7), .inl ((ct 0), 8, .inl a7)), ((qa 8), .inl ((ct 0), 8, .inl a8)), ((qa 9), .inl ((ct 2), 40, .inl a9)), ((qa 10), .inl ((ct 0), 40, .inl b0)), ((qa 11), .inl ((ct 0), 40, .inl b1)), ((qa 12), .inl ((ct 0), 40, .inl b2)), ((qa 13), .inl ((ct 0), 40, .inl b3)), ((qa 14), .inl ((ct 1), 40, .inr (.inl b4))), ((qa 15), .inl ((ct 1), 40, .inr (.inl b5))), ((qa 16), .inl ((ct 1), 40, .inr (.inl b6))), ((qa 17), .inl ((ct 1), 40, .inr (.inl b7))), ((qa 18), .inl ((ct 1), 40, .inr (.inl b8))), ((qa 19), .inl ((ct 1), 40, .inr (.inl b9))), ((qa 20), .inl ((ct 1), 40, .inr (.inl b10))), (qo, .inl ((ct 1), 1, .inr (.inl (vp_updL og 0 ((nI n).toInt64))))), (hd, .inr (0, [.ref us, .ref op, .int (nI (n + 1)), .int ck])), (us, .inl ((ct 3), 8, .inr (.inr (.inr (.inr fu))))), (op, .inl ((ct 4), 40, .inr (.inr (.inr (.inr (va_up fo n (some q9)))))))] ++ (ix_w 8 au eu ++ ix_w n ad es)) : va_W) from (ws_c (ws' := ([(hm, .inr (4, [.int th, .long ns.toInt64, .int ck, .long hh, .ref (qa 1), .ref (qa 2), .ref (qa 3), .ref (qa 4), .ref (qa 5), .ref (qa 6), .ref (qa 7), .ref (qa 8), .int (nI n), .ref (qa 9), .ref (qa 10), .ref (qa 11), .ref (qa 12), .ref (qa 13), .ref (qa 14), .ref (qa 15), .ref (qa 16), .ref (qa 17), .ref (qa 18), .ref (qa 19), .ref (qa 20)])), ((qa 1), .inl ((ct 0), 8, .inl a1)), ((qa 2), .inl ((ct 1), 8, .inr (.inl a2))), ((qa 3), .inl ((ct 1), 8, .inr (.inl a3))), ((qa 4), .inl ((ct 1), 8, .inr (.inl a4))), ((qa 5), .inl ((ct 0), 8, .inl a5)), ((qa 6), .inl ((ct 0), 8, .inl a6)), ((qa 7), .inl ((ct 0), 8, .inl a7)), ((qa 8), .inl ((ct 0), 8, .inl a8)), ((qa 9), .inl ((ct 2), 40, .inl a9)), ((qa 10), .inl ((ct 0), 40, .inl b0)), ((qa 11), .inl ((ct 0), 40, .inl b1)), ((qa 12), .inl ((ct 0), 40, .inl b2)), ((qa 13), .inl ((ct 0), 40, .inl b3)), ((qa 14), .inl ((ct 1), 40, .inr (.inl b4))), ((qa 15), .inl ((ct 1), 40, .inr (.inl b5))), ((qa 16), .inl ((ct 1), 40, .inr (.inl b6))), ((qa 17), .inl ((ct 1), 40, .inr (.inl b7))), ((qa 18), .inl ((ct 1), 40, .inr (.inl b8))), ((qa 19), .inl ((ct 1), 40, .inr (.inl b9))), ((qa 20), .inl ((ct 1), 40, .inr (.inl b10))), (qo, .inl ((ct 1), 1, .inr (.inl og))), (hd, .inr (0, [.ref us, .ref op, .int (nI (n + 1)), .int ck])), (us, .inl ((ct 3), 8, .inr (.inr (.inr (.inr fu))))), (op, .inl ((ct 4), 40, .inr (.inr (.inr (.inr fo)))))] ++ (ix_w 8 au eu ++ ix_w n ad es))) rfl (ws_k rfl (ws_c (ws' := ([(hm, .inr (4, [.int th, .long ns.toInt64, .int ck, .long hh, .ref (qa 1), .ref (qa 2), .ref (qa 3), .ref (qa 4), .ref (qa 5), .ref (qa 6), .ref (qa 7), .ref (qa 8), .int (nI n), .ref (qa 9), .ref (qa 10), .ref (qa 11), .ref (qa 12), .ref (qa 13), .ref (qa 14), .ref (qa 15), .ref (qa 16), .ref (qa 17), .ref (qa 18), .ref (qa 19), .ref (qa 20)])), ((qa 1), .inl ((ct 0), 8, .inl a1)), ((qa 2), .inl ((ct 1), 8, .inr (.inl a2))), ((qa 3), .inl ((ct 1), 8, .inr (.inl a3))), ((qa 4), .inl ((ct 1), 8, .inr (.inl a4))), ((qa 5), .inl ((ct 0), 8, .inl a5)), ((qa 6), .inl ((ct 0), 8, .inl a6)), ((qa 7), .inl ((ct 0), 8, .inl a7)), ((qa 8), .inl ((ct 0), 8, .inl a8)), ((qa 9), .inl ((ct 2), 40, .inl a9)), ((qa 10), .inl ((ct 0), 40, .inl b0)), ((qa 11), .inl ((ct 0), 40, .inl b1)), ((qa 12), .inl ((ct 0), 40, .inl b2)), ((qa 13), .inl ((ct 0), 40, .inl b3)), ((qa 14), .inl ((ct 1), 40, .inr (.inl b4))), ((qa 15), .inl ((ct 1), 40, .inr (.inl b5))), ((qa 16), .inl ((ct 1), 40, .inr (.inl b6))), ((qa 17), .inl ((ct 1), 40, .inr (.inl b7))), ((qa 18), .inl ((ct 1), 40, .inr (.inl b8))), ((qa 19), .inl ((ct 1), 40, .inr (.inl b9))), ((qa 20), .inl ((ct 1), 40, .inr (.inl b10))), (qo, .inl ((ct 1), 1, .inr (.inl og))), (hd, .inr (0, [.ref us, .ref op, .int (nI (n + 1)), .int ck])), (us, .inl ((ct 3), 8, .inr (.inr (.inr (.inr fu))))), (op, .inl ((ct 4), 40, .inr (.inr (.inr (.inr (va_up fo n (some q9)))))))] ++ (ix_w 8 au eu ++ ix_w n ad es))) rfl (ws_k (lw_u rfl hk8 heu) (ws_c (ws' := ([(hm, .inr (4, [.int th, .long ns.toInt64, .int ck, .long hh, .ref (qa 1), .ref (qa 2), .ref (qa 3), .ref (qa 4), .ref (qa 5), .ref (qa 6), .ref (qa 7), .ref (qa 8), .int (nI n), .ref (qa 9), .ref (qa 10), .ref (qa 11), .ref (qa 12), .ref (qa 13), .ref (qa 14), .ref (qa 15), .ref (qa 16), .ref (qa 17), .ref (qa 18), .ref (qa 19), .ref (qa 20)])), ((qa 1), .inl ((ct 0), 8, .inl a1)), ((qa 2), .inl ((ct 1), 8, .inr (.inl a2))), ((qa 3), .inl ((ct 1), 8, .inr (.inl a3))), ((qa 4), .inl ((ct 1), 8, .inr (.inl a4))), ((qa 5), .inl ((ct 0), 8, .inl a5)), ((qa 6), .inl ((ct 0), 8, .inl a6)), ((qa 7), .inl ((ct 0), 8, .inl a7)), ((qa 8), .inl ((ct 0), 8, .inl a8)), ((qa 9), .inl ((ct 2), 40, .inl a9)), ((qa 10), .inl ((ct 0), 40, .inl b0)), ((qa 11), .inl ((ct 0), 40, .inl b1)), ((qa 12), .inl ((ct 0), 40, .inl b2)), ((qa 13), .inl ((ct 0), 40, .inl b3)), ((qa 14), .inl ((ct 1), 40, .inr (.inl b4))), ((qa 15), .inl ((ct 1), 40, .inr (.inl b5))), ((qa 16), .inl ((ct 1), 40, .inr (.inl b6))), ((qa 17), .inl ((ct 1), 40, .inr (.inl b7))), ((qa 18), .inl ((ct 1), 40, .inr (.inl b8))), ((qa 19), .inl ((ct 1), 40, .inr (.inl b9))), ((qa 20), .inl ((ct 1), 40, .inr (.inl b10))), (qo, .inl ((ct 1), 1, .inr (.inl (vp_updL og 0 ((nI n).toInt64))))), (hd, .inr (0, [.ref us, .ref op, .int (nI (n + 1)), .int ck])), (us, .inl ((ct 3), 8, .inr (.inr (.inr (.inr fu))))), (op, .inl ((ct 4), 40, .inr (.inr (.inr (.inr (va_up fo n (some q9)))))))] ++ (ix_w 8 au eu ++ ix_w n ad es))) rfl rfl))))))).trans lw_push
  refine wk_iN (w1 := fun q9 : Nat => [(hd, .inr (0, [.ref us, .ref op, .int (nI (n + 1)), .int ck])), (us, .inl ((ct 3), 8, .inr (.inr (.inr (.inr fu))))), (op, .inl ((ct 4), 40, .inr (.inr (.inr (.inr (va_up fo n (some q9))))))), ((au k), .inr (1, [.int (nI k), .int ns, .int (a1 k), .long (lN uo), .long ul, .long (lN uv), .int (a5 k), .int (a6 k), .int (a7 k), .int (a8 k)])), (qo, .inl ((ct 1), 1, .inr (.inl (vp_updL og 0 ((nI n).toInt64)))))]) (w2 := fun q9 : Nat => [(q9, .inr (2, [.ref (au k), .int (xs (iv + 2)), .long (lN (sc_n (lj (xs (iv + 5)) (xs (iv + 6))))), .int ck, .int 0, .long (lN (cl_x0 (xs (iv + 2)) (sc_n (lj (xs (iv + 5)) (xs (iv + 6)))) (wd_n (nI k) (lj (xs (iv + 3)) (xs (iv + 4)))))), .long (lN 0), .long 0, .long 0, .long 0, .long (lN (cl_x0 (xs (iv + 2)) (sc_n (lj (xs (iv + 5)) (xs (iv + 6)))) (wd_n (nI k) (lj (xs (iv + 3)) (xs (iv + 4)))))), .long (lj (xs (iv + 3)) (xs (iv + 4))), .long (lN (wd_n (nI k) (lj (xs (iv + 3)) (xs (iv + 4)))))]))]) (sh_run (As := [.ref hd, .int (nI k), .int (xs (iv + 2)), .long (lj (xs (iv + 3)) (xs (iv + 4))), .long (lj (xs (iv + 5)) (xs (iv + 6))), .ref qo]) (rest := []) (hs := [(0, 14, 17, 13), (0, 14, 21, 15)]) ⟨hx, hb, hml, hown, hts⟩ (c_L_client1 l G ct H.size hd us op n ck fu fo (au k) k (nI k) ns (a1 k) uo ul uv (a5 k) (a6 k) (a7 k) (a8 k) (xs (iv + 2)) (lj (xs (iv + 3)) (xs (iv + 4))) (lj (xs (iv + 5)) (xs (iv + 6))) qo og d_hk d_hfu d_hwi d_hn) wk_ret ⟨hw, ww_185, ww_0, ⟨by decide, by decide⟩, np_L_client, ww_183, ww_184, rfl, rfl, Nat.le_of_ble_eq_true rfl, Nat.le_of_ble_eq_true rfl⟩ (wk_pre hPc hK hDc) rfl hl.1 rfl (lv_room (Nat.le_of_ble_eq_true rfl)) d_L_law_382 ⟨by omega, by omega⟩) hP hD hS hA [22, 23, 24, 25 + k, 21] hn9 hC9 (fun _ => by simp only [List.map_cons, List.map_nil]) (fun q9 H locs _ hP hD hS => ?_)
  have hW9 := hW9 q9
  have hP : va_P G classes (lw_W ct hd us op hm qo qa fu au ns (n + 1) ck n ck th hh a1 a2 a3 a4 a5 a6 a7 a8 a9 b0 b1 b2 b3 b4 b5 b6 b7 b8 b9 b10 (vp_updL og 0 ((nI n).toInt64)) (va_up fo n (some q9)) (va_up ad n q9) eu (va_up es n (.inr (2, [.ref (au k), .int (xs (iv + 2)), .long (lN (sc_n (lj (xs (iv + 5)) (xs (iv + 6))))), .int ck, .int 0, .long (lN (cl_x0 (xs (iv + 2)) (sc_n (lj (xs (iv + 5)) (xs (iv + 6)))) (wd_n (nI k) (lj (xs (iv + 3)) (xs (iv + 4)))))), .long (lN 0), .long 0, .long 0, .long 0, .long (lN (cl_x0 (xs (iv + 2)) (sc_n (lj (xs (iv + 5)) (xs (iv + 6)))) (wd_n (nI k) (lj (xs (iv + 3)) (xs (iv + 4)))))), .long (lj (xs (iv + 3)) (xs (iv + 4))), .long (lN (wd_n (nI k) (lj (xs (iv + 3)) (xs (iv + 4)))))])))) H := lp_P hW9 hP
  have hD : va_D A (lw_W ct hd us op hm qo qa fu au ns (n + 1) ck n ck th hh a1 a2 a3 a4 a5 a6 a7 a8 a9 b0 b1 b2 b3 b4 b5 b6 b7 b8 b9 b10 (vp_updL og 0 ((nI n).toInt64)) (va_up fo n (some q9)) (va_up ad n q9) eu (va_up es n (.inr (2, [.ref (au k), .int (xs (iv + 2)), .long (lN (sc_n (lj (xs (iv + 5)) (xs (iv + 6))))), .int ck, .int 0, .long (lN (cl_x0 (xs (iv + 2)) (sc_n (lj (xs (iv + 5)) (xs (iv + 6)))) (wd_n (nI k) (lj (xs (iv + 3)) (xs (iv + 4)))))), .long (lN 0), .long 0, .long 0, .long 0, .long (lN (cl_x0 (xs (iv + 2)) (sc_n (lj (xs (iv + 5)) (xs (iv + 6)))) (wd_n (nI k) (lj (xs (iv + 3)) (xs (iv + 4)))))), .long (lj (xs (iv + 3)) (xs (iv + 4))), .long (lN (wd_n (nI k) (lj (xs (iv + 3)) (xs (iv + 4)))))])))) := lp_D hW9 hD
  refine lv_istore (lv' := [(5, .int 0), (4, .int (nI iv)), (3, .ref qo), (2, .ref hm), (1, .ref hd), (0, .ref b)]) hx hb d_L_law_385 hl (Nat.le_of_ble_eq_true rfl) rfl (fun ls hl => ?_)
  refine lv_aload_n hx hb d_L_law_387 rfl (lv_at hl 3 rfl) ?_
  refine lv_aload_n hx hb d_L_law_388 rfl (lv_at hl 5 rfl) ?_
  refine lv_iload hx hb d_L_law_389 (lv_at hl 1 rfl) ?_
  refine lv_iconst (v := 1) hx hb d_L_law_391 (by decide) ?_
  refine lv_iadd hx hb d_L_law_392 ?_
  refine sl_ld (j := iv) (d := 1) hx hb hX hbl hbA hS hL (by omega) d_L_law_393 ?_
  refine tp_i (hv1) ?_
  refine lv_aload_n hx hb d_L_law_394 rfl (lv_at hl 5 rfl) ?_
  refine lv_iload hx hb d_L_law_395 (lv_at hl 1 rfl) ?_
  refine lv_iconst (v := 2) hx hb d_L_law_397 (by decide) ?_
  refine lv_iadd hx hb d_L_law_398 ?_
  refine sl_ld (j := iv) (d := 2) hx hb hX hbl hbA hS hL (by omega) d_L_law_399 ?_
  refine lv_aload_n hx hb d_L_law_400 rfl (lv_at hl 5 rfl) ?_
  refine lv_iload hx hb d_L_law_401 (lv_at hl 1 rfl) ?_
  refine lv_iconst (v := 3) hx hb d_L_law_403 (by decide) ?_
  refine lv_iadd hx hb d_L_law_404 ?_
  refine sl_ld (j := iv) (d := 3) hx hb hX hbl hbA hS hL (by omega) d_L_law_405 ?_
  refine lv_i2l (v := (xs (iv + 3)).toInt64) hx hb d_L_law_406 rfl ?_
  refine lv_bipush (v := 32) hx hb d_L_law_407 (by decide) ?_
  refine lv_lshl (v := ((xs (iv + 3)).toInt64) <<< ((32 : Int32).toInt64 &&& 63)) hx hb d_L_law_409 rfl ?_
  refine lv_aload_n hx hb d_L_law_410 rfl (lv_at hl 5 rfl) ?_
  refine lv_iload hx hb d_L_law_411 (lv_at hl 1 rfl) ?_
  refine lv_iconst (v := 4) hx hb d_L_law_413 (by decide) ?_
  refine lv_iadd hx hb d_L_law_414 ?_
  refine sl_ld (j := iv) (d := 4) hx hb hX hbl hbA hS hL (by omega) d_L_law_415 ?_
  refine lv_i2l (v := (xs (iv + 4)).toInt64) hx hb d_L_law_416 rfl ?_
  refine lv_ldc2 (v := 4294967295) hx hb hown (hw _ ww_884) d_L_law_417 ?_
  refine lv_land hx hb d_L_law_420 ?_
  refine lv_lor hx hb d_L_law_421 ?_
  refine tp_l (rfl) ?_
  refine lv_aload_n hx hb d_L_law_422 rfl (lv_at hl 5 rfl) ?_
  refine lv_iload hx hb d_L_law_423 (lv_at hl 1 rfl) ?_
  refine lv_iconst (v := 5) hx hb d_L_law_425 (by decide) ?_
  refine lv_iadd hx hb d_L_law_426 ?_
  refine sl_ld (j := iv) (d := 5) hx hb hX hbl hbA hS hL (by omega) d_L_law_427 ?_
  refine lv_i2l (v := (xs (iv + 5)).toInt64) hx hb d_L_law_428 rfl ?_
  refine lv_bipush (v := 32) hx hb d_L_law_429 (by decide) ?_
  refine lv_lshl (v := ((xs (iv + 5)).toInt64) <<< ((32 : Int32).toInt64 &&& 63)) hx hb d_L_law_431 rfl ?_
  refine lv_aload_n hx hb d_L_law_432 rfl (lv_at hl 5 rfl) ?_
  refine lv_iload hx hb d_L_law_433 (lv_at hl 1 rfl) ?_
  refine lv_bipush (v := 6) hx hb d_L_law_435 (by decide) ?_
  refine lv_iadd hx hb d_L_law_437 ?_
  refine sl_ld (j := iv) (d := 6) hx hb hX hbl hbA hS hL (by omega) d_L_law_438 ?_
  refine lv_i2l (v := (xs (iv + 6)).toInt64) hx hb d_L_law_439 rfl ?_
  refine lv_ldc2 (v := 4294967295) hx hb hown (hw _ ww_884) d_L_law_440 ?_
  refine lv_land hx hb d_L_law_443 ?_
  refine lv_lor hx hb d_L_law_444 ?_
  refine tp_l (rfl) ?_
  have hPc : va_P G classes [(hm, .inr (4, [.int th, .long ns.toInt64, .int ck, .long hh, .ref (qa 1), .ref (qa 2), .ref (qa 3), .ref (qa 4), .ref (qa 5), .ref (qa 6), .ref (qa 7), .ref (qa 8), .int (nI n), .ref (qa 9), .ref (qa 10), .ref (qa 11), .ref (qa 12), .ref (qa 13), .ref (qa 14), .ref (qa 15), .ref (qa 16), .ref (qa 17), .ref (qa 18), .ref (qa 19), .ref (qa 20)])), ((qa 9), .inl ((ct 2), 40, .inl a9)), ((qa 10), .inl ((ct 0), 40, .inl b0)), ((qa 11), .inl ((ct 0), 40, .inl b1)), ((qa 12), .inl ((ct 0), 40, .inl b2)), ((qa 13), .inl ((ct 0), 40, .inl b3)), ((qa 14), .inl ((ct 1), 40, .inr (.inl b4))), ((qa 15), .inl ((ct 1), 40, .inr (.inl b5))), ((qa 16), .inl ((ct 1), 40, .inr (.inl b6))), ((qa 17), .inl ((ct 1), 40, .inr (.inl b7))), ((qa 20), .inl ((ct 1), 40, .inr (.inl b10)))] H := hP.sub [0, 9, 10, 11, 12, 13, 14, 15, 16, 17, 20] rfl
  have hDc := hD.sub (ws' := [(hm, .inr (4, [.int th, .long ns.toInt64, .int ck, .long hh, .ref (qa 1), .ref (qa 2), .ref (qa 3), .ref (qa 4), .ref (qa 5), .ref (qa 6), .ref (qa 7), .ref (qa 8), .int (nI n), .ref (qa 9), .ref (qa 10), .ref (qa 11), .ref (qa 12), .ref (qa 13), .ref (qa 14), .ref (qa 15), .ref (qa 16), .ref (qa 17), .ref (qa 18), .ref (qa 19), .ref (qa 20)])), ((qa 9), .inl ((ct 2), 40, .inl a9)), ((qa 10), .inl ((ct 0), 40, .inl b0)), ((qa 11), .inl ((ct 0), 40, .inl b1)), ((qa 12), .inl ((ct 0), 40, .inl b2)), ((qa 13), .inl ((ct 0), 40, .inl b3)), ((qa 14), .inl ((ct 1), 40, .inr (.inl b4))), ((qa 15), .inl ((ct 1), 40, .inr (.inl b5))), ((qa 16), .inl ((ct 1), 40, .inr (.inl b6))), ((qa 17), .inl ((ct 1), 40, .inr (.inl b7))), ((qa 20), .inl ((ct 1), 40, .inr (.inl b10)))]) [0, 9, 10, 11, 12, 13, 14, 15, 16, 17, 20] (by decide) rfl
  refine wk_i (va_runV (As := [.int (nI k), .int (xs (iv + 2)), .long (lj (xs (iv + 3)) (xs (iv + 4))), .long (lj (xs (iv + 5)) (xs (iv + 6)))]) (rest := []) ⟨hx, hb, hml, hown, hts⟩ (c_M_client1W l G ct H.size hm th ns.toInt64 ck hh (qa 1) (qa 2) (qa 3) (qa 4) (qa 5) (qa 6) (qa 7) (qa 8) (qa 9) (qa 10) (qa 11) (qa 12) (qa 13) (qa 14) (qa 15) (qa 16) (qa 17) (qa 18) (qa 19) (qa 20) n a9 b0 b1 b2 b3 b4 b5 b6 b7 b10 k (xs (iv + 2)) (lj (xs (iv + 3)) (xs (iv + 4))) (lj (xs (iv + 5)) (xs (iv + 6))) m_hk m_hn m_hwy) (tb_V hw cy_M_client ww_787 ww_788 ww_789 rfl rfl ⟨Nat.le_of_ble_eq_true rfl, Nat.le_of_ble_eq_true rfl⟩) (wk_preV (ci := 4) (q0 := 0) hPc hK hDc rfl rfl) rfl rfl hl.1 rfl (lv_room (Nat.le_of_ble_eq_true rfl)) d_L_law_445 ⟨by omega, by omega⟩) hP hD hS hA [0, 9, 10, 11, 12, 13, 14, 15, 16, 17, 20] (by decide) rfl (fun _ => by simp only [List.map_cons, List.map_nil]) (fun z21084 H locs ok1085 hP hD hS => ?_)
  have hP : va_P G classes (lw_W ct hd us op hm qo qa fu au ns (n + 1) ck (n + 1) ck 0 z21084 a1 a2 a3 a4 a5 a6 a7 a8 (upd a9 n 0) (upd b0 n (xs (iv + 2))) (upd b1 n (nI k)) (upd b2 n 0) (upd b3 n ck) (vp_updL b4 n (lN (sc_n (lj (xs (iv + 5)) (xs (iv + 6)))))) (vp_updL b5 n (lj (xs (iv + 3)) (xs (iv + 4)))) (vp_updL b6 n (lN (wd_n (nI k) (lj (xs (iv + 3)) (xs (iv + 4)))))) (vp_updL b7 n (lN (pw_m 4 (sc_n (lj (xs (iv + 5)) (xs (iv + 6)))) * pw_m 9 (wd_n (nI k) (lj (xs (iv + 3)) (xs (iv + 4)))) % pq_P))) b8 b9 (vp_updL (vp_updL b10 n 0) n (lN (pw_m 4 (sc_n (lj (xs (iv + 5)) (xs (iv + 6)))) * pw_m 9 (wd_n (nI k) (lj (xs (iv + 3)) (xs (iv + 4)))) % pq_P))) (vp_updL og 0 ((nI n).toInt64)) (va_up fo n (some q9)) (va_up ad n q9) eu (va_up es n (.inr (2, [.ref (au k), .int (xs (iv + 2)), .long (lN (sc_n (lj (xs (iv + 5)) (xs (iv + 6))))), .int ck, .int 0, .long (lN (cl_x0 (xs (iv + 2)) (sc_n (lj (xs (iv + 5)) (xs (iv + 6)))) (wd_n (nI k) (lj (xs (iv + 3)) (xs (iv + 4)))))), .long (lN 0), .long 0, .long 0, .long 0, .long (lN (cl_x0 (xs (iv + 2)) (sc_n (lj (xs (iv + 5)) (xs (iv + 6)))) (wd_n (nI k) (lj (xs (iv + 3)) (xs (iv + 4)))))), .long (lj (xs (iv + 3)) (xs (iv + 4))), .long (lN (wd_n (nI k) (lj (xs (iv + 3)) (xs (iv + 4)))))])))) H := hP
  have hD : va_D A (lw_W ct hd us op hm qo qa fu au ns (n + 1) ck (n + 1) ck 0 z21084 a1 a2 a3 a4 a5 a6 a7 a8 (upd a9 n 0) (upd b0 n (xs (iv + 2))) (upd b1 n (nI k)) (upd b2 n 0) (upd b3 n ck) (vp_updL b4 n (lN (sc_n (lj (xs (iv + 5)) (xs (iv + 6)))))) (vp_updL b5 n (lj (xs (iv + 3)) (xs (iv + 4)))) (vp_updL b6 n (lN (wd_n (nI k) (lj (xs (iv + 3)) (xs (iv + 4)))))) (vp_updL b7 n (lN (pw_m 4 (sc_n (lj (xs (iv + 5)) (xs (iv + 6)))) * pw_m 9 (wd_n (nI k) (lj (xs (iv + 3)) (xs (iv + 4)))) % pq_P))) b8 b9 (vp_updL (vp_updL b10 n 0) n (lN (pw_m 4 (sc_n (lj (xs (iv + 5)) (xs (iv + 6)))) * pw_m 9 (wd_n (nI k) (lj (xs (iv + 3)) (xs (iv + 4)))) % pq_P))) (vp_updL og 0 ((nI n).toInt64)) (va_up fo n (some q9)) (va_up ad n q9) eu (va_up es n (.inr (2, [.ref (au k), .int (xs (iv + 2)), .long (lN (sc_n (lj (xs (iv + 5)) (xs (iv + 6))))), .int ck, .int 0, .long (lN (cl_x0 (xs (iv + 2)) (sc_n (lj (xs (iv + 5)) (xs (iv + 6)))) (wd_n (nI k) (lj (xs (iv + 3)) (xs (iv + 4)))))), .long (lN 0), .long 0, .long 0, .long 0, .long (lN (cl_x0 (xs (iv + 2)) (sc_n (lj (xs (iv + 5)) (xs (iv + 6)))) (wd_n (nI k) (lj (xs (iv + 3)) (xs (iv + 4)))))), .long (lj (xs (iv + 3)) (xs (iv + 4))), .long (lN (wd_n (nI k) (lj (xs (iv + 3)) (xs (iv + 4)))))])))) := hD
  refine lv_istore (lv' := [(6, .int (nI n)), (5, .int 0), (4, .int (nI iv)), (3, .ref qo), (2, .ref hm), (1, .ref hd), (0, .ref b)]) hx hb d_L_law_448 hl (Nat.le_of_ble_eq_true rfl) rfl (fun ls hl => ?_)
  refine lv_aload_n hx hb d_L_law_450 rfl (lv_at hl 4 rfl) ?_
  have hPc : va_P G classes [(hm, .inr (4, [.int 0, .long ns.toInt64, .int ck, .long z21084, .ref (qa 1), .ref (qa 2), .ref (qa 3), .ref (qa 4), .ref (qa 5), .ref (qa 6), .ref (qa 7), .ref (qa 8), .int (nI (n + 1)), .ref (qa 9), .ref (qa 10), .ref (qa 11), .ref (qa 12), .ref (qa 13), .ref (qa 14), .ref (qa 15), .ref (qa 16), .ref (qa 17), .ref (qa 18), .ref (qa 19), .ref (qa 20)]))] H := hP.sub [0] rfl
  have hDc := hD.sub (ws' := [(hm, .inr (4, [.int 0, .long ns.toInt64, .int ck, .long z21084, .ref (qa 1), .ref (qa 2), .ref (qa 3), .ref (qa 4), .ref (qa 5), .ref (qa 6), .ref (qa 7), .ref (qa 8), .int (nI (n + 1)), .ref (qa 9), .ref (qa 10), .ref (qa 11), .ref (qa 12), .ref (qa 13), .ref (qa 14), .ref (qa 15), .ref (qa 16), .ref (qa 17), .ref (qa 18), .ref (qa 19), .ref (qa 20)]))]) [0] (by decide) rfl
  refine vp_callSi (W.runV (As := []) (rest := []) ⟨hx, hb, hml, hown, hts⟩ (c_M_thrown l G ct H.size hm 0 ns.toInt64 ck z21084 (qa 1) (qa 2) (qa 3) (qa 4) (qa 5) (qa 6) (qa 7) (qa 8) (qa 9) (qa 10) (qa 11) (qa 12) (qa 13) (qa 14) (qa 15) (qa 16) (qa 17) (qa 18) (qa 19) (qa 20) (n + 1)) (tb_V hw cy_M_thrown ww_719 ww_720 ww_721 rfl rfl ⟨Nat.le_of_ble_eq_true rfl, Nat.le_of_ble_eq_true rfl⟩) (wk_preV (ci := 4) (q0 := 0) hPc hK hDc rfl rfl) rfl rfl hl.1 rfl (lv_room (Nat.le_of_ble_eq_true rfl)) d_L_law_451 ⟨by omega, by omega⟩) (fun r1086 er1086 => ?_)
  subst er1086
  refine lv_iload hx hb d_L_law_454 (lv_at hl 1 rfl) ?_
  refine lv_icmp_eq (tgt := 461) hx hb d_L_law_456 (by decide) (fun h1087 => ?_) (fun h1087 => ?_)
  · refine lv_iload hx hb d_L_law_461 (lv_at hl 1 rfl) ?_
    refine lv_if_ne (tgt := 478) hx hb d_L_law_463 (by decide) (fun h1088 => ?_) (fun h1088 => ?_)
    · exact absurd h1088 (by decide)
    · refine lv_aload_n hx hb d_L_law_466 rfl (lv_at hl 3 rfl) ?_
      refine lv_iconst (v := 0) hx hb d_L_law_467 (by decide) ?_
      refine ra_ll hx hb hK.1 hP 21 1 rfl rfl (k := 0) (by omega) (by decide) d_L_law_468 ?_
      refine tp_l (ul_se _ _ _) ?_
      refine lv_iload hx hb d_L_law_469 (lv_at hl 0 rfl) ?_
      refine lv_i2l (v := (nI n).toInt64) hx hb d_L_law_471 rfl ?_
      refine W.lcmp hx hb d_L_law_472 ?_
      refine lv_if_eq (tgt := 478) hx hb d_L_law_473 (by decide) (fun h1089 => ?_) (fun h1089 => ?_)
      · have h1089 := (lg_cmp_eq _ _).mp h1089
        refine lv_goto (tgt := 1005) hx hb d_L_law_478 (by decide) ?_
        refine W.widen (k := cells + 1) (n := slots + 13) (by omega) (by omega) ?_
        exact kk (n + 1) ck 0 z21084 a1 a2 a3 a4 a5 a6 a7 a8 (upd a9 n 0) (upd b0 n (xs (iv + 2))) (upd b1 n (nI k)) (upd b2 n 0) (upd b3 n ck) (vp_updL b4 n (lN (sc_n (lj (xs (iv + 5)) (xs (iv + 6)))))) (vp_updL b5 n (lj (xs (iv + 3)) (xs (iv + 4)))) (vp_updL b6 n (lN (wd_n (nI k) (lj (xs (iv + 3)) (xs (iv + 4)))))) (vp_updL b7 n (lN (pw_m 4 (sc_n (lj (xs (iv + 5)) (xs (iv + 6)))) * pw_m 9 (wd_n (nI k) (lj (xs (iv + 3)) (xs (iv + 4)))) % pq_P))) b8 b9 (vp_updL (vp_updL b10 n 0) n (lN (pw_m 4 (sc_n (lj (xs (iv + 5)) (xs (iv + 6)))) * pw_m 9 (wd_n (nI k) (lj (xs (iv + 3)) (xs (iv + 4)))) % pq_P))) (vp_updL og 0 ((nI n).toInt64)) (va_up fo n (some q9)) (va_up ad n q9) eu (va_up es n (.inr (2, [.ref (au k), .int (xs (iv + 2)), .long (lN (sc_n (lj (xs (iv + 5)) (xs (iv + 6))))), .int ck, .int 0, .long (lN (cl_x0 (xs (iv + 2)) (sc_n (lj (xs (iv + 5)) (xs (iv + 6)))) (wd_n (nI k) (lj (xs (iv + 3)) (xs (iv + 4)))))), .long (lN 0), .long 0, .long 0, .long 0, .long (lN (cl_x0 (xs (iv + 2)) (sc_n (lj (xs (iv + 5)) (xs (iv + 6)))) (wd_n (nI k) (lj (xs (iv + 3)) (xs (iv + 4)))))), .long (lj (xs (iv + 3)) (xs (iv + 4))), .long (lN (wd_n (nI k) (lj (xs (iv + 3)) (xs (iv + 4)))))]))) H locs _ (hnew q9) hP hD hS (lv_sub hl [2, 3, 4, 5, 6] rfl)
      · have h1089 := fun q => h1089 ((lg_cmp_eq _ _).mpr q)
        exact absurd rfl h1089
  · exact absurd h1087 (by decide)
set_option maxHeartbeats 4000000 in
set_option maxRecDepth 100000 in
theorem lq_client1S {k : Nat} {uo : Nat} {ul : Int64} {uv : Nat} (C0 : lc_C p l s m meth c b L xs G ct A) (hiv : iv + 7 ≤ L) (hcc : cells + 1 ≤ room_1.cells) (hzz : slots + 13 ≤ room_1.slots)
    (hP : va_P G classes (lw_W ct hd us op hm qo qa fu au ns n ck n ck th hh a1 a2 a3 a4 a5 a6 a7 a8 a9 b0 b1 b2 b3 b4 b5 b6 b7 b8 b9 b10 og fo ad eu es) H) (hD : va_D A (lw_W ct hd us op hm qo qa fu au ns n ck n ck th hh a1 a2 a3 a4 a5 a6 a7 a8 a9 b0 b1 b2 b3 b4 b5 b6 b7 b8 b9 b10 og fo ad eu es)) (hS : va_S A s.heap H locs) (hl : lv_has ls 8 [(4, .int (nI iv)), (3, .ref qo), (2, .ref hm), (1, .ref hd), (0, .ref b)])
    (kk : lc_K p l e s m below meth c b L xs G ct A hd us op hm qo qa fu au ns iv (cells + 1) (slots + 13) Q)
    (hv1 : xs (iv + 1) = nI k) (hk8 : k < 8) (heu : eu k = .inr (1, [.int (nI k), .int ns, .int (a1 k), .long (lN uo), .long ul, .long (lN uv), .int (a5 k), .int (a6 k), .int (a7 k), .int (a8 k)])) (d_hk : k < 8) (d_hfu : fu k = some (au k)) (d_hwi : wy_in (xs (iv + 2))) (d_hn : n < 40) (m_hk : k < 8) (m_hn : n < 40) (m_hwy : (xs (iv + 2)) = 1)  (hnew : ∀ q9 : Nat, li_R fu au ns (n + 1) a1 a2 a3 a4 a5 a6 a7 a8 (upd a9 n 0) (upd b0 n (xs (iv + 2))) (upd b1 n (nI k)) (upd b2 n 0) (upd b3 n ck) (vp_updL b4 n (lN (sc_n (lj (xs (iv + 5)) (xs (iv + 6)))))) (vp_updL b5 n (lj (xs (iv + 3)) (xs (iv + 4)))) (vp_updL b6 n (lN (wd_n (nI k) (lj (xs (iv + 3)) (xs (iv + 4)))))) (vp_updL b7 n (lN (pw_m 4 (sc_n (lj (xs (iv + 5)) (xs (iv + 6))))))) b8 b9 (vp_updL (vp_updL b10 n 0) n (lN (pw_m 4 (sc_n (lj (xs (iv + 5)) (xs (iv + 6))))))) (va_up fo n (some q9)) (va_up ad n q9) eu (va_up es n (.inr (2, [.ref (au k), .int (xs (iv + 2)), .long (lN (sc_n (lj (xs (iv + 5)) (xs (iv + 6))))), .int ck, .int 0, .long (lN (cl_x0 (xs (iv + 2)) (sc_n (lj (xs (iv + 5)) (xs (iv + 6)))) (wd_n (nI k) (lj (xs (iv + 3)) (xs (iv + 4)))))), .long (lN 0), .long 0, .long 0, .long 0, .long (lN (cl_x0 (xs (iv + 2)) (sc_n (lj (xs (iv + 5)) (xs (iv + 6)))) (wd_n (nI k) (lj (xs (iv + 3)) (xs (iv + 4)))))), .long (lj (xs (iv + 3)) (xs (iv + 4))), .long (lN (wd_n (nI k) (lj (xs (iv + 3)) (xs (iv + 4)))))]))))  : W p l e room_1 s m #[Value.ref b] below meth c H locs cells slots Q (F0 m 323 ls []) := by
  obtain ⟨hx, hb, hr, hml, hown, hw, hK, hZ, hR, hN, hfl, hA, hbA, hX, hbl, hL, hlocks⟩ := C0
  have hts := hw
  have hP : va_P G classes (lw_W ct hd us op hm qo qa fu au ns n ck n ck th hh a1 a2 a3 a4 a5 a6 a7 a8 a9 b0 b1 b2 b3 b4 b5 b6 b7 b8 b9 b10 og fo ad eu es) H := hP
  have hD : va_D A (lw_W ct hd us op hm qo qa fu au ns n ck n ck th hh a1 a2 a3 a4 a5 a6 a7 a8 a9 b0 b1 b2 b3 b4 b5 b6 b7 b8 b9 b10 og fo ad eu es) := hD
  refine lv_aload_n hx hb d_L_law_323 rfl (lv_at hl 3 rfl) ?_
  refine lv_aload_n hx hb d_L_law_324 rfl (lv_at hl 4 rfl) ?_
  refine lv_iload hx hb d_L_law_325 (lv_at hl 0 rfl) ?_
  refine lv_iconst (v := 1) hx hb d_L_law_327 (by decide) ?_
  refine lv_iadd hx hb d_L_law_328 ?_
  refine sl_ld (j := iv) (d := 1) hx hb hX hbl hbA hS hL (by omega) d_L_law_329 ?_
  refine tp_i (hv1) ?_
  refine lv_aload_n hx hb d_L_law_330 rfl (lv_at hl 4 rfl) ?_
  refine lv_iload hx hb d_L_law_331 (lv_at hl 0 rfl) ?_
  refine lv_iconst (v := 2) hx hb d_L_law_333 (by decide) ?_
  refine lv_iadd hx hb d_L_law_334 ?_
  refine sl_ld (j := iv) (d := 2) hx hb hX hbl hbA hS hL (by omega) d_L_law_335 ?_
  refine lv_aload_n hx hb d_L_law_336 rfl (lv_at hl 4 rfl) ?_
  refine lv_iload hx hb d_L_law_337 (lv_at hl 0 rfl) ?_
  refine lv_iconst (v := 3) hx hb d_L_law_339 (by decide) ?_
  refine lv_iadd hx hb d_L_law_340 ?_
  refine sl_ld (j := iv) (d := 3) hx hb hX hbl hbA hS hL (by omega) d_L_law_341 ?_
  refine lv_i2l (v := (xs (iv + 3)).toInt64) hx hb d_L_law_342 rfl ?_
  refine lv_bipush (v := 32) hx hb d_L_law_343 (by decide) ?_
  refine lv_lshl (v := ((xs (iv + 3)).toInt64) <<< ((32 : Int32).toInt64 &&& 63)) hx hb d_L_law_345 rfl ?_
  refine lv_aload_n hx hb d_L_law_346 rfl (lv_at hl 4 rfl) ?_
  refine lv_iload hx hb d_L_law_347 (lv_at hl 0 rfl) ?_
  refine lv_iconst (v := 4) hx hb d_L_law_349 (by decide) ?_
  refine lv_iadd hx hb d_L_law_350 ?_
  refine sl_ld (j := iv) (d := 4) hx hb hX hbl hbA hS hL (by omega) d_L_law_351 ?_
  refine lv_i2l (v := (xs (iv + 4)).toInt64) hx hb d_L_law_352 rfl ?_
  refine lv_ldc2 (v := 4294967295) hx hb hown (hw _ ww_884) d_L_law_353 ?_
  refine lv_land hx hb d_L_law_356 ?_
  refine lv_lor hx hb d_L_law_357 ?_
  refine tp_l (rfl) ?_
  refine lv_aload_n hx hb d_L_law_358 rfl (lv_at hl 4 rfl) ?_
  refine lv_iload hx hb d_L_law_359 (lv_at hl 0 rfl) ?_
  refine lv_iconst (v := 5) hx hb d_L_law_361 (by decide) ?_
  refine lv_iadd hx hb d_L_law_362 ?_
  refine sl_ld (j := iv) (d := 5) hx hb hX hbl hbA hS hL (by omega) d_L_law_363 ?_
  refine lv_i2l (v := (xs (iv + 5)).toInt64) hx hb d_L_law_364 rfl ?_
  refine lv_bipush (v := 32) hx hb d_L_law_365 (by decide) ?_
  refine lv_lshl (v := ((xs (iv + 5)).toInt64) <<< ((32 : Int32).toInt64 &&& 63)) hx hb d_L_law_367 rfl ?_
  refine lv_aload_n hx hb d_L_law_368 rfl (lv_at hl 4 rfl) ?_
  refine lv_iload hx hb d_L_law_369 (lv_at hl 0 rfl) ?_
  refine lv_bipush (v := 6) hx hb d_L_law_371 (by decide) ?_
  refine lv_iadd hx hb d_L_law_373 ?_
  refine sl_ld (j := iv) (d := 6) hx hb hX hbl hbA hS hL (by omega) d_L_law_374 ?_
  refine lv_i2l (v := (xs (iv + 6)).toInt64) hx hb d_L_law_375 rfl ?_
  refine lv_ldc2 (v := 4294967295) hx hb hown (hw _ ww_884) d_L_law_376 ?_
  refine lv_land hx hb d_L_law_379 ?_
  refine lv_lor hx hb d_L_law_380 ?_
  refine tp_l (rfl) ?_
  refine lv_aload_n hx hb d_L_law_381 rfl (lv_at hl 1 rfl) ?_
  have hC9 : List.map (fun i => ((lw_W ct hd us op hm qo qa fu au ns n ck n ck th hh a1 a2 a3 a4 a5 a6 a7 a8 a9 b0 b1 b2 b3 b4 b5 b6 b7 b8 b9 b10 og fo ad eu es) : va_W)[i]?) [22, 23, 24, 25 + k, 21] = List.map some ([(hd, .inr (0, [.ref us, .ref op, .int (nI n), .int ck])), (us, .inl ((ct 3), 8, .inr (.inr (.inr (.inr fu))))), (op, .inl ((ct 4), 40, .inr (.inr (.inr (.inr fo))))), ((au k), .inr (1, [.int (nI k), .int ns, .int (a1 k), .long (lN uo), .long ul, .long (lN uv), .int (a5 k), .int (a6 k), .int (a7 k), .int (a8 k)])), (qo, .inl ((ct 1), 1, .inr (.inl og)))] : va_W) := (wc_c rfl (wc_c rfl (wc_c rfl (wc_c (lw_u rfl hk8 heu) (wc_c rfl rfl)))))
  have hn9 : va_nd [22, 23, 24, 25 + k, 21] = true := (nd_c (by simp only [List.mem_cons, List.not_mem_nil, or_false]; omega) (nd_c (by simp only [List.mem_cons, List.not_mem_nil, or_false]; omega) (nd_c (by simp only [List.mem_cons, List.not_mem_nil, or_false]; omega) (nd_c (by simp only [List.mem_cons, List.not_mem_nil, or_false]; omega) (nd_c List.not_mem_nil rfl)))))
  have hPc : va_P G classes [(hd, .inr (0, [.ref us, .ref op, .int (nI n), .int ck])), (us, .inl ((ct 3), 8, .inr (.inr (.inr (.inr fu))))), (op, .inl ((ct 4), 40, .inr (.inr (.inr (.inr fo))))), ((au k), .inr (1, [.int (nI k), .int ns, .int (a1 k), .long (lN uo), .long ul, .long (lN uv), .int (a5 k), .int (a6 k), .int (a7 k), .int (a8 k)])), (qo, .inl ((ct 1), 1, .inr (.inl og)))] H := lp_sub hP [22, 23, 24, 25 + k, 21] hC9
  have hDc := hD.sub (ws' := [(hd, .inr (0, [.ref us, .ref op, .int (nI n), .int ck])), (us, .inl ((ct 3), 8, .inr (.inr (.inr (.inr fu))))), (op, .inl ((ct 4), 40, .inr (.inr (.inr (.inr fo))))), ((au k), .inr (1, [.int (nI k), .int ns, .int (a1 k), .long (lN uo), .long ul, .long (lN uv), .int (a5 k), .int (a6 k), .int (a7 k), .int (a8 k)])), (qo, .inl ((ct 1), 1, .inr (.inl og)))]) [22, 23, 24, 25 + k, 21] hn9 hC9
  have hW9 : ∀ q9 : Nat, wk_sets ((lw_W ct hd us op hm qo qa fu au ns n ck n ck th hh a1 a2 a3 a4 a5 a6 a7 a8 a9 b0 b1 b2 b3 b4 b5 b6 b7 b8 b9 b10 og fo ad eu es) : va_W) [22, 23, 24, 25 + k, 21] ([(hd, .inr (0, [.ref us, .ref op, .int (nI (n + 1)), .int ck])), (us, .inl ((ct 3), 8, .inr (.inr (.inr (.inr fu))))), (op, .inl ((ct 4), 40, .inr (.inr (.inr (.inr (va_up fo n (some q9))))))), ((au k), .inr (1, [.int (nI k), .int ns, .int (a1 k), .long (lN uo), .long ul, .long (lN uv), .int (a5 k), .int (a6 k), .int (a7 k), .int (a8 k)])), (qo, .inl ((ct 1), 1, .inr (.inl (vp_updL og 0 ((nI n).toInt64)))))] : va_W) ++ ([(q9, .inr (2, [.ref (au k), .int (xs (iv + 2)), .long (lN (sc_n (lj (xs (iv + 5)) (xs (iv + 6))))), .int ck, .int 0, .long (lN (cl_x0 (xs (iv + 2)) (sc_n (lj (xs (iv + 5)) (xs (iv + 6)))) (wd_n (nI k) (lj (xs (iv + 3)) (xs (iv + 4)))))), .long (lN 0), .long 0, .long 0, .long 0, .long (lN (cl_x0 (xs (iv + 2)) (sc_n (lj (xs (iv + 5)) (xs (iv + 6)))) (wd_n (nI k) (lj (xs (iv + 3)) (xs (iv + 4)))))), .long (lj (xs (iv + 3)) (xs (iv + 4))), .long (lN (wd_n (nI k) (lj (xs (iv + 3)) (xs (iv + 4)))))]))] : va_W) = ((lw_W ct hd us op hm qo qa fu au ns (n + 1) ck n ck th hh a1 a2 a3 a4 a5 a6 a7 a8 a9 b0 b1 b2 b3 b4 b5 b6 b7 b8 b9 b10 (vp_updL og 0 ((nI n).toInt64)) (va_up fo n (some q9)) (va_up ad n q9) eu (va_up es n (.inr (2, [.ref (au k), .int (xs (iv + 2)), .long (lN (sc_n (lj (xs (iv + 5)) (xs (iv + 6))))), .int ck, .int 0, .long (lN (cl_x0 (xs (iv + 2)) (sc_n (lj (xs (iv + 5)) (xs (iv + 6)))) (wd_n (nI k) (lj (xs (iv + 3)) (xs (iv + 4)))))), .long (lN 0), .long 0, .long 0, .long 0, .long (lN (cl_x0 (xs (iv + 2)) (sc_n (lj (xs (iv + 5)) (xs (iv + 6)))) (wd_n (nI k) (lj (xs (iv + 3)) (xs (iv + 4)))))), .long (lj (xs (iv + 3)) (xs (iv + 4))), .long (lN (wd_n (nI k) (lj (xs (iv + 3)) (xs (iv + 4)))))])))) : va_W) := fun q9 => (congrArg (· ++ ([(q9, .inr (2, [.ref (au k), .int (xs (iv + 2)), .long (lN (sc_n (lj (xs (iv + 5)) (xs (iv + 6))))), .int ck, .int 0, .long (lN (cl_x0 (xs (iv + 2)) (sc_n (lj (xs (iv + 5)) (xs (iv + 6)))) (wd_n (nI k) (lj (xs (iv + 3)) (xs (iv + 4)))))), .long (lN 0), .long 0, .long 0, .long 0, .long (lN (cl_x0 (xs (iv + 2)) (sc_n (lj (xs (iv + 5)) (xs (iv + 6)))) (wd_n (nI k) (lj (xs (iv + 3)) (xs (iv + 4)))))), .long (lj (xs (iv + 3)) (xs (iv + 4))), .long (lN (wd_n (nI k) (lj (xs (iv + 3)) (xs (iv + 4)))))]))] : va_W)) (show wk_sets ((lw_W ct hd us op hm qo qa fu au ns n ck n ck th hh a1 a2 a3 a4 a5 a6 a7 a8 a9 b0 b1 b2 b3 b4 b5 b6 b7 b8 b9 b10 og fo ad eu es) : va_W) [22, 23, 24, 25 + k, 21] ([(hd, .inr (0, [.ref us, .ref op, .int (nI (n + 1)), .int ck])), (us, .inl ((ct 3), 8, .inr (.inr (.inr (.inr fu))))), (op, .inl ((ct 4), 40, .inr (.inr (.inr (.inr (va_up fo n (some q9))))))), ((au k), .inr (1, [.int (nI k), .int ns, .int (a1 k), .long (lN uo), .long ul, .long (lN uv), .int (a5 k), .int (a6 k), .int (a7 k), .int (a8 k)])), (qo, .inl ((ct 1), 1, .inr (.inl (vp_updL og 0 ((nI n).toInt64)))))] : va_W) = (([(hm, .inr (4, [.int th, .long ns.toInt64, .int ck, .long hh, .ref (qa 1), .ref (qa 2), .ref (qa 3), .ref (qa 4), .ref (qa 5), .ref (qa 6), .ref (qa 7), .ref (qa 8), .int (nI n), .ref (qa 9), .ref (qa 10), .ref (qa 11), .ref (qa 12), .ref (qa 13), .ref (qa 14), .ref (qa 15), .ref (qa 16), .ref (qa 17), .ref (qa 18), .ref (qa 19), .ref (qa 20)])), ((qa 1), .inl ((ct 0), 8, .inl a1)), ((qa 2), .inl ((ct 1), 8, .inr (.inl a2))), ((qa 3), .inl ((ct 1), 8, .inr (.inl a3))), ((qa 4), .inl ((ct 1), 8, .inr (.inl a4))), ((qa 5), .inl ((ct 0), 8, .inl a5)), ((qa 6), .inl ((ct 0), 8, .inl a6)), ((qa 7), .inl ((ct 0), 8, .inl a7)), ((qa 8), .inl ((ct 0), 8, .inl a8)), ((qa 9), .inl ((ct 2), 40, .inl a9)), ((qa 10), .inl ((ct 0), 40, .inl b0)), ((qa 11), .inl ((ct 0), 40, .inl b1)), ((qa 12), .inl ((ct 0), 40, .inl b2)), ((qa 13), .inl ((ct 0), 40, .inl b3)), ((qa 14), .inl ((ct 1), 40, .inr (.inl b4))), ((qa 15), .inl ((ct 1), 40, .inr (.inl b5))), ((qa 16), .inl ((ct 1), 40, .inr (.inl b6))), ((qa 17), .inl ((ct 1), 40, .inr (.inl b7))), ((qa 18), .inl ((ct 1), 40, .inr (.inl b8))), ((qa 19), .inl ((ct 1), 40, .inr (.inl b9))), ((qa 20), .inl ((ct 1), 40, .inr (.inl b10))), (qo, .inl ((ct 1), 1, .inr (.inl (vp_updL og 0 ((nI n).toInt64))))), (hd, .inr (0, [.ref us, .ref op, .int (nI (n + 1)), .int ck])), (us, .inl ((ct 3), 8, .inr (.inr (.inr (.inr fu))))), (op, .inl ((ct 4), 40, .inr (.inr (.inr (.inr (va_up fo n (some q9)))))))] ++ (ix_w 8 au eu ++ ix_w n ad es)) : va_W) from (ws_c (ws' := ([(hm, .inr (4, [.int th, .long ns.toInt64, .int ck, .long hh, .ref (qa 1), .ref (qa 2), .ref (qa 3), .ref (qa 4), .ref (qa 5), .ref (qa 6), .ref (qa 7), .ref (qa 8), .int (nI n), .ref (qa 9), .ref (qa 10), .ref (qa 11), .ref (qa 12), .ref (qa 13), .ref (qa 14), .ref (qa 15), .ref (qa 16), .ref (qa 17), .ref (qa 18), .ref (qa 19), .ref (qa 20)])), ((qa 1), .inl ((ct 0), 8, .inl a1)), ((qa 2), .inl ((ct 1), 8, .inr (.inl a2))), ((qa 3), .inl ((ct 1), 8, .inr (.inl a3))), ((qa 4), .inl ((ct 1), 8, .inr (.inl a4))), ((qa 5), .inl ((ct 0), 8, .inl a5)), ((qa 6), .inl ((ct 0), 8, .inl a6)), ((qa 7), .inl ((ct 0), 8, .inl a7)), ((qa 8), .inl ((ct 0), 8, .inl a8)), ((qa 9), .inl ((ct 2), 40, .inl a9)), ((qa 10), .inl ((ct 0), 40, .inl b0)), ((qa 11), .inl ((ct 0), 40, .inl b1)), ((qa 12), .inl ((ct 0), 40, .inl b2)), ((qa 13), .inl ((ct 0), 40, .inl b3)), ((qa 14), .inl ((ct 1), 40, .inr (.inl b4))), ((qa 15), .inl ((ct 1), 40, .inr (.inl b5))), ((qa 16), .inl ((ct 1), 40, .inr (.inl b6))), ((qa 17), .inl ((ct 1), 40, .inr (.inl b7))), ((qa 18), .inl ((ct 1), 40, .inr (.inl b8))), ((qa 19), .inl ((ct 1), 40, .inr (.inl b9))), ((qa 20), .inl ((ct 1), 40, .inr (.inl b10))), (qo, .inl ((ct 1), 1, .inr (.inl og))), (hd, .inr (0, [.ref us, .ref op, .int (nI (n + 1)), .int ck])), (us, .inl ((ct 3), 8, .inr (.inr (.inr (.inr fu))))), (op, .inl ((ct 4), 40, .inr (.inr (.inr (.inr fo)))))] ++ (ix_w 8 au eu ++ ix_w n ad es))) rfl (ws_k rfl (ws_c (ws' := ([(hm, .inr (4, [.int th, .long ns.toInt64, .int ck, .long hh, .ref (qa 1), .ref (qa 2), .ref (qa 3), .ref (qa 4), .ref (qa 5), .ref (qa 6), .ref (qa 7), .ref (qa 8), .int (nI n), .ref (qa 9), .ref (qa 10), .ref (qa 11), .ref (qa 12), .ref (qa 13), .ref (qa 14), .ref (qa 15), .ref (qa 16), .ref (qa 17), .ref (qa 18), .ref (qa 19), .ref (qa 20)])), ((qa 1), .inl ((ct 0), 8, .inl a1)), ((qa 2), .inl ((ct 1), 8, .inr (.inl a2))), ((qa 3), .inl ((ct 1), 8, .inr (.inl a3))), ((qa 4), .inl ((ct 1), 8, .inr (.inl a4))), ((qa 5), .inl ((ct 0), 8, .inl a5)), ((qa 6), .inl ((ct 0), 8, .inl a6)), ((qa 7), .inl ((ct 0), 8, .inl a7)), ((qa 8), .inl ((ct 0), 8, .inl a8)), ((qa 9), .inl ((ct 2), 40, .inl a9)), ((qa 10), .inl ((ct 0), 40, .inl b0)), ((qa 11), .inl ((ct 0), 40, .inl b1)), ((qa 12), .inl ((ct 0), 40, .inl b2)), ((qa 13), .inl ((ct 0), 40, .inl b3)), ((qa 14), .inl ((ct 1), 40, .inr (.inl b4))), ((qa 15), .inl ((ct 1), 40, .inr (.inl b5))), ((qa 16), .inl ((ct 1), 40, .inr (.inl b6))), ((qa 17), .inl ((ct 1), 40, .inr (.inl b7))), ((qa 18), .inl ((ct 1), 40, .inr (.inl b8))), ((qa 19), .inl ((ct 1), 40, .inr (.inl b9))), ((qa 20), .inl ((ct 1), 40, .inr (.inl b10))), (qo, .inl ((ct 1), 1, .inr (.inl og))), (hd, .inr (0, [.ref us, .ref op, .int (nI (n + 1)), .int ck])), (us, .inl ((ct 3), 8, .inr (.inr (.inr (.inr fu))))), (op, .inl ((ct 4), 40, .inr (.inr (.inr (.inr (va_up fo n (some q9)))))))] ++ (ix_w 8 au eu ++ ix_w n ad es))) rfl (ws_k (lw_u rfl hk8 heu) (ws_c (ws' := ([(hm, .inr (4, [.int th, .long ns.toInt64, .int ck, .long hh, .ref (qa 1), .ref (qa 2), .ref (qa 3), .ref (qa 4), .ref (qa 5), .ref (qa 6), .ref (qa 7), .ref (qa 8), .int (nI n), .ref (qa 9), .ref (qa 10), .ref (qa 11), .ref (qa 12), .ref (qa 13), .ref (qa 14), .ref (qa 15), .ref (qa 16), .ref (qa 17), .ref (qa 18), .ref (qa 19), .ref (qa 20)])), ((qa 1), .inl ((ct 0), 8, .inl a1)), ((qa 2), .inl ((ct 1), 8, .inr (.inl a2))), ((qa 3), .inl ((ct 1), 8, .inr (.inl a3))), ((qa 4), .inl ((ct 1), 8, .inr (.inl a4))), ((qa 5), .inl ((ct 0), 8, .inl a5)), ((qa 6), .inl ((ct 0), 8, .inl a6)), ((qa 7), .inl ((ct 0), 8, .inl a7)), ((qa 8), .inl ((ct 0), 8, .inl a8)), ((qa 9), .inl ((ct 2), 40, .inl a9)), ((qa 10), .inl ((ct 0), 40, .inl b0)), ((qa 11), .inl ((ct 0), 40, .inl b1)), ((qa 12), .inl ((ct 0), 40, .inl b2)), ((qa 13), .inl ((ct 0), 40, .inl b3)), ((qa 14), .inl ((ct 1), 40, .inr (.inl b4))), ((qa 15), .inl ((ct 1), 40, .inr (.inl b5))), ((qa 16), .inl ((ct 1), 40, .inr (.inl b6))), ((qa 17), .inl ((ct 1), 40, .inr (.inl b7))), ((qa 18), .inl ((ct 1), 40, .inr (.inl b8))), ((qa 19), .inl ((ct 1), 40, .inr (.inl b9))), ((qa 20), .inl ((ct 1), 40, .inr (.inl b10))), (qo, .inl ((ct 1), 1, .inr (.inl (vp_updL og 0 ((nI n).toInt64))))), (hd, .inr (0, [.ref us, .ref op, .int (nI (n + 1)), .int ck])), (us, .inl ((ct 3), 8, .inr (.inr (.inr (.inr fu))))), (op, .inl ((ct 4), 40, .inr (.inr (.inr (.inr (va_up fo n (some q9)))))))] ++ (ix_w 8 au eu ++ ix_w n ad es))) rfl rfl))))))).trans lw_push
  refine wk_iN (w1 := fun q9 : Nat => [(hd, .inr (0, [.ref us, .ref op, .int (nI (n + 1)), .int ck])), (us, .inl ((ct 3), 8, .inr (.inr (.inr (.inr fu))))), (op, .inl ((ct 4), 40, .inr (.inr (.inr (.inr (va_up fo n (some q9))))))), ((au k), .inr (1, [.int (nI k), .int ns, .int (a1 k), .long (lN uo), .long ul, .long (lN uv), .int (a5 k), .int (a6 k), .int (a7 k), .int (a8 k)])), (qo, .inl ((ct 1), 1, .inr (.inl (vp_updL og 0 ((nI n).toInt64)))))]) (w2 := fun q9 : Nat => [(q9, .inr (2, [.ref (au k), .int (xs (iv + 2)), .long (lN (sc_n (lj (xs (iv + 5)) (xs (iv + 6))))), .int ck, .int 0, .long (lN (cl_x0 (xs (iv + 2)) (sc_n (lj (xs (iv + 5)) (xs (iv + 6)))) (wd_n (nI k) (lj (xs (iv + 3)) (xs (iv + 4)))))), .long (lN 0), .long 0, .long 0, .long 0, .long (lN (cl_x0 (xs (iv + 2)) (sc_n (lj (xs (iv + 5)) (xs (iv + 6)))) (wd_n (nI k) (lj (xs (iv + 3)) (xs (iv + 4)))))), .long (lj (xs (iv + 3)) (xs (iv + 4))), .long (lN (wd_n (nI k) (lj (xs (iv + 3)) (xs (iv + 4)))))]))]) (sh_run (As := [.ref hd, .int (nI k), .int (xs (iv + 2)), .long (lj (xs (iv + 3)) (xs (iv + 4))), .long (lj (xs (iv + 5)) (xs (iv + 6))), .ref qo]) (rest := []) (hs := [(0, 14, 17, 13), (0, 14, 21, 15)]) ⟨hx, hb, hml, hown, hts⟩ (c_L_client1 l G ct H.size hd us op n ck fu fo (au k) k (nI k) ns (a1 k) uo ul uv (a5 k) (a6 k) (a7 k) (a8 k) (xs (iv + 2)) (lj (xs (iv + 3)) (xs (iv + 4))) (lj (xs (iv + 5)) (xs (iv + 6))) qo og d_hk d_hfu d_hwi d_hn) wk_ret ⟨hw, ww_185, ww_0, ⟨by decide, by decide⟩, np_L_client, ww_183, ww_184, rfl, rfl, Nat.le_of_ble_eq_true rfl, Nat.le_of_ble_eq_true rfl⟩ (wk_pre hPc hK hDc) rfl hl.1 rfl (lv_room (Nat.le_of_ble_eq_true rfl)) d_L_law_382 ⟨by omega, by omega⟩) hP hD hS hA [22, 23, 24, 25 + k, 21] hn9 hC9 (fun _ => by simp only [List.map_cons, List.map_nil]) (fun q9 H locs _ hP hD hS => ?_)
  have hW9 := hW9 q9
  have hP : va_P G classes (lw_W ct hd us op hm qo qa fu au ns (n + 1) ck n ck th hh a1 a2 a3 a4 a5 a6 a7 a8 a9 b0 b1 b2 b3 b4 b5 b6 b7 b8 b9 b10 (vp_updL og 0 ((nI n).toInt64)) (va_up fo n (some q9)) (va_up ad n q9) eu (va_up es n (.inr (2, [.ref (au k), .int (xs (iv + 2)), .long (lN (sc_n (lj (xs (iv + 5)) (xs (iv + 6))))), .int ck, .int 0, .long (lN (cl_x0 (xs (iv + 2)) (sc_n (lj (xs (iv + 5)) (xs (iv + 6)))) (wd_n (nI k) (lj (xs (iv + 3)) (xs (iv + 4)))))), .long (lN 0), .long 0, .long 0, .long 0, .long (lN (cl_x0 (xs (iv + 2)) (sc_n (lj (xs (iv + 5)) (xs (iv + 6)))) (wd_n (nI k) (lj (xs (iv + 3)) (xs (iv + 4)))))), .long (lj (xs (iv + 3)) (xs (iv + 4))), .long (lN (wd_n (nI k) (lj (xs (iv + 3)) (xs (iv + 4)))))])))) H := lp_P hW9 hP
  have hD : va_D A (lw_W ct hd us op hm qo qa fu au ns (n + 1) ck n ck th hh a1 a2 a3 a4 a5 a6 a7 a8 a9 b0 b1 b2 b3 b4 b5 b6 b7 b8 b9 b10 (vp_updL og 0 ((nI n).toInt64)) (va_up fo n (some q9)) (va_up ad n q9) eu (va_up es n (.inr (2, [.ref (au k), .int (xs (iv + 2)), .long (lN (sc_n (lj (xs (iv + 5)) (xs (iv + 6))))), .int ck, .int 0, .long (lN (cl_x0 (xs (iv + 2)) (sc_n (lj (xs (iv + 5)) (xs (iv + 6)))) (wd_n (nI k) (lj (xs (iv + 3)) (xs (iv + 4)))))), .long (lN 0), .long 0, .long 0, .long 0, .long (lN (cl_x0 (xs (iv + 2)) (sc_n (lj (xs (iv + 5)) (xs (iv + 6)))) (wd_n (nI k) (lj (xs (iv + 3)) (xs (iv + 4)))))), .long (lj (xs (iv + 3)) (xs (iv + 4))), .long (lN (wd_n (nI k) (lj (xs (iv + 3)) (xs (iv + 4)))))])))) := lp_D hW9 hD
  refine lv_istore (lv' := [(5, .int 0), (4, .int (nI iv)), (3, .ref qo), (2, .ref hm), (1, .ref hd), (0, .ref b)]) hx hb d_L_law_385 hl (Nat.le_of_ble_eq_true rfl) rfl (fun ls hl => ?_)
  refine lv_aload_n hx hb d_L_law_387 rfl (lv_at hl 3 rfl) ?_
  refine lv_aload_n hx hb d_L_law_388 rfl (lv_at hl 5 rfl) ?_
  refine lv_iload hx hb d_L_law_389 (lv_at hl 1 rfl) ?_
  refine lv_iconst (v := 1) hx hb d_L_law_391 (by decide) ?_
  refine lv_iadd hx hb d_L_law_392 ?_
  refine sl_ld (j := iv) (d := 1) hx hb hX hbl hbA hS hL (by omega) d_L_law_393 ?_
  refine tp_i (hv1) ?_
  refine lv_aload_n hx hb d_L_law_394 rfl (lv_at hl 5 rfl) ?_
  refine lv_iload hx hb d_L_law_395 (lv_at hl 1 rfl) ?_
  refine lv_iconst (v := 2) hx hb d_L_law_397 (by decide) ?_
  refine lv_iadd hx hb d_L_law_398 ?_
  refine sl_ld (j := iv) (d := 2) hx hb hX hbl hbA hS hL (by omega) d_L_law_399 ?_
  refine lv_aload_n hx hb d_L_law_400 rfl (lv_at hl 5 rfl) ?_
  refine lv_iload hx hb d_L_law_401 (lv_at hl 1 rfl) ?_
  refine lv_iconst (v := 3) hx hb d_L_law_403 (by decide) ?_
  refine lv_iadd hx hb d_L_law_404 ?_
  refine sl_ld (j := iv) (d := 3) hx hb hX hbl hbA hS hL (by omega) d_L_law_405 ?_
  refine lv_i2l (v := (xs (iv + 3)).toInt64) hx hb d_L_law_406 rfl ?_
  refine lv_bipush (v := 32) hx hb d_L_law_407 (by decide) ?_
  refine lv_lshl (v := ((xs (iv + 3)).toInt64) <<< ((32 : Int32).toInt64 &&& 63)) hx hb d_L_law_409 rfl ?_
  refine lv_aload_n hx hb d_L_law_410 rfl (lv_at hl 5 rfl) ?_
  refine lv_iload hx hb d_L_law_411 (lv_at hl 1 rfl) ?_
  refine lv_iconst (v := 4) hx hb d_L_law_413 (by decide) ?_
  refine lv_iadd hx hb d_L_law_414 ?_
  refine sl_ld (j := iv) (d := 4) hx hb hX hbl hbA hS hL (by omega) d_L_law_415 ?_
  refine lv_i2l (v := (xs (iv + 4)).toInt64) hx hb d_L_law_416 rfl ?_
  refine lv_ldc2 (v := 4294967295) hx hb hown (hw _ ww_884) d_L_law_417 ?_
  refine lv_land hx hb d_L_law_420 ?_
  refine lv_lor hx hb d_L_law_421 ?_
  refine tp_l (rfl) ?_
  refine lv_aload_n hx hb d_L_law_422 rfl (lv_at hl 5 rfl) ?_
  refine lv_iload hx hb d_L_law_423 (lv_at hl 1 rfl) ?_
  refine lv_iconst (v := 5) hx hb d_L_law_425 (by decide) ?_
  refine lv_iadd hx hb d_L_law_426 ?_
  refine sl_ld (j := iv) (d := 5) hx hb hX hbl hbA hS hL (by omega) d_L_law_427 ?_
  refine lv_i2l (v := (xs (iv + 5)).toInt64) hx hb d_L_law_428 rfl ?_
  refine lv_bipush (v := 32) hx hb d_L_law_429 (by decide) ?_
  refine lv_lshl (v := ((xs (iv + 5)).toInt64) <<< ((32 : Int32).toInt64 &&& 63)) hx hb d_L_law_431 rfl ?_
  refine lv_aload_n hx hb d_L_law_432 rfl (lv_at hl 5 rfl) ?_
  refine lv_iload hx hb d_L_law_433 (lv_at hl 1 rfl) ?_
  refine lv_bipush (v := 6) hx hb d_L_law_435 (by decide) ?_
  refine lv_iadd hx hb d_L_law_437 ?_
  refine sl_ld (j := iv) (d := 6) hx hb hX hbl hbA hS hL (by omega) d_L_law_438 ?_
  refine lv_i2l (v := (xs (iv + 6)).toInt64) hx hb d_L_law_439 rfl ?_
  refine lv_ldc2 (v := 4294967295) hx hb hown (hw _ ww_884) d_L_law_440 ?_
  refine lv_land hx hb d_L_law_443 ?_
  refine lv_lor hx hb d_L_law_444 ?_
  refine tp_l (rfl) ?_
  have hPc : va_P G classes [(hm, .inr (4, [.int th, .long ns.toInt64, .int ck, .long hh, .ref (qa 1), .ref (qa 2), .ref (qa 3), .ref (qa 4), .ref (qa 5), .ref (qa 6), .ref (qa 7), .ref (qa 8), .int (nI n), .ref (qa 9), .ref (qa 10), .ref (qa 11), .ref (qa 12), .ref (qa 13), .ref (qa 14), .ref (qa 15), .ref (qa 16), .ref (qa 17), .ref (qa 18), .ref (qa 19), .ref (qa 20)])), ((qa 9), .inl ((ct 2), 40, .inl a9)), ((qa 10), .inl ((ct 0), 40, .inl b0)), ((qa 11), .inl ((ct 0), 40, .inl b1)), ((qa 12), .inl ((ct 0), 40, .inl b2)), ((qa 13), .inl ((ct 0), 40, .inl b3)), ((qa 14), .inl ((ct 1), 40, .inr (.inl b4))), ((qa 15), .inl ((ct 1), 40, .inr (.inl b5))), ((qa 16), .inl ((ct 1), 40, .inr (.inl b6))), ((qa 17), .inl ((ct 1), 40, .inr (.inl b7))), ((qa 20), .inl ((ct 1), 40, .inr (.inl b10)))] H := hP.sub [0, 9, 10, 11, 12, 13, 14, 15, 16, 17, 20] rfl
  have hDc := hD.sub (ws' := [(hm, .inr (4, [.int th, .long ns.toInt64, .int ck, .long hh, .ref (qa 1), .ref (qa 2), .ref (qa 3), .ref (qa 4), .ref (qa 5), .ref (qa 6), .ref (qa 7), .ref (qa 8), .int (nI n), .ref (qa 9), .ref (qa 10), .ref (qa 11), .ref (qa 12), .ref (qa 13), .ref (qa 14), .ref (qa 15), .ref (qa 16), .ref (qa 17), .ref (qa 18), .ref (qa 19), .ref (qa 20)])), ((qa 9), .inl ((ct 2), 40, .inl a9)), ((qa 10), .inl ((ct 0), 40, .inl b0)), ((qa 11), .inl ((ct 0), 40, .inl b1)), ((qa 12), .inl ((ct 0), 40, .inl b2)), ((qa 13), .inl ((ct 0), 40, .inl b3)), ((qa 14), .inl ((ct 1), 40, .inr (.inl b4))), ((qa 15), .inl ((ct 1), 40, .inr (.inl b5))), ((qa 16), .inl ((ct 1), 40, .inr (.inl b6))), ((qa 17), .inl ((ct 1), 40, .inr (.inl b7))), ((qa 20), .inl ((ct 1), 40, .inr (.inl b10)))]) [0, 9, 10, 11, 12, 13, 14, 15, 16, 17, 20] (by decide) rfl
  refine wk_i (va_runV (As := [.int (nI k), .int (xs (iv + 2)), .long (lj (xs (iv + 3)) (xs (iv + 4))), .long (lj (xs (iv + 5)) (xs (iv + 6)))]) (rest := []) ⟨hx, hb, hml, hown, hts⟩ (c_M_client1S l G ct H.size hm th ns.toInt64 ck hh (qa 1) (qa 2) (qa 3) (qa 4) (qa 5) (qa 6) (qa 7) (qa 8) (qa 9) (qa 10) (qa 11) (qa 12) (qa 13) (qa 14) (qa 15) (qa 16) (qa 17) (qa 18) (qa 19) (qa 20) n a9 b0 b1 b2 b3 b4 b5 b6 b7 b10 k (xs (iv + 2)) (lj (xs (iv + 3)) (xs (iv + 4))) (lj (xs (iv + 5)) (xs (iv + 6))) m_hk m_hn m_hwy) (tb_V hw cy_M_client ww_787 ww_788 ww_789 rfl rfl ⟨Nat.le_of_ble_eq_true rfl, Nat.le_of_ble_eq_true rfl⟩) (wk_preV (ci := 4) (q0 := 0) hPc hK hDc rfl rfl) rfl rfl hl.1 rfl (lv_room (Nat.le_of_ble_eq_true rfl)) d_L_law_445 ⟨by omega, by omega⟩) hP hD hS hA [0, 9, 10, 11, 12, 13, 14, 15, 16, 17, 20] (by decide) rfl (fun _ => by simp only [List.map_cons, List.map_nil]) (fun z21090 H locs ok1091 hP hD hS => ?_)
  have hP : va_P G classes (lw_W ct hd us op hm qo qa fu au ns (n + 1) ck (n + 1) ck 0 z21090 a1 a2 a3 a4 a5 a6 a7 a8 (upd a9 n 0) (upd b0 n (xs (iv + 2))) (upd b1 n (nI k)) (upd b2 n 0) (upd b3 n ck) (vp_updL b4 n (lN (sc_n (lj (xs (iv + 5)) (xs (iv + 6)))))) (vp_updL b5 n (lj (xs (iv + 3)) (xs (iv + 4)))) (vp_updL b6 n (lN (wd_n (nI k) (lj (xs (iv + 3)) (xs (iv + 4)))))) (vp_updL b7 n (lN (pw_m 4 (sc_n (lj (xs (iv + 5)) (xs (iv + 6))))))) b8 b9 (vp_updL (vp_updL b10 n 0) n (lN (pw_m 4 (sc_n (lj (xs (iv + 5)) (xs (iv + 6))))))) (vp_updL og 0 ((nI n).toInt64)) (va_up fo n (some q9)) (va_up ad n q9) eu (va_up es n (.inr (2, [.ref (au k), .int (xs (iv + 2)), .long (lN (sc_n (lj (xs (iv + 5)) (xs (iv + 6))))), .int ck, .int 0, .long (lN (cl_x0 (xs (iv + 2)) (sc_n (lj (xs (iv + 5)) (xs (iv + 6)))) (wd_n (nI k) (lj (xs (iv + 3)) (xs (iv + 4)))))), .long (lN 0), .long 0, .long 0, .long 0, .long (lN (cl_x0 (xs (iv + 2)) (sc_n (lj (xs (iv + 5)) (xs (iv + 6)))) (wd_n (nI k) (lj (xs (iv + 3)) (xs (iv + 4)))))), .long (lj (xs (iv + 3)) (xs (iv + 4))), .long (lN (wd_n (nI k) (lj (xs (iv + 3)) (xs (iv + 4)))))])))) H := hP
  have hD : va_D A (lw_W ct hd us op hm qo qa fu au ns (n + 1) ck (n + 1) ck 0 z21090 a1 a2 a3 a4 a5 a6 a7 a8 (upd a9 n 0) (upd b0 n (xs (iv + 2))) (upd b1 n (nI k)) (upd b2 n 0) (upd b3 n ck) (vp_updL b4 n (lN (sc_n (lj (xs (iv + 5)) (xs (iv + 6)))))) (vp_updL b5 n (lj (xs (iv + 3)) (xs (iv + 4)))) (vp_updL b6 n (lN (wd_n (nI k) (lj (xs (iv + 3)) (xs (iv + 4)))))) (vp_updL b7 n (lN (pw_m 4 (sc_n (lj (xs (iv + 5)) (xs (iv + 6))))))) b8 b9 (vp_updL (vp_updL b10 n 0) n (lN (pw_m 4 (sc_n (lj (xs (iv + 5)) (xs (iv + 6))))))) (vp_updL og 0 ((nI n).toInt64)) (va_up fo n (some q9)) (va_up ad n q9) eu (va_up es n (.inr (2, [.ref (au k), .int (xs (iv + 2)), .long (lN (sc_n (lj (xs (iv + 5)) (xs (iv + 6))))), .int ck, .int 0, .long (lN (cl_x0 (xs (iv + 2)) (sc_n (lj (xs (iv + 5)) (xs (iv + 6)))) (wd_n (nI k) (lj (xs (iv + 3)) (xs (iv + 4)))))), .long (lN 0), .long 0, .long 0, .long 0, .long (lN (cl_x0 (xs (iv + 2)) (sc_n (lj (xs (iv + 5)) (xs (iv + 6)))) (wd_n (nI k) (lj (xs (iv + 3)) (xs (iv + 4)))))), .long (lj (xs (iv + 3)) (xs (iv + 4))), .long (lN (wd_n (nI k) (lj (xs (iv + 3)) (xs (iv + 4)))))])))) := hD
  refine lv_istore (lv' := [(6, .int (nI n)), (5, .int 0), (4, .int (nI iv)), (3, .ref qo), (2, .ref hm), (1, .ref hd), (0, .ref b)]) hx hb d_L_law_448 hl (Nat.le_of_ble_eq_true rfl) rfl (fun ls hl => ?_)
  refine lv_aload_n hx hb d_L_law_450 rfl (lv_at hl 4 rfl) ?_
  have hPc : va_P G classes [(hm, .inr (4, [.int 0, .long ns.toInt64, .int ck, .long z21090, .ref (qa 1), .ref (qa 2), .ref (qa 3), .ref (qa 4), .ref (qa 5), .ref (qa 6), .ref (qa 7), .ref (qa 8), .int (nI (n + 1)), .ref (qa 9), .ref (qa 10), .ref (qa 11), .ref (qa 12), .ref (qa 13), .ref (qa 14), .ref (qa 15), .ref (qa 16), .ref (qa 17), .ref (qa 18), .ref (qa 19), .ref (qa 20)]))] H := hP.sub [0] rfl
  have hDc := hD.sub (ws' := [(hm, .inr (4, [.int 0, .long ns.toInt64, .int ck, .long z21090, .ref (qa 1), .ref (qa 2), .ref (qa 3), .ref (qa 4), .ref (qa 5), .ref (qa 6), .ref (qa 7), .ref (qa 8), .int (nI (n + 1)), .ref (qa 9), .ref (qa 10), .ref (qa 11), .ref (qa 12), .ref (qa 13), .ref (qa 14), .ref (qa 15), .ref (qa 16), .ref (qa 17), .ref (qa 18), .ref (qa 19), .ref (qa 20)]))]) [0] (by decide) rfl
  refine vp_callSi (W.runV (As := []) (rest := []) ⟨hx, hb, hml, hown, hts⟩ (c_M_thrown l G ct H.size hm 0 ns.toInt64 ck z21090 (qa 1) (qa 2) (qa 3) (qa 4) (qa 5) (qa 6) (qa 7) (qa 8) (qa 9) (qa 10) (qa 11) (qa 12) (qa 13) (qa 14) (qa 15) (qa 16) (qa 17) (qa 18) (qa 19) (qa 20) (n + 1)) (tb_V hw cy_M_thrown ww_719 ww_720 ww_721 rfl rfl ⟨Nat.le_of_ble_eq_true rfl, Nat.le_of_ble_eq_true rfl⟩) (wk_preV (ci := 4) (q0 := 0) hPc hK hDc rfl rfl) rfl rfl hl.1 rfl (lv_room (Nat.le_of_ble_eq_true rfl)) d_L_law_451 ⟨by omega, by omega⟩) (fun r1092 er1092 => ?_)
  subst er1092
  refine lv_iload hx hb d_L_law_454 (lv_at hl 1 rfl) ?_
  refine lv_icmp_eq (tgt := 461) hx hb d_L_law_456 (by decide) (fun h1093 => ?_) (fun h1093 => ?_)
  · refine lv_iload hx hb d_L_law_461 (lv_at hl 1 rfl) ?_
    refine lv_if_ne (tgt := 478) hx hb d_L_law_463 (by decide) (fun h1094 => ?_) (fun h1094 => ?_)
    · exact absurd h1094 (by decide)
    · refine lv_aload_n hx hb d_L_law_466 rfl (lv_at hl 3 rfl) ?_
      refine lv_iconst (v := 0) hx hb d_L_law_467 (by decide) ?_
      refine ra_ll hx hb hK.1 hP 21 1 rfl rfl (k := 0) (by omega) (by decide) d_L_law_468 ?_
      refine tp_l (ul_se _ _ _) ?_
      refine lv_iload hx hb d_L_law_469 (lv_at hl 0 rfl) ?_
      refine lv_i2l (v := (nI n).toInt64) hx hb d_L_law_471 rfl ?_
      refine W.lcmp hx hb d_L_law_472 ?_
      refine lv_if_eq (tgt := 478) hx hb d_L_law_473 (by decide) (fun h1095 => ?_) (fun h1095 => ?_)
      · have h1095 := (lg_cmp_eq _ _).mp h1095
        refine lv_goto (tgt := 1005) hx hb d_L_law_478 (by decide) ?_
        refine W.widen (k := cells + 1) (n := slots + 13) (by omega) (by omega) ?_
        exact kk (n + 1) ck 0 z21090 a1 a2 a3 a4 a5 a6 a7 a8 (upd a9 n 0) (upd b0 n (xs (iv + 2))) (upd b1 n (nI k)) (upd b2 n 0) (upd b3 n ck) (vp_updL b4 n (lN (sc_n (lj (xs (iv + 5)) (xs (iv + 6)))))) (vp_updL b5 n (lj (xs (iv + 3)) (xs (iv + 4)))) (vp_updL b6 n (lN (wd_n (nI k) (lj (xs (iv + 3)) (xs (iv + 4)))))) (vp_updL b7 n (lN (pw_m 4 (sc_n (lj (xs (iv + 5)) (xs (iv + 6))))))) b8 b9 (vp_updL (vp_updL b10 n 0) n (lN (pw_m 4 (sc_n (lj (xs (iv + 5)) (xs (iv + 6))))))) (vp_updL og 0 ((nI n).toInt64)) (va_up fo n (some q9)) (va_up ad n q9) eu (va_up es n (.inr (2, [.ref (au k), .int (xs (iv + 2)), .long (lN (sc_n (lj (xs (iv + 5)) (xs (iv + 6))))), .int ck, .int 0, .long (lN (cl_x0 (xs (iv + 2)) (sc_n (lj (xs (iv + 5)) (xs (iv + 6)))) (wd_n (nI k) (lj (xs (iv + 3)) (xs (iv + 4)))))), .long (lN 0), .long 0, .long 0, .long 0, .long (lN (cl_x0 (xs (iv + 2)) (sc_n (lj (xs (iv + 5)) (xs (iv + 6)))) (wd_n (nI k) (lj (xs (iv + 3)) (xs (iv + 4)))))), .long (lj (xs (iv + 3)) (xs (iv + 4))), .long (lN (wd_n (nI k) (lj (xs (iv + 3)) (xs (iv + 4)))))]))) H locs _ (hnew q9) hP hD hS (lv_sub hl [2, 3, 4, 5, 6] rfl)
      · have h1095 := fun q => h1095 ((lg_cmp_eq _ _).mpr q)
        exact absurd rfl h1095
  · exact absurd h1093 (by decide)
set_option maxHeartbeats 4000000 in
set_option maxRecDepth 100000 in
theorem lq_client0  (C0 : lc_C p l s m meth c b L xs G ct A) (hiv : iv + 7 ≤ L) (hcc : cells + 1 ≤ room_1.cells) (hzz : slots + 13 ≤ room_1.slots)
    (hP : va_P G classes (lw_W ct hd us op hm qo qa fu au ns n ck n ck th hh a1 a2 a3 a4 a5 a6 a7 a8 a9 b0 b1 b2 b3 b4 b5 b6 b7 b8 b9 b10 og fo ad eu es) H) (hD : va_D A (lw_W ct hd us op hm qo qa fu au ns n ck n ck th hh a1 a2 a3 a4 a5 a6 a7 a8 a9 b0 b1 b2 b3 b4 b5 b6 b7 b8 b9 b10 og fo ad eu es)) (hS : va_S A s.heap H locs) (hl : lv_has ls 8 [(4, .int (nI iv)), (3, .ref qo), (2, .ref hm), (1, .ref hd), (0, .ref b)])
    (kk : lc_K p l e s m below meth c b L xs G ct A hd us op hm qo qa fu au ns iv (cells + 1) (slots + 13) Q)
     (d_hno : ¬ us_in (xs (iv + 1))) (m_hno : ¬ (us_in (xs (iv + 1)) ∧ wy_in (xs (iv + 2))))  (hnew : li_R fu au ns n a1 a2 a3 a4 a5 a6 a7 a8 a9 b0 b1 b2 b3 b4 b5 b6 b7 b8 b9 b10 fo ad eu es)  : W p l e room_1 s m #[Value.ref b] below meth c H locs cells slots Q (F0 m 323 ls []) := by
  obtain ⟨hx, hb, hr, hml, hown, hw, hK, hZ, hR, hN, hfl, hA, hbA, hX, hbl, hL, hlocks⟩ := C0
  have hts := hw
  have hP : va_P G classes (lw_W ct hd us op hm qo qa fu au ns n ck n ck th hh a1 a2 a3 a4 a5 a6 a7 a8 a9 b0 b1 b2 b3 b4 b5 b6 b7 b8 b9 b10 og fo ad eu es) H := hP
  have hD : va_D A (lw_W ct hd us op hm qo qa fu au ns n ck n ck th hh a1 a2 a3 a4 a5 a6 a7 a8 a9 b0 b1 b2 b3 b4 b5 b6 b7 b8 b9 b10 og fo ad eu es) := hD
  refine lv_aload_n hx hb d_L_law_323 rfl (lv_at hl 3 rfl) ?_
  refine lv_aload_n hx hb d_L_law_324 rfl (lv_at hl 4 rfl) ?_
  refine lv_iload hx hb d_L_law_325 (lv_at hl 0 rfl) ?_
  refine lv_iconst (v := 1) hx hb d_L_law_327 (by decide) ?_
  refine lv_iadd hx hb d_L_law_328 ?_
  refine sl_ld (j := iv) (d := 1) hx hb hX hbl hbA hS hL (by omega) d_L_law_329 ?_
  refine lv_aload_n hx hb d_L_law_330 rfl (lv_at hl 4 rfl) ?_
  refine lv_iload hx hb d_L_law_331 (lv_at hl 0 rfl) ?_
  refine lv_iconst (v := 2) hx hb d_L_law_333 (by decide) ?_
  refine lv_iadd hx hb d_L_law_334 ?_
  refine sl_ld (j := iv) (d := 2) hx hb hX hbl hbA hS hL (by omega) d_L_law_335 ?_
  refine lv_aload_n hx hb d_L_law_336 rfl (lv_at hl 4 rfl) ?_
  refine lv_iload hx hb d_L_law_337 (lv_at hl 0 rfl) ?_
  refine lv_iconst (v := 3) hx hb d_L_law_339 (by decide) ?_
  refine lv_iadd hx hb d_L_law_340 ?_
  refine sl_ld (j := iv) (d := 3) hx hb hX hbl hbA hS hL (by omega) d_L_law_341 ?_
  refine lv_i2l (v := (xs (iv + 3)).toInt64) hx hb d_L_law_342 rfl ?_
  refine lv_bipush (v := 32) hx hb d_L_law_343 (by decide) ?_
  refine lv_lshl (v := ((xs (iv + 3)).toInt64) <<< ((32 : Int32).toInt64 &&& 63)) hx hb d_L_law_345 rfl ?_
  refine lv_aload_n hx hb d_L_law_346 rfl (lv_at hl 4 rfl) ?_
  refine lv_iload hx hb d_L_law_347 (lv_at hl 0 rfl) ?_
  refine lv_iconst (v := 4) hx hb d_L_law_349 (by decide) ?_
  refine lv_iadd hx hb d_L_law_350 ?_
  refine sl_ld (j := iv) (d := 4) hx hb hX hbl hbA hS hL (by omega) d_L_law_351 ?_
  refine lv_i2l (v := (xs (iv + 4)).toInt64) hx hb d_L_law_352 rfl ?_
  refine lv_ldc2 (v := 4294967295) hx hb hown (hw _ ww_884) d_L_law_353 ?_
  refine lv_land hx hb d_L_law_356 ?_
  refine lv_lor hx hb d_L_law_357 ?_
  refine tp_l (rfl) ?_
  refine lv_aload_n hx hb d_L_law_358 rfl (lv_at hl 4 rfl) ?_
  refine lv_iload hx hb d_L_law_359 (lv_at hl 0 rfl) ?_
  refine lv_iconst (v := 5) hx hb d_L_law_361 (by decide) ?_
  refine lv_iadd hx hb d_L_law_362 ?_
  refine sl_ld (j := iv) (d := 5) hx hb hX hbl hbA hS hL (by omega) d_L_law_363 ?_
  refine lv_i2l (v := (xs (iv + 5)).toInt64) hx hb d_L_law_364 rfl ?_
  refine lv_bipush (v := 32) hx hb d_L_law_365 (by decide) ?_
  refine lv_lshl (v := ((xs (iv + 5)).toInt64) <<< ((32 : Int32).toInt64 &&& 63)) hx hb d_L_law_367 rfl ?_
  refine lv_aload_n hx hb d_L_law_368 rfl (lv_at hl 4 rfl) ?_
  refine lv_iload hx hb d_L_law_369 (lv_at hl 0 rfl) ?_
  refine lv_bipush (v := 6) hx hb d_L_law_371 (by decide) ?_
  refine lv_iadd hx hb d_L_law_373 ?_
  refine sl_ld (j := iv) (d := 6) hx hb hX hbl hbA hS hL (by omega) d_L_law_374 ?_
  refine lv_i2l (v := (xs (iv + 6)).toInt64) hx hb d_L_law_375 rfl ?_
  refine lv_ldc2 (v := 4294967295) hx hb hown (hw _ ww_884) d_L_law_376 ?_
  refine lv_land hx hb d_L_law_379 ?_
  refine lv_lor hx hb d_L_law_380 ?_
  refine tp_l (rfl) ?_
  refine lv_aload_n hx hb d_L_law_381 rfl (lv_at hl 1 rfl) ?_
  have hC9 : List.map (fun i => ((lw_W ct hd us op hm qo qa fu au ns n ck n ck th hh a1 a2 a3 a4 a5 a6 a7 a8 a9 b0 b1 b2 b3 b4 b5 b6 b7 b8 b9 b10 og fo ad eu es) : va_W)[i]?) [22, 21] = List.map some ([(hd, .inr (0, [.ref us, .ref op, .int (nI n), .int ck])), (qo, .inl ((ct 1), 1, .inr (.inl og)))] : va_W) := (wc_c rfl (wc_c rfl rfl))
  have hn9 : va_nd [22, 21] = true := by decide
  have hPc : va_P G classes [(hd, .inr (0, [.ref us, .ref op, .int (nI n), .int ck])), (qo, .inl ((ct 1), 1, .inr (.inl og)))] H := lp_sub hP [22, 21] hC9
  have hDc := hD.sub (ws' := [(hd, .inr (0, [.ref us, .ref op, .int (nI n), .int ck])), (qo, .inl ((ct 1), 1, .inr (.inl og)))]) [22, 21] hn9 hC9
  have hW9 : wk_sets ((lw_W ct hd us op hm qo qa fu au ns n ck n ck th hh a1 a2 a3 a4 a5 a6 a7 a8 a9 b0 b1 b2 b3 b4 b5 b6 b7 b8 b9 b10 og fo ad eu es) : va_W) [22, 21] ([(hd, .inr (0, [.ref us, .ref op, .int (nI n), .int ck])), (qo, .inl ((ct 1), 1, .inr (.inl og)))] : va_W) = ((lw_W ct hd us op hm qo qa fu au ns n ck n ck th hh a1 a2 a3 a4 a5 a6 a7 a8 a9 b0 b1 b2 b3 b4 b5 b6 b7 b8 b9 b10 og fo ad eu es) : va_W) := (ws_k rfl (ws_k rfl rfl))
  refine wk_i (sh_run (As := [.ref hd, .int (xs (iv + 1)), .int (xs (iv + 2)), .long (lj (xs (iv + 3)) (xs (iv + 4))), .long (lj (xs (iv + 5)) (xs (iv + 6))), .ref qo]) (rest := []) (hs := [(0, 14, 17, 13), (0, 14, 21, 15)]) ⟨hx, hb, hml, hown, hts⟩ (c_L_client0 l hfl G ct H.size hd us op n ck (xs (iv + 1)) (xs (iv + 2)) (lj (xs (iv + 3)) (xs (iv + 4))) (lj (xs (iv + 5)) (xs (iv + 6))) qo og d_hno) wk_ret ⟨hw, ww_185, ww_0, ⟨by decide, by decide⟩, np_L_client, ww_183, ww_184, rfl, rfl, Nat.le_of_ble_eq_true rfl, Nat.le_of_ble_eq_true rfl⟩ (wk_pre5 hPc hK hDc hD hS hA [22, 21] hC9 hZ hR hN) rfl hl.1 rfl (lv_room (Nat.le_of_ble_eq_true rfl)) d_L_law_382 ⟨by omega, by omega⟩) hP hD hS hA [22, 21] hn9 hC9 (fun _ => by simp only [List.map_cons, List.map_nil]) (fun _ H locs _ hP hD hS => ?_)
  have hP : va_P G classes (lw_W ct hd us op hm qo qa fu au ns n ck n ck th hh a1 a2 a3 a4 a5 a6 a7 a8 a9 b0 b1 b2 b3 b4 b5 b6 b7 b8 b9 b10 og fo ad eu es) H := lp_P hW9 hP
  have hD : va_D A (lw_W ct hd us op hm qo qa fu au ns n ck n ck th hh a1 a2 a3 a4 a5 a6 a7 a8 a9 b0 b1 b2 b3 b4 b5 b6 b7 b8 b9 b10 og fo ad eu es) := lp_D hW9 hD
  refine lv_istore (lv' := [(5, .int 1), (4, .int (nI iv)), (3, .ref qo), (2, .ref hm), (1, .ref hd), (0, .ref b)]) hx hb d_L_law_385 hl (Nat.le_of_ble_eq_true rfl) rfl (fun ls hl => ?_)
  refine lv_aload_n hx hb d_L_law_387 rfl (lv_at hl 3 rfl) ?_
  refine lv_aload_n hx hb d_L_law_388 rfl (lv_at hl 5 rfl) ?_
  refine lv_iload hx hb d_L_law_389 (lv_at hl 1 rfl) ?_
  refine lv_iconst (v := 1) hx hb d_L_law_391 (by decide) ?_
  refine lv_iadd hx hb d_L_law_392 ?_
  refine sl_ld (j := iv) (d := 1) hx hb hX hbl hbA hS hL (by omega) d_L_law_393 ?_
  refine lv_aload_n hx hb d_L_law_394 rfl (lv_at hl 5 rfl) ?_
  refine lv_iload hx hb d_L_law_395 (lv_at hl 1 rfl) ?_
  refine lv_iconst (v := 2) hx hb d_L_law_397 (by decide) ?_
  refine lv_iadd hx hb d_L_law_398 ?_
  refine sl_ld (j := iv) (d := 2) hx hb hX hbl hbA hS hL (by omega) d_L_law_399 ?_
  refine lv_aload_n hx hb d_L_law_400 rfl (lv_at hl 5 rfl) ?_
  refine lv_iload hx hb d_L_law_401 (lv_at hl 1 rfl) ?_
  refine lv_iconst (v := 3) hx hb d_L_law_403 (by decide) ?_
  refine lv_iadd hx hb d_L_law_404 ?_
  refine sl_ld (j := iv) (d := 3) hx hb hX hbl hbA hS hL (by omega) d_L_law_405 ?_
  refine lv_i2l (v := (xs (iv + 3)).toInt64) hx hb d_L_law_406 rfl ?_
  refine lv_bipush (v := 32) hx hb d_L_law_407 (by decide) ?_
  refine lv_lshl (v := ((xs (iv + 3)).toInt64) <<< ((32 : Int32).toInt64 &&& 63)) hx hb d_L_law_409 rfl ?_
  refine lv_aload_n hx hb d_L_law_410 rfl (lv_at hl 5 rfl) ?_
  refine lv_iload hx hb d_L_law_411 (lv_at hl 1 rfl) ?_
  refine lv_iconst (v := 4) hx hb d_L_law_413 (by decide) ?_
  refine lv_iadd hx hb d_L_law_414 ?_
  refine sl_ld (j := iv) (d := 4) hx hb hX hbl hbA hS hL (by omega) d_L_law_415 ?_
  refine lv_i2l (v := (xs (iv + 4)).toInt64) hx hb d_L_law_416 rfl ?_
  refine lv_ldc2 (v := 4294967295) hx hb hown (hw _ ww_884) d_L_law_417 ?_
  refine lv_land hx hb d_L_law_420 ?_
  refine lv_lor hx hb d_L_law_421 ?_
  refine tp_l (rfl) ?_
  refine lv_aload_n hx hb d_L_law_422 rfl (lv_at hl 5 rfl) ?_
  refine lv_iload hx hb d_L_law_423 (lv_at hl 1 rfl) ?_
  refine lv_iconst (v := 5) hx hb d_L_law_425 (by decide) ?_
  refine lv_iadd hx hb d_L_law_426 ?_
  refine sl_ld (j := iv) (d := 5) hx hb hX hbl hbA hS hL (by omega) d_L_law_427 ?_
  refine lv_i2l (v := (xs (iv + 5)).toInt64) hx hb d_L_law_428 rfl ?_
  refine lv_bipush (v := 32) hx hb d_L_law_429 (by decide) ?_
  refine lv_lshl (v := ((xs (iv + 5)).toInt64) <<< ((32 : Int32).toInt64 &&& 63)) hx hb d_L_law_431 rfl ?_
  refine lv_aload_n hx hb d_L_law_432 rfl (lv_at hl 5 rfl) ?_
  refine lv_iload hx hb d_L_law_433 (lv_at hl 1 rfl) ?_
  refine lv_bipush (v := 6) hx hb d_L_law_435 (by decide) ?_
  refine lv_iadd hx hb d_L_law_437 ?_
  refine sl_ld (j := iv) (d := 6) hx hb hX hbl hbA hS hL (by omega) d_L_law_438 ?_
  refine lv_i2l (v := (xs (iv + 6)).toInt64) hx hb d_L_law_439 rfl ?_
  refine lv_ldc2 (v := 4294967295) hx hb hown (hw _ ww_884) d_L_law_440 ?_
  refine lv_land hx hb d_L_law_443 ?_
  refine lv_lor hx hb d_L_law_444 ?_
  refine tp_l (rfl) ?_
  have hPc : va_P G classes [(hm, .inr (4, [.int th, .long ns.toInt64, .int ck, .long hh, .ref (qa 1), .ref (qa 2), .ref (qa 3), .ref (qa 4), .ref (qa 5), .ref (qa 6), .ref (qa 7), .ref (qa 8), .int (nI n), .ref (qa 9), .ref (qa 10), .ref (qa 11), .ref (qa 12), .ref (qa 13), .ref (qa 14), .ref (qa 15), .ref (qa 16), .ref (qa 17), .ref (qa 18), .ref (qa 19), .ref (qa 20)]))] H := hP.sub [0] rfl
  have hDc := hD.sub (ws' := [(hm, .inr (4, [.int th, .long ns.toInt64, .int ck, .long hh, .ref (qa 1), .ref (qa 2), .ref (qa 3), .ref (qa 4), .ref (qa 5), .ref (qa 6), .ref (qa 7), .ref (qa 8), .int (nI n), .ref (qa 9), .ref (qa 10), .ref (qa 11), .ref (qa 12), .ref (qa 13), .ref (qa 14), .ref (qa 15), .ref (qa 16), .ref (qa 17), .ref (qa 18), .ref (qa 19), .ref (qa 20)]))]) [0] (by decide) rfl
  refine wk_i (va_runV (As := [.int (xs (iv + 1)), .int (xs (iv + 2)), .long (lj (xs (iv + 3)) (xs (iv + 4))), .long (lj (xs (iv + 5)) (xs (iv + 6)))]) (rest := []) ⟨hx, hb, hml, hown, hts⟩ (c_M_client0 l G ct H.size hm th ns.toInt64 ck hh (qa 1) (qa 2) (qa 3) (qa 4) (qa 5) (qa 6) (qa 7) (qa 8) (qa 9) (qa 10) (qa 11) (qa 12) (qa 13) (qa 14) (qa 15) (qa 16) (qa 17) (qa 18) (qa 19) (qa 20) n (xs (iv + 1)) (xs (iv + 2)) (lj (xs (iv + 3)) (xs (iv + 4))) (lj (xs (iv + 5)) (xs (iv + 6))) m_hno) (tb_V hw cy_M_client ww_787 ww_788 ww_789 rfl rfl ⟨Nat.le_of_ble_eq_true rfl, Nat.le_of_ble_eq_true rfl⟩) (wk_preV (ci := 4) (q0 := 0) hPc hK hDc rfl rfl) rfl rfl hl.1 rfl (lv_room (Nat.le_of_ble_eq_true rfl)) d_L_law_445 ⟨by omega, by omega⟩) hP hD hS hA [0] (by decide) rfl (fun _ => by simp only [List.map_cons, List.map_nil]) (fun _ H locs ok1096 hP hD hS => ?_)
  have hP : va_P G classes (lw_W ct hd us op hm qo qa fu au ns n ck n ck 1 hh a1 a2 a3 a4 a5 a6 a7 a8 a9 b0 b1 b2 b3 b4 b5 b6 b7 b8 b9 b10 og fo ad eu es) H := hP
  have hD : va_D A (lw_W ct hd us op hm qo qa fu au ns n ck n ck 1 hh a1 a2 a3 a4 a5 a6 a7 a8 a9 b0 b1 b2 b3 b4 b5 b6 b7 b8 b9 b10 og fo ad eu es) := hD
  refine lv_istore (lv' := [(6, .int 0), (5, .int 1), (4, .int (nI iv)), (3, .ref qo), (2, .ref hm), (1, .ref hd), (0, .ref b)]) hx hb d_L_law_448 hl (Nat.le_of_ble_eq_true rfl) rfl (fun ls hl => ?_)
  refine lv_aload_n hx hb d_L_law_450 rfl (lv_at hl 4 rfl) ?_
  have hPc : va_P G classes [(hm, .inr (4, [.int 1, .long ns.toInt64, .int ck, .long hh, .ref (qa 1), .ref (qa 2), .ref (qa 3), .ref (qa 4), .ref (qa 5), .ref (qa 6), .ref (qa 7), .ref (qa 8), .int (nI n), .ref (qa 9), .ref (qa 10), .ref (qa 11), .ref (qa 12), .ref (qa 13), .ref (qa 14), .ref (qa 15), .ref (qa 16), .ref (qa 17), .ref (qa 18), .ref (qa 19), .ref (qa 20)]))] H := hP.sub [0] rfl
  have hDc := hD.sub (ws' := [(hm, .inr (4, [.int 1, .long ns.toInt64, .int ck, .long hh, .ref (qa 1), .ref (qa 2), .ref (qa 3), .ref (qa 4), .ref (qa 5), .ref (qa 6), .ref (qa 7), .ref (qa 8), .int (nI n), .ref (qa 9), .ref (qa 10), .ref (qa 11), .ref (qa 12), .ref (qa 13), .ref (qa 14), .ref (qa 15), .ref (qa 16), .ref (qa 17), .ref (qa 18), .ref (qa 19), .ref (qa 20)]))]) [0] (by decide) rfl
  refine vp_callSi (W.runV (As := []) (rest := []) ⟨hx, hb, hml, hown, hts⟩ (c_M_thrown l G ct H.size hm 1 ns.toInt64 ck hh (qa 1) (qa 2) (qa 3) (qa 4) (qa 5) (qa 6) (qa 7) (qa 8) (qa 9) (qa 10) (qa 11) (qa 12) (qa 13) (qa 14) (qa 15) (qa 16) (qa 17) (qa 18) (qa 19) (qa 20) n) (tb_V hw cy_M_thrown ww_719 ww_720 ww_721 rfl rfl ⟨Nat.le_of_ble_eq_true rfl, Nat.le_of_ble_eq_true rfl⟩) (wk_preV (ci := 4) (q0 := 0) hPc hK hDc rfl rfl) rfl rfl hl.1 rfl (lv_room (Nat.le_of_ble_eq_true rfl)) d_L_law_451 ⟨by omega, by omega⟩) (fun r1097 er1097 => ?_)
  subst er1097
  refine lv_iload hx hb d_L_law_454 (lv_at hl 1 rfl) ?_
  refine lv_icmp_eq (tgt := 461) hx hb d_L_law_456 (by decide) (fun h1098 => ?_) (fun h1098 => ?_)
  · refine lv_iload hx hb d_L_law_461 (lv_at hl 1 rfl) ?_
    refine lv_if_ne (tgt := 478) hx hb d_L_law_463 (by decide) (fun h1099 => ?_) (fun h1099 => ?_)
    · refine lv_goto (tgt := 1005) hx hb d_L_law_478 (by decide) ?_
      refine W.widen (k := cells + 1) (n := slots + 13) (by omega) (by omega) ?_
      exact kk n ck 1 hh a1 a2 a3 a4 a5 a6 a7 a8 a9 b0 b1 b2 b3 b4 b5 b6 b7 b8 b9 b10 og fo ad eu es H locs _ hnew hP hD hS (lv_sub hl [2, 3, 4, 5, 6] rfl)
    · exact absurd h1099 (by decide)
  · exact absurd h1098 (by decide)
set_option maxHeartbeats 4000000 in
set_option maxRecDepth 100000 in
theorem lq_client0b {k : Nat} (C0 : lc_C p l s m meth c b L xs G ct A) (hiv : iv + 7 ≤ L) (hcc : cells + 1 ≤ room_1.cells) (hzz : slots + 13 ≤ room_1.slots)
    (hP : va_P G classes (lw_W ct hd us op hm qo qa fu au ns n ck n ck th hh a1 a2 a3 a4 a5 a6 a7 a8 a9 b0 b1 b2 b3 b4 b5 b6 b7 b8 b9 b10 og fo ad eu es) H) (hD : va_D A (lw_W ct hd us op hm qo qa fu au ns n ck n ck th hh a1 a2 a3 a4 a5 a6 a7 a8 a9 b0 b1 b2 b3 b4 b5 b6 b7 b8 b9 b10 og fo ad eu es)) (hS : va_S A s.heap H locs) (hl : lv_has ls 8 [(4, .int (nI iv)), (3, .ref qo), (2, .ref hm), (1, .ref hd), (0, .ref b)])
    (kk : lc_K p l e s m below meth c b L xs G ct A hd us op hm qo qa fu au ns iv (cells + 1) (slots + 13) Q)
    (hv1 : xs (iv + 1) = nI k) (d_hk : k < 8) (d_hfu : fu k = some (au k)) (d_hwi : ¬ wy_in (xs (iv + 2))) (m_hno : ¬ (us_in (nI k) ∧ wy_in (xs (iv + 2))))  (hnew : li_R fu au ns n a1 a2 a3 a4 a5 a6 a7 a8 a9 b0 b1 b2 b3 b4 b5 b6 b7 b8 b9 b10 fo ad eu es)  : W p l e room_1 s m #[Value.ref b] below meth c H locs cells slots Q (F0 m 323 ls []) := by
  obtain ⟨hx, hb, hr, hml, hown, hw, hK, hZ, hR, hN, hfl, hA, hbA, hX, hbl, hL, hlocks⟩ := C0
  have hts := hw
  have hP : va_P G classes (lw_W ct hd us op hm qo qa fu au ns n ck n ck th hh a1 a2 a3 a4 a5 a6 a7 a8 a9 b0 b1 b2 b3 b4 b5 b6 b7 b8 b9 b10 og fo ad eu es) H := hP
  have hD : va_D A (lw_W ct hd us op hm qo qa fu au ns n ck n ck th hh a1 a2 a3 a4 a5 a6 a7 a8 a9 b0 b1 b2 b3 b4 b5 b6 b7 b8 b9 b10 og fo ad eu es) := hD
  refine lv_aload_n hx hb d_L_law_323 rfl (lv_at hl 3 rfl) ?_
  refine lv_aload_n hx hb d_L_law_324 rfl (lv_at hl 4 rfl) ?_
  refine lv_iload hx hb d_L_law_325 (lv_at hl 0 rfl) ?_
  refine lv_iconst (v := 1) hx hb d_L_law_327 (by decide) ?_
  refine lv_iadd hx hb d_L_law_328 ?_
  refine sl_ld (j := iv) (d := 1) hx hb hX hbl hbA hS hL (by omega) d_L_law_329 ?_
  refine tp_i (hv1) ?_
  refine lv_aload_n hx hb d_L_law_330 rfl (lv_at hl 4 rfl) ?_
  refine lv_iload hx hb d_L_law_331 (lv_at hl 0 rfl) ?_
  refine lv_iconst (v := 2) hx hb d_L_law_333 (by decide) ?_
  refine lv_iadd hx hb d_L_law_334 ?_
  refine sl_ld (j := iv) (d := 2) hx hb hX hbl hbA hS hL (by omega) d_L_law_335 ?_
  refine lv_aload_n hx hb d_L_law_336 rfl (lv_at hl 4 rfl) ?_
  refine lv_iload hx hb d_L_law_337 (lv_at hl 0 rfl) ?_
  refine lv_iconst (v := 3) hx hb d_L_law_339 (by decide) ?_
  refine lv_iadd hx hb d_L_law_340 ?_
  refine sl_ld (j := iv) (d := 3) hx hb hX hbl hbA hS hL (by omega) d_L_law_341 ?_
  refine lv_i2l (v := (xs (iv + 3)).toInt64) hx hb d_L_law_342 rfl ?_
  refine lv_bipush (v := 32) hx hb d_L_law_343 (by decide) ?_
  refine lv_lshl (v := ((xs (iv + 3)).toInt64) <<< ((32 : Int32).toInt64 &&& 63)) hx hb d_L_law_345 rfl ?_
  refine lv_aload_n hx hb d_L_law_346 rfl (lv_at hl 4 rfl) ?_
  refine lv_iload hx hb d_L_law_347 (lv_at hl 0 rfl) ?_
  refine lv_iconst (v := 4) hx hb d_L_law_349 (by decide) ?_
  refine lv_iadd hx hb d_L_law_350 ?_
  refine sl_ld (j := iv) (d := 4) hx hb hX hbl hbA hS hL (by omega) d_L_law_351 ?_
  refine lv_i2l (v := (xs (iv + 4)).toInt64) hx hb d_L_law_352 rfl ?_
  refine lv_ldc2 (v := 4294967295) hx hb hown (hw _ ww_884) d_L_law_353 ?_
  refine lv_land hx hb d_L_law_356 ?_
  refine lv_lor hx hb d_L_law_357 ?_
  refine tp_l (rfl) ?_
  refine lv_aload_n hx hb d_L_law_358 rfl (lv_at hl 4 rfl) ?_
  refine lv_iload hx hb d_L_law_359 (lv_at hl 0 rfl) ?_
  refine lv_iconst (v := 5) hx hb d_L_law_361 (by decide) ?_
  refine lv_iadd hx hb d_L_law_362 ?_
  refine sl_ld (j := iv) (d := 5) hx hb hX hbl hbA hS hL (by omega) d_L_law_363 ?_
  refine lv_i2l (v := (xs (iv + 5)).toInt64) hx hb d_L_law_364 rfl ?_
  refine lv_bipush (v := 32) hx hb d_L_law_365 (by decide) ?_
  refine lv_lshl (v := ((xs (iv + 5)).toInt64) <<< ((32 : Int32).toInt64 &&& 63)) hx hb d_L_law_367 rfl ?_
  refine lv_aload_n hx hb d_L_law_368 rfl (lv_at hl 4 rfl) ?_
  refine lv_iload hx hb d_L_law_369 (lv_at hl 0 rfl) ?_
  refine lv_bipush (v := 6) hx hb d_L_law_371 (by decide) ?_
  refine lv_iadd hx hb d_L_law_373 ?_
  refine sl_ld (j := iv) (d := 6) hx hb hX hbl hbA hS hL (by omega) d_L_law_374 ?_
  refine lv_i2l (v := (xs (iv + 6)).toInt64) hx hb d_L_law_375 rfl ?_
  refine lv_ldc2 (v := 4294967295) hx hb hown (hw _ ww_884) d_L_law_376 ?_
  refine lv_land hx hb d_L_law_379 ?_
  refine lv_lor hx hb d_L_law_380 ?_
  refine tp_l (rfl) ?_
  refine lv_aload_n hx hb d_L_law_381 rfl (lv_at hl 1 rfl) ?_
  have hC9 : List.map (fun i => ((lw_W ct hd us op hm qo qa fu au ns n ck n ck th hh a1 a2 a3 a4 a5 a6 a7 a8 a9 b0 b1 b2 b3 b4 b5 b6 b7 b8 b9 b10 og fo ad eu es) : va_W)[i]?) [22, 23, 21] = List.map some ([(hd, .inr (0, [.ref us, .ref op, .int (nI n), .int ck])), (us, .inl ((ct 3), 8, .inr (.inr (.inr (.inr fu))))), (qo, .inl ((ct 1), 1, .inr (.inl og)))] : va_W) := (wc_c rfl (wc_c rfl (wc_c rfl rfl)))
  have hn9 : va_nd [22, 23, 21] = true := by decide
  have hPc : va_P G classes [(hd, .inr (0, [.ref us, .ref op, .int (nI n), .int ck])), (us, .inl ((ct 3), 8, .inr (.inr (.inr (.inr fu))))), (qo, .inl ((ct 1), 1, .inr (.inl og)))] H := lp_sub hP [22, 23, 21] hC9
  have hDc := hD.sub (ws' := [(hd, .inr (0, [.ref us, .ref op, .int (nI n), .int ck])), (us, .inl ((ct 3), 8, .inr (.inr (.inr (.inr fu))))), (qo, .inl ((ct 1), 1, .inr (.inl og)))]) [22, 23, 21] hn9 hC9
  have hW9 : wk_sets ((lw_W ct hd us op hm qo qa fu au ns n ck n ck th hh a1 a2 a3 a4 a5 a6 a7 a8 a9 b0 b1 b2 b3 b4 b5 b6 b7 b8 b9 b10 og fo ad eu es) : va_W) [22, 23, 21] ([(hd, .inr (0, [.ref us, .ref op, .int (nI n), .int ck])), (us, .inl ((ct 3), 8, .inr (.inr (.inr (.inr fu))))), (qo, .inl ((ct 1), 1, .inr (.inl og)))] : va_W) = ((lw_W ct hd us op hm qo qa fu au ns n ck n ck th hh a1 a2 a3 a4 a5 a6 a7 a8 a9 b0 b1 b2 b3 b4 b5 b6 b7 b8 b9 b10 og fo ad eu es) : va_W) := (ws_k rfl (ws_k rfl (ws_k rfl rfl)))
  refine wk_i (sh_run (As := [.ref hd, .int (nI k), .int (xs (iv + 2)), .long (lj (xs (iv + 3)) (xs (iv + 4))), .long (lj (xs (iv + 5)) (xs (iv + 6))), .ref qo]) (rest := []) (hs := [(0, 14, 17, 13), (0, 14, 21, 15)]) ⟨hx, hb, hml, hown, hts⟩ (c_L_client0b l hfl G ct H.size hd us op n ck fu (au k) k (xs (iv + 2)) (lj (xs (iv + 3)) (xs (iv + 4))) (lj (xs (iv + 5)) (xs (iv + 6))) qo og d_hk d_hfu d_hwi) wk_ret ⟨hw, ww_185, ww_0, ⟨by decide, by decide⟩, np_L_client, ww_183, ww_184, rfl, rfl, Nat.le_of_ble_eq_true rfl, Nat.le_of_ble_eq_true rfl⟩ (wk_pre5 hPc hK hDc hD hS hA [22, 23, 21] hC9 hZ hR hN) rfl hl.1 rfl (lv_room (Nat.le_of_ble_eq_true rfl)) d_L_law_382 ⟨by omega, by omega⟩) hP hD hS hA [22, 23, 21] hn9 hC9 (fun _ => by simp only [List.map_cons, List.map_nil]) (fun _ H locs _ hP hD hS => ?_)
  have hP : va_P G classes (lw_W ct hd us op hm qo qa fu au ns n ck n ck th hh a1 a2 a3 a4 a5 a6 a7 a8 a9 b0 b1 b2 b3 b4 b5 b6 b7 b8 b9 b10 og fo ad eu es) H := lp_P hW9 hP
  have hD : va_D A (lw_W ct hd us op hm qo qa fu au ns n ck n ck th hh a1 a2 a3 a4 a5 a6 a7 a8 a9 b0 b1 b2 b3 b4 b5 b6 b7 b8 b9 b10 og fo ad eu es) := lp_D hW9 hD
  refine lv_istore (lv' := [(5, .int 1), (4, .int (nI iv)), (3, .ref qo), (2, .ref hm), (1, .ref hd), (0, .ref b)]) hx hb d_L_law_385 hl (Nat.le_of_ble_eq_true rfl) rfl (fun ls hl => ?_)
  refine lv_aload_n hx hb d_L_law_387 rfl (lv_at hl 3 rfl) ?_
  refine lv_aload_n hx hb d_L_law_388 rfl (lv_at hl 5 rfl) ?_
  refine lv_iload hx hb d_L_law_389 (lv_at hl 1 rfl) ?_
  refine lv_iconst (v := 1) hx hb d_L_law_391 (by decide) ?_
  refine lv_iadd hx hb d_L_law_392 ?_
  refine sl_ld (j := iv) (d := 1) hx hb hX hbl hbA hS hL (by omega) d_L_law_393 ?_
  refine tp_i (hv1) ?_
  refine lv_aload_n hx hb d_L_law_394 rfl (lv_at hl 5 rfl) ?_
  refine lv_iload hx hb d_L_law_395 (lv_at hl 1 rfl) ?_
  refine lv_iconst (v := 2) hx hb d_L_law_397 (by decide) ?_
  refine lv_iadd hx hb d_L_law_398 ?_
  refine sl_ld (j := iv) (d := 2) hx hb hX hbl hbA hS hL (by omega) d_L_law_399 ?_
  refine lv_aload_n hx hb d_L_law_400 rfl (lv_at hl 5 rfl) ?_
  refine lv_iload hx hb d_L_law_401 (lv_at hl 1 rfl) ?_
  refine lv_iconst (v := 3) hx hb d_L_law_403 (by decide) ?_
  refine lv_iadd hx hb d_L_law_404 ?_
  refine sl_ld (j := iv) (d := 3) hx hb hX hbl hbA hS hL (by omega) d_L_law_405 ?_
  refine lv_i2l (v := (xs (iv + 3)).toInt64) hx hb d_L_law_406 rfl ?_
  refine lv_bipush (v := 32) hx hb d_L_law_407 (by decide) ?_
  refine lv_lshl (v := ((xs (iv + 3)).toInt64) <<< ((32 : Int32).toInt64 &&& 63)) hx hb d_L_law_409 rfl ?_
  refine lv_aload_n hx hb d_L_law_410 rfl (lv_at hl 5 rfl) ?_
  refine lv_iload hx hb d_L_law_411 (lv_at hl 1 rfl) ?_
  refine lv_iconst (v := 4) hx hb d_L_law_413 (by decide) ?_
  refine lv_iadd hx hb d_L_law_414 ?_
  refine sl_ld (j := iv) (d := 4) hx hb hX hbl hbA hS hL (by omega) d_L_law_415 ?_
  refine lv_i2l (v := (xs (iv + 4)).toInt64) hx hb d_L_law_416 rfl ?_
  refine lv_ldc2 (v := 4294967295) hx hb hown (hw _ ww_884) d_L_law_417 ?_
  refine lv_land hx hb d_L_law_420 ?_
  refine lv_lor hx hb d_L_law_421 ?_
  refine tp_l (rfl) ?_
  refine lv_aload_n hx hb d_L_law_422 rfl (lv_at hl 5 rfl) ?_
  refine lv_iload hx hb d_L_law_423 (lv_at hl 1 rfl) ?_
  refine lv_iconst (v := 5) hx hb d_L_law_425 (by decide) ?_
  refine lv_iadd hx hb d_L_law_426 ?_
  refine sl_ld (j := iv) (d := 5) hx hb hX hbl hbA hS hL (by omega) d_L_law_427 ?_
  refine lv_i2l (v := (xs (iv + 5)).toInt64) hx hb d_L_law_428 rfl ?_
  refine lv_bipush (v := 32) hx hb d_L_law_429 (by decide) ?_
  refine lv_lshl (v := ((xs (iv + 5)).toInt64) <<< ((32 : Int32).toInt64 &&& 63)) hx hb d_L_law_431 rfl ?_
  refine lv_aload_n hx hb d_L_law_432 rfl (lv_at hl 5 rfl) ?_
  refine lv_iload hx hb d_L_law_433 (lv_at hl 1 rfl) ?_
  refine lv_bipush (v := 6) hx hb d_L_law_435 (by decide) ?_
  refine lv_iadd hx hb d_L_law_437 ?_
  refine sl_ld (j := iv) (d := 6) hx hb hX hbl hbA hS hL (by omega) d_L_law_438 ?_
  refine lv_i2l (v := (xs (iv + 6)).toInt64) hx hb d_L_law_439 rfl ?_
  refine lv_ldc2 (v := 4294967295) hx hb hown (hw _ ww_884) d_L_law_440 ?_
  refine lv_land hx hb d_L_law_443 ?_
  refine lv_lor hx hb d_L_law_444 ?_
  refine tp_l (rfl) ?_
  have hPc : va_P G classes [(hm, .inr (4, [.int th, .long ns.toInt64, .int ck, .long hh, .ref (qa 1), .ref (qa 2), .ref (qa 3), .ref (qa 4), .ref (qa 5), .ref (qa 6), .ref (qa 7), .ref (qa 8), .int (nI n), .ref (qa 9), .ref (qa 10), .ref (qa 11), .ref (qa 12), .ref (qa 13), .ref (qa 14), .ref (qa 15), .ref (qa 16), .ref (qa 17), .ref (qa 18), .ref (qa 19), .ref (qa 20)]))] H := hP.sub [0] rfl
  have hDc := hD.sub (ws' := [(hm, .inr (4, [.int th, .long ns.toInt64, .int ck, .long hh, .ref (qa 1), .ref (qa 2), .ref (qa 3), .ref (qa 4), .ref (qa 5), .ref (qa 6), .ref (qa 7), .ref (qa 8), .int (nI n), .ref (qa 9), .ref (qa 10), .ref (qa 11), .ref (qa 12), .ref (qa 13), .ref (qa 14), .ref (qa 15), .ref (qa 16), .ref (qa 17), .ref (qa 18), .ref (qa 19), .ref (qa 20)]))]) [0] (by decide) rfl
  refine wk_i (va_runV (As := [.int (nI k), .int (xs (iv + 2)), .long (lj (xs (iv + 3)) (xs (iv + 4))), .long (lj (xs (iv + 5)) (xs (iv + 6)))]) (rest := []) ⟨hx, hb, hml, hown, hts⟩ (c_M_client0 l G ct H.size hm th ns.toInt64 ck hh (qa 1) (qa 2) (qa 3) (qa 4) (qa 5) (qa 6) (qa 7) (qa 8) (qa 9) (qa 10) (qa 11) (qa 12) (qa 13) (qa 14) (qa 15) (qa 16) (qa 17) (qa 18) (qa 19) (qa 20) n (nI k) (xs (iv + 2)) (lj (xs (iv + 3)) (xs (iv + 4))) (lj (xs (iv + 5)) (xs (iv + 6))) m_hno) (tb_V hw cy_M_client ww_787 ww_788 ww_789 rfl rfl ⟨Nat.le_of_ble_eq_true rfl, Nat.le_of_ble_eq_true rfl⟩) (wk_preV (ci := 4) (q0 := 0) hPc hK hDc rfl rfl) rfl rfl hl.1 rfl (lv_room (Nat.le_of_ble_eq_true rfl)) d_L_law_445 ⟨by omega, by omega⟩) hP hD hS hA [0] (by decide) rfl (fun _ => by simp only [List.map_cons, List.map_nil]) (fun _ H locs ok1100 hP hD hS => ?_)
  have hP : va_P G classes (lw_W ct hd us op hm qo qa fu au ns n ck n ck 1 hh a1 a2 a3 a4 a5 a6 a7 a8 a9 b0 b1 b2 b3 b4 b5 b6 b7 b8 b9 b10 og fo ad eu es) H := hP
  have hD : va_D A (lw_W ct hd us op hm qo qa fu au ns n ck n ck 1 hh a1 a2 a3 a4 a5 a6 a7 a8 a9 b0 b1 b2 b3 b4 b5 b6 b7 b8 b9 b10 og fo ad eu es) := hD
  refine lv_istore (lv' := [(6, .int 0), (5, .int 1), (4, .int (nI iv)), (3, .ref qo), (2, .ref hm), (1, .ref hd), (0, .ref b)]) hx hb d_L_law_448 hl (Nat.le_of_ble_eq_true rfl) rfl (fun ls hl => ?_)
  refine lv_aload_n hx hb d_L_law_450 rfl (lv_at hl 4 rfl) ?_
  have hPc : va_P G classes [(hm, .inr (4, [.int 1, .long ns.toInt64, .int ck, .long hh, .ref (qa 1), .ref (qa 2), .ref (qa 3), .ref (qa 4), .ref (qa 5), .ref (qa 6), .ref (qa 7), .ref (qa 8), .int (nI n), .ref (qa 9), .ref (qa 10), .ref (qa 11), .ref (qa 12), .ref (qa 13), .ref (qa 14), .ref (qa 15), .ref (qa 16), .ref (qa 17), .ref (qa 18), .ref (qa 19), .ref (qa 20)]))] H := hP.sub [0] rfl
  have hDc := hD.sub (ws' := [(hm, .inr (4, [.int 1, .long ns.toInt64, .int ck, .long hh, .ref (qa 1), .ref (qa 2), .ref (qa 3), .ref (qa 4), .ref (qa 5), .ref (qa 6), .ref (qa 7), .ref (qa 8), .int (nI n), .ref (qa 9), .ref (qa 10), .ref (qa 11), .ref (qa 12), .ref (qa 13), .ref (qa 14), .ref (qa 15), .ref (qa 16), .ref (qa 17), .ref (qa 18), .ref (qa 19), .ref (qa 20)]))]) [0] (by decide) rfl
  refine vp_callSi (W.runV (As := []) (rest := []) ⟨hx, hb, hml, hown, hts⟩ (c_M_thrown l G ct H.size hm 1 ns.toInt64 ck hh (qa 1) (qa 2) (qa 3) (qa 4) (qa 5) (qa 6) (qa 7) (qa 8) (qa 9) (qa 10) (qa 11) (qa 12) (qa 13) (qa 14) (qa 15) (qa 16) (qa 17) (qa 18) (qa 19) (qa 20) n) (tb_V hw cy_M_thrown ww_719 ww_720 ww_721 rfl rfl ⟨Nat.le_of_ble_eq_true rfl, Nat.le_of_ble_eq_true rfl⟩) (wk_preV (ci := 4) (q0 := 0) hPc hK hDc rfl rfl) rfl rfl hl.1 rfl (lv_room (Nat.le_of_ble_eq_true rfl)) d_L_law_451 ⟨by omega, by omega⟩) (fun r1101 er1101 => ?_)
  subst er1101
  refine lv_iload hx hb d_L_law_454 (lv_at hl 1 rfl) ?_
  refine lv_icmp_eq (tgt := 461) hx hb d_L_law_456 (by decide) (fun h1102 => ?_) (fun h1102 => ?_)
  · refine lv_iload hx hb d_L_law_461 (lv_at hl 1 rfl) ?_
    refine lv_if_ne (tgt := 478) hx hb d_L_law_463 (by decide) (fun h1103 => ?_) (fun h1103 => ?_)
    · refine lv_goto (tgt := 1005) hx hb d_L_law_478 (by decide) ?_
      refine W.widen (k := cells + 1) (n := slots + 13) (by omega) (by omega) ?_
      exact kk n ck 1 hh a1 a2 a3 a4 a5 a6 a7 a8 a9 b0 b1 b2 b3 b4 b5 b6 b7 b8 b9 b10 og fo ad eu es H locs _ hnew hP hD hS (lv_sub hl [2, 3, 4, 5, 6] rfl)
    · exact absurd h1103 (by decide)
  · exact absurd h1102 (by decide)
set_option maxHeartbeats 4000000 in
set_option maxRecDepth 100000 in
theorem lq_client2 {k : Nat} (C0 : lc_C p l s m meth c b L xs G ct A) (hiv : iv + 7 ≤ L) (hcc : cells + 1 ≤ room_1.cells) (hzz : slots + 13 ≤ room_1.slots)
    (hP : va_P G classes (lw_W ct hd us op hm qo qa fu au ns n ck n ck th hh a1 a2 a3 a4 a5 a6 a7 a8 a9 b0 b1 b2 b3 b4 b5 b6 b7 b8 b9 b10 og fo ad eu es) H) (hD : va_D A (lw_W ct hd us op hm qo qa fu au ns n ck n ck th hh a1 a2 a3 a4 a5 a6 a7 a8 a9 b0 b1 b2 b3 b4 b5 b6 b7 b8 b9 b10 og fo ad eu es)) (hS : va_S A s.heap H locs) (hl : lv_has ls 8 [(4, .int (nI iv)), (3, .ref qo), (2, .ref hm), (1, .ref hd), (0, .ref b)])
    (kk : lc_K p l e s m below meth c b L xs G ct A hd us op hm qo qa fu au ns iv (cells + 1) (slots + 13) Q)
    (hv1 : xs (iv + 1) = nI k) (d_hk : k < 8) (d_hfu : fu k = some (au k)) (d_hwi : wy_in (xs (iv + 2))) (d_hn : ¬ nI n < 40) (m_hui : us_in (nI k)) (m_hwi : wy_in (xs (iv + 2))) (m_hn : nI n = 40)  (hnew : li_R fu au ns n a1 a2 a3 a4 a5 a6 a7 a8 a9 b0 b1 b2 b3 b4 b5 b6 b7 b8 b9 b10 fo ad eu es)  : W p l e room_1 s m #[Value.ref b] below meth c H locs cells slots Q (F0 m 323 ls []) := by
  obtain ⟨hx, hb, hr, hml, hown, hw, hK, hZ, hR, hN, hfl, hA, hbA, hX, hbl, hL, hlocks⟩ := C0
  have hts := hw
  have hP : va_P G classes (lw_W ct hd us op hm qo qa fu au ns n ck n ck th hh a1 a2 a3 a4 a5 a6 a7 a8 a9 b0 b1 b2 b3 b4 b5 b6 b7 b8 b9 b10 og fo ad eu es) H := hP
  have hD : va_D A (lw_W ct hd us op hm qo qa fu au ns n ck n ck th hh a1 a2 a3 a4 a5 a6 a7 a8 a9 b0 b1 b2 b3 b4 b5 b6 b7 b8 b9 b10 og fo ad eu es) := hD
  refine lv_aload_n hx hb d_L_law_323 rfl (lv_at hl 3 rfl) ?_
  refine lv_aload_n hx hb d_L_law_324 rfl (lv_at hl 4 rfl) ?_
  refine lv_iload hx hb d_L_law_325 (lv_at hl 0 rfl) ?_
  refine lv_iconst (v := 1) hx hb d_L_law_327 (by decide) ?_
  refine lv_iadd hx hb d_L_law_328 ?_
  refine sl_ld (j := iv) (d := 1) hx hb hX hbl hbA hS hL (by omega) d_L_law_329 ?_
  refine tp_i (hv1) ?_
  refine lv_aload_n hx hb d_L_law_330 rfl (lv_at hl 4 rfl) ?_
  refine lv_iload hx hb d_L_law_331 (lv_at hl 0 rfl) ?_
  refine lv_iconst (v := 2) hx hb d_L_law_333 (by decide) ?_
  refine lv_iadd hx hb d_L_law_334 ?_
  refine sl_ld (j := iv) (d := 2) hx hb hX hbl hbA hS hL (by omega) d_L_law_335 ?_
  refine lv_aload_n hx hb d_L_law_336 rfl (lv_at hl 4 rfl) ?_
  refine lv_iload hx hb d_L_law_337 (lv_at hl 0 rfl) ?_
  refine lv_iconst (v := 3) hx hb d_L_law_339 (by decide) ?_
  refine lv_iadd hx hb d_L_law_340 ?_
  refine sl_ld (j := iv) (d := 3) hx hb hX hbl hbA hS hL (by omega) d_L_law_341 ?_
  refine lv_i2l (v := (xs (iv + 3)).toInt64) hx hb d_L_law_342 rfl ?_
  refine lv_bipush (v := 32) hx hb d_L_law_343 (by decide) ?_
  refine lv_lshl (v := ((xs (iv + 3)).toInt64) <<< ((32 : Int32).toInt64 &&& 63)) hx hb d_L_law_345 rfl ?_
  refine lv_aload_n hx hb d_L_law_346 rfl (lv_at hl 4 rfl) ?_
  refine lv_iload hx hb d_L_law_347 (lv_at hl 0 rfl) ?_
  refine lv_iconst (v := 4) hx hb d_L_law_349 (by decide) ?_
  refine lv_iadd hx hb d_L_law_350 ?_
  refine sl_ld (j := iv) (d := 4) hx hb hX hbl hbA hS hL (by omega) d_L_law_351 ?_
  refine lv_i2l (v := (xs (iv + 4)).toInt64) hx hb d_L_law_352 rfl ?_
  refine lv_ldc2 (v := 4294967295) hx hb hown (hw _ ww_884) d_L_law_353 ?_
  refine lv_land hx hb d_L_law_356 ?_
  refine lv_lor hx hb d_L_law_357 ?_
  refine tp_l (rfl) ?_
  refine lv_aload_n hx hb d_L_law_358 rfl (lv_at hl 4 rfl) ?_
  refine lv_iload hx hb d_L_law_359 (lv_at hl 0 rfl) ?_
  refine lv_iconst (v := 5) hx hb d_L_law_361 (by decide) ?_
  refine lv_iadd hx hb d_L_law_362 ?_
  refine sl_ld (j := iv) (d := 5) hx hb hX hbl hbA hS hL (by omega) d_L_law_363 ?_
  refine lv_i2l (v := (xs (iv + 5)).toInt64) hx hb d_L_law_364 rfl ?_
  refine lv_bipush (v := 32) hx hb d_L_law_365 (by decide) ?_
  refine lv_lshl (v := ((xs (iv + 5)).toInt64) <<< ((32 : Int32).toInt64 &&& 63)) hx hb d_L_law_367 rfl ?_
  refine lv_aload_n hx hb d_L_law_368 rfl (lv_at hl 4 rfl) ?_
  refine lv_iload hx hb d_L_law_369 (lv_at hl 0 rfl) ?_
  refine lv_bipush (v := 6) hx hb d_L_law_371 (by decide) ?_
  refine lv_iadd hx hb d_L_law_373 ?_
  refine sl_ld (j := iv) (d := 6) hx hb hX hbl hbA hS hL (by omega) d_L_law_374 ?_
  refine lv_i2l (v := (xs (iv + 6)).toInt64) hx hb d_L_law_375 rfl ?_
  refine lv_ldc2 (v := 4294967295) hx hb hown (hw _ ww_884) d_L_law_376 ?_
  refine lv_land hx hb d_L_law_379 ?_
  refine lv_lor hx hb d_L_law_380 ?_
  refine tp_l (rfl) ?_
  refine lv_aload_n hx hb d_L_law_381 rfl (lv_at hl 1 rfl) ?_
  have hC9 : List.map (fun i => ((lw_W ct hd us op hm qo qa fu au ns n ck n ck th hh a1 a2 a3 a4 a5 a6 a7 a8 a9 b0 b1 b2 b3 b4 b5 b6 b7 b8 b9 b10 og fo ad eu es) : va_W)[i]?) [22, 23, 21] = List.map some ([(hd, .inr (0, [.ref us, .ref op, .int (nI n), .int ck])), (us, .inl ((ct 3), 8, .inr (.inr (.inr (.inr fu))))), (qo, .inl ((ct 1), 1, .inr (.inl og)))] : va_W) := (wc_c rfl (wc_c rfl (wc_c rfl rfl)))
  have hn9 : va_nd [22, 23, 21] = true := by decide
  have hPc : va_P G classes [(hd, .inr (0, [.ref us, .ref op, .int (nI n), .int ck])), (us, .inl ((ct 3), 8, .inr (.inr (.inr (.inr fu))))), (qo, .inl ((ct 1), 1, .inr (.inl og)))] H := lp_sub hP [22, 23, 21] hC9
  have hDc := hD.sub (ws' := [(hd, .inr (0, [.ref us, .ref op, .int (nI n), .int ck])), (us, .inl ((ct 3), 8, .inr (.inr (.inr (.inr fu))))), (qo, .inl ((ct 1), 1, .inr (.inl og)))]) [22, 23, 21] hn9 hC9
  have hW9 : wk_sets ((lw_W ct hd us op hm qo qa fu au ns n ck n ck th hh a1 a2 a3 a4 a5 a6 a7 a8 a9 b0 b1 b2 b3 b4 b5 b6 b7 b8 b9 b10 og fo ad eu es) : va_W) [22, 23, 21] ([(hd, .inr (0, [.ref us, .ref op, .int (nI n), .int ck])), (us, .inl ((ct 3), 8, .inr (.inr (.inr (.inr fu))))), (qo, .inl ((ct 1), 1, .inr (.inl og)))] : va_W) = ((lw_W ct hd us op hm qo qa fu au ns n ck n ck th hh a1 a2 a3 a4 a5 a6 a7 a8 a9 b0 b1 b2 b3 b4 b5 b6 b7 b8 b9 b10 og fo ad eu es) : va_W) := (ws_k rfl (ws_k rfl (ws_k rfl rfl)))
  refine wk_i (sh_run (As := [.ref hd, .int (nI k), .int (xs (iv + 2)), .long (lj (xs (iv + 3)) (xs (iv + 4))), .long (lj (xs (iv + 5)) (xs (iv + 6))), .ref qo]) (rest := []) (hs := [(0, 14, 17, 13), (0, 14, 21, 15)]) ⟨hx, hb, hml, hown, hts⟩ (c_L_client2 l hfl G ct H.size hd us op n ck fu (au k) k (xs (iv + 2)) (lj (xs (iv + 3)) (xs (iv + 4))) (lj (xs (iv + 5)) (xs (iv + 6))) qo og d_hk d_hfu d_hwi d_hn) wk_ret ⟨hw, ww_185, ww_0, ⟨by decide, by decide⟩, np_L_client, ww_183, ww_184, rfl, rfl, Nat.le_of_ble_eq_true rfl, Nat.le_of_ble_eq_true rfl⟩ (wk_pre5 hPc hK hDc hD hS hA [22, 23, 21] hC9 hZ hR hN) rfl hl.1 rfl (lv_room (Nat.le_of_ble_eq_true rfl)) d_L_law_382 ⟨by omega, by omega⟩) hP hD hS hA [22, 23, 21] hn9 hC9 (fun _ => by simp only [List.map_cons, List.map_nil]) (fun _ H locs _ hP hD hS => ?_)
  have hP : va_P G classes (lw_W ct hd us op hm qo qa fu au ns n ck n ck th hh a1 a2 a3 a4 a5 a6 a7 a8 a9 b0 b1 b2 b3 b4 b5 b6 b7 b8 b9 b10 og fo ad eu es) H := lp_P hW9 hP
  have hD : va_D A (lw_W ct hd us op hm qo qa fu au ns n ck n ck th hh a1 a2 a3 a4 a5 a6 a7 a8 a9 b0 b1 b2 b3 b4 b5 b6 b7 b8 b9 b10 og fo ad eu es) := lp_D hW9 hD
  refine lv_istore (lv' := [(5, .int 2), (4, .int (nI iv)), (3, .ref qo), (2, .ref hm), (1, .ref hd), (0, .ref b)]) hx hb d_L_law_385 hl (Nat.le_of_ble_eq_true rfl) rfl (fun ls hl => ?_)
  refine lv_aload_n hx hb d_L_law_387 rfl (lv_at hl 3 rfl) ?_
  refine lv_aload_n hx hb d_L_law_388 rfl (lv_at hl 5 rfl) ?_
  refine lv_iload hx hb d_L_law_389 (lv_at hl 1 rfl) ?_
  refine lv_iconst (v := 1) hx hb d_L_law_391 (by decide) ?_
  refine lv_iadd hx hb d_L_law_392 ?_
  refine sl_ld (j := iv) (d := 1) hx hb hX hbl hbA hS hL (by omega) d_L_law_393 ?_
  refine tp_i (hv1) ?_
  refine lv_aload_n hx hb d_L_law_394 rfl (lv_at hl 5 rfl) ?_
  refine lv_iload hx hb d_L_law_395 (lv_at hl 1 rfl) ?_
  refine lv_iconst (v := 2) hx hb d_L_law_397 (by decide) ?_
  refine lv_iadd hx hb d_L_law_398 ?_
  refine sl_ld (j := iv) (d := 2) hx hb hX hbl hbA hS hL (by omega) d_L_law_399 ?_
  refine lv_aload_n hx hb d_L_law_400 rfl (lv_at hl 5 rfl) ?_
  refine lv_iload hx hb d_L_law_401 (lv_at hl 1 rfl) ?_
  refine lv_iconst (v := 3) hx hb d_L_law_403 (by decide) ?_
  refine lv_iadd hx hb d_L_law_404 ?_
  refine sl_ld (j := iv) (d := 3) hx hb hX hbl hbA hS hL (by omega) d_L_law_405 ?_
  refine lv_i2l (v := (xs (iv + 3)).toInt64) hx hb d_L_law_406 rfl ?_
  refine lv_bipush (v := 32) hx hb d_L_law_407 (by decide) ?_
  refine lv_lshl (v := ((xs (iv + 3)).toInt64) <<< ((32 : Int32).toInt64 &&& 63)) hx hb d_L_law_409 rfl ?_
  refine lv_aload_n hx hb d_L_law_410 rfl (lv_at hl 5 rfl) ?_
  refine lv_iload hx hb d_L_law_411 (lv_at hl 1 rfl) ?_
  refine lv_iconst (v := 4) hx hb d_L_law_413 (by decide) ?_
  refine lv_iadd hx hb d_L_law_414 ?_
  refine sl_ld (j := iv) (d := 4) hx hb hX hbl hbA hS hL (by omega) d_L_law_415 ?_
  refine lv_i2l (v := (xs (iv + 4)).toInt64) hx hb d_L_law_416 rfl ?_
  refine lv_ldc2 (v := 4294967295) hx hb hown (hw _ ww_884) d_L_law_417 ?_
  refine lv_land hx hb d_L_law_420 ?_
  refine lv_lor hx hb d_L_law_421 ?_
  refine tp_l (rfl) ?_
  refine lv_aload_n hx hb d_L_law_422 rfl (lv_at hl 5 rfl) ?_
  refine lv_iload hx hb d_L_law_423 (lv_at hl 1 rfl) ?_
  refine lv_iconst (v := 5) hx hb d_L_law_425 (by decide) ?_
  refine lv_iadd hx hb d_L_law_426 ?_
  refine sl_ld (j := iv) (d := 5) hx hb hX hbl hbA hS hL (by omega) d_L_law_427 ?_
  refine lv_i2l (v := (xs (iv + 5)).toInt64) hx hb d_L_law_428 rfl ?_
  refine lv_bipush (v := 32) hx hb d_L_law_429 (by decide) ?_
  refine lv_lshl (v := ((xs (iv + 5)).toInt64) <<< ((32 : Int32).toInt64 &&& 63)) hx hb d_L_law_431 rfl ?_
  refine lv_aload_n hx hb d_L_law_432 rfl (lv_at hl 5 rfl) ?_
  refine lv_iload hx hb d_L_law_433 (lv_at hl 1 rfl) ?_
  refine lv_bipush (v := 6) hx hb d_L_law_435 (by decide) ?_
  refine lv_iadd hx hb d_L_law_437 ?_
  refine sl_ld (j := iv) (d := 6) hx hb hX hbl hbA hS hL (by omega) d_L_law_438 ?_
  refine lv_i2l (v := (xs (iv + 6)).toInt64) hx hb d_L_law_439 rfl ?_
  refine lv_ldc2 (v := 4294967295) hx hb hown (hw _ ww_884) d_L_law_440 ?_
  refine lv_land hx hb d_L_law_443 ?_
  refine lv_lor hx hb d_L_law_444 ?_
  refine tp_l (rfl) ?_
  have hPc : va_P G classes [(hm, .inr (4, [.int th, .long ns.toInt64, .int ck, .long hh, .ref (qa 1), .ref (qa 2), .ref (qa 3), .ref (qa 4), .ref (qa 5), .ref (qa 6), .ref (qa 7), .ref (qa 8), .int (nI n), .ref (qa 9), .ref (qa 10), .ref (qa 11), .ref (qa 12), .ref (qa 13), .ref (qa 14), .ref (qa 15), .ref (qa 16), .ref (qa 17), .ref (qa 18), .ref (qa 19), .ref (qa 20)]))] H := hP.sub [0] rfl
  have hDc := hD.sub (ws' := [(hm, .inr (4, [.int th, .long ns.toInt64, .int ck, .long hh, .ref (qa 1), .ref (qa 2), .ref (qa 3), .ref (qa 4), .ref (qa 5), .ref (qa 6), .ref (qa 7), .ref (qa 8), .int (nI n), .ref (qa 9), .ref (qa 10), .ref (qa 11), .ref (qa 12), .ref (qa 13), .ref (qa 14), .ref (qa 15), .ref (qa 16), .ref (qa 17), .ref (qa 18), .ref (qa 19), .ref (qa 20)]))]) [0] (by decide) rfl
  refine wk_i (va_runV (As := [.int (nI k), .int (xs (iv + 2)), .long (lj (xs (iv + 3)) (xs (iv + 4))), .long (lj (xs (iv + 5)) (xs (iv + 6)))]) (rest := []) ⟨hx, hb, hml, hown, hts⟩ (c_M_client2 l G ct H.size hm th ns.toInt64 ck hh (qa 1) (qa 2) (qa 3) (qa 4) (qa 5) (qa 6) (qa 7) (qa 8) (qa 9) (qa 10) (qa 11) (qa 12) (qa 13) (qa 14) (qa 15) (qa 16) (qa 17) (qa 18) (qa 19) (qa 20) n (nI k) (xs (iv + 2)) (lj (xs (iv + 3)) (xs (iv + 4))) (lj (xs (iv + 5)) (xs (iv + 6))) m_hui m_hwi m_hn) (tb_V hw cy_M_client ww_787 ww_788 ww_789 rfl rfl ⟨Nat.le_of_ble_eq_true rfl, Nat.le_of_ble_eq_true rfl⟩) (wk_preV (ci := 4) (q0 := 0) hPc hK hDc rfl rfl) rfl rfl hl.1 rfl (lv_room (Nat.le_of_ble_eq_true rfl)) d_L_law_445 ⟨by omega, by omega⟩) hP hD hS hA [0] (by decide) rfl (fun _ => by simp only [List.map_cons, List.map_nil]) (fun _ H locs ok1104 hP hD hS => ?_)
  have hP : va_P G classes (lw_W ct hd us op hm qo qa fu au ns n ck n ck 2 hh a1 a2 a3 a4 a5 a6 a7 a8 a9 b0 b1 b2 b3 b4 b5 b6 b7 b8 b9 b10 og fo ad eu es) H := hP
  have hD : va_D A (lw_W ct hd us op hm qo qa fu au ns n ck n ck 2 hh a1 a2 a3 a4 a5 a6 a7 a8 a9 b0 b1 b2 b3 b4 b5 b6 b7 b8 b9 b10 og fo ad eu es) := hD
  refine lv_istore (lv' := [(6, .int 0), (5, .int 2), (4, .int (nI iv)), (3, .ref qo), (2, .ref hm), (1, .ref hd), (0, .ref b)]) hx hb d_L_law_448 hl (Nat.le_of_ble_eq_true rfl) rfl (fun ls hl => ?_)
  refine lv_aload_n hx hb d_L_law_450 rfl (lv_at hl 4 rfl) ?_
  have hPc : va_P G classes [(hm, .inr (4, [.int 2, .long ns.toInt64, .int ck, .long hh, .ref (qa 1), .ref (qa 2), .ref (qa 3), .ref (qa 4), .ref (qa 5), .ref (qa 6), .ref (qa 7), .ref (qa 8), .int (nI n), .ref (qa 9), .ref (qa 10), .ref (qa 11), .ref (qa 12), .ref (qa 13), .ref (qa 14), .ref (qa 15), .ref (qa 16), .ref (qa 17), .ref (qa 18), .ref (qa 19), .ref (qa 20)]))] H := hP.sub [0] rfl
  have hDc := hD.sub (ws' := [(hm, .inr (4, [.int 2, .long ns.toInt64, .int ck, .long hh, .ref (qa 1), .ref (qa 2), .ref (qa 3), .ref (qa 4), .ref (qa 5), .ref (qa 6), .ref (qa 7), .ref (qa 8), .int (nI n), .ref (qa 9), .ref (qa 10), .ref (qa 11), .ref (qa 12), .ref (qa 13), .ref (qa 14), .ref (qa 15), .ref (qa 16), .ref (qa 17), .ref (qa 18), .ref (qa 19), .ref (qa 20)]))]) [0] (by decide) rfl
  refine vp_callSi (W.runV (As := []) (rest := []) ⟨hx, hb, hml, hown, hts⟩ (c_M_thrown l G ct H.size hm 2 ns.toInt64 ck hh (qa 1) (qa 2) (qa 3) (qa 4) (qa 5) (qa 6) (qa 7) (qa 8) (qa 9) (qa 10) (qa 11) (qa 12) (qa 13) (qa 14) (qa 15) (qa 16) (qa 17) (qa 18) (qa 19) (qa 20) n) (tb_V hw cy_M_thrown ww_719 ww_720 ww_721 rfl rfl ⟨Nat.le_of_ble_eq_true rfl, Nat.le_of_ble_eq_true rfl⟩) (wk_preV (ci := 4) (q0 := 0) hPc hK hDc rfl rfl) rfl rfl hl.1 rfl (lv_room (Nat.le_of_ble_eq_true rfl)) d_L_law_451 ⟨by omega, by omega⟩) (fun r1105 er1105 => ?_)
  subst er1105
  refine lv_iload hx hb d_L_law_454 (lv_at hl 1 rfl) ?_
  refine lv_icmp_eq (tgt := 461) hx hb d_L_law_456 (by decide) (fun h1106 => ?_) (fun h1106 => ?_)
  · refine lv_iload hx hb d_L_law_461 (lv_at hl 1 rfl) ?_
    refine lv_if_ne (tgt := 478) hx hb d_L_law_463 (by decide) (fun h1107 => ?_) (fun h1107 => ?_)
    · refine lv_goto (tgt := 1005) hx hb d_L_law_478 (by decide) ?_
      refine W.widen (k := cells + 1) (n := slots + 13) (by omega) (by omega) ?_
      exact kk n ck 2 hh a1 a2 a3 a4 a5 a6 a7 a8 a9 b0 b1 b2 b3 b4 b5 b6 b7 b8 b9 b10 og fo ad eu es H locs _ hnew hP hD hS (lv_sub hl [2, 3, 4, 5, 6] rfl)
    · exact absurd h1107 (by decide)
  · exact absurd h1106 (by decide)
set_option maxHeartbeats 4000000 in
set_option maxRecDepth 100000 in
theorem lq_server1W1 {k : Nat} {uo : Nat} {ul : Int64} {uv : Nat} (C0 : lc_C p l s m meth c b L xs G ct A) (hiv : iv + 7 ≤ L) (hcc : cells + 1 ≤ room_1.cells) (hzz : slots + 13 ≤ room_1.slots)
    (hP : va_P G classes (lw_W ct hd us op hm qo qa fu au ns n ck n ck th hh a1 a2 a3 a4 a5 a6 a7 a8 a9 b0 b1 b2 b3 b4 b5 b6 b7 b8 b9 b10 og fo ad eu es) H) (hD : va_D A (lw_W ct hd us op hm qo qa fu au ns n ck n ck th hh a1 a2 a3 a4 a5 a6 a7 a8 a9 b0 b1 b2 b3 b4 b5 b6 b7 b8 b9 b10 og fo ad eu es)) (hS : va_S A s.heap H locs) (hl : lv_has ls 8 [(4, .int (nI iv)), (3, .ref qo), (2, .ref hm), (1, .ref hd), (0, .ref b)])
    (kk : lc_K p l e s m below meth c b L xs G ct A hd us op hm qo qa fu au ns iv (cells + 1) (slots + 13) Q)
    (hv1 : xs (iv + 1) = nI k) (hk8 : k < 8) (heu : eu k = .inr (1, [.int (nI k), .int ns, .int (a1 k), .long (lN uo), .long ul, .long (lN uv), .int (a5 k), .int (a6 k), .int (a7 k), .int (a8 k)])) (d_hk : k < 8) (d_hfu : fu k = some (au k)) (d_hwi : wy_in (xs (iv + 2))) (d_hn : n < 40) (d_hbl : ¬ us_bl (a5 k) (a8 k) ck) (m_hk : k < 8) (m_hn : n < 40) (m_hwy : (xs (iv + 2)) = 0) (m_how : a1 k = (xs (iv + 2))) (m_hbl : ¬ sm_bl (a5 k) (a8 k) ck)  (hnew : ∀ q9 : Nat, li_R fu au ns (n + 1) a1 a2 a3 a4 a5 a6 a7 a8 (upd a9 n 1) (upd b0 n (xs (iv + 2))) (upd b1 n (nI k)) (upd b2 n 0) (upd b3 n ck) (vp_updL b4 n (lN (sc_n (lj (xs (iv + 3)) (xs (iv + 4)))))) b5 (vp_updL b6 n (a2 k)) b7 b8 b9 (vp_updL b10 n 0) (va_up fo n (some q9)) (va_up ad n q9) eu (va_up es n (.inr (3, [.ref (au k), .int (xs (iv + 2)), .long (lN (sc_n (lj (xs (iv + 3)) (xs (iv + 4))))), .int ck, .int 0, .long (lN 0), .long (lN 0), .long 0, .long 0, .long 0, .long 0, .long (lN (sv_r0 ns (nI k) (xs (iv + 2)) (a1 k) uo uv))]))))  : W p l e room_1 s m #[Value.ref b] below meth c H locs cells slots Q (F0 m 481 ls []) := by
  obtain ⟨hx, hb, hr, hml, hown, hw, hK, hZ, hR, hN, hfl, hA, hbA, hX, hbl, hL, hlocks⟩ := C0
  have hts := hw
  have hP : va_P G classes (lw_W ct hd us op hm qo qa fu au ns n ck n ck th hh a1 a2 a3 a4 a5 a6 a7 a8 a9 b0 b1 b2 b3 b4 b5 b6 b7 b8 b9 b10 og fo ad eu es) H := hP
  have hD : va_D A (lw_W ct hd us op hm qo qa fu au ns n ck n ck th hh a1 a2 a3 a4 a5 a6 a7 a8 a9 b0 b1 b2 b3 b4 b5 b6 b7 b8 b9 b10 og fo ad eu es) := hD
  refine lv_aload_n hx hb d_L_law_481 rfl (lv_at hl 3 rfl) ?_
  refine lv_aload_n hx hb d_L_law_482 rfl (lv_at hl 4 rfl) ?_
  refine lv_iload hx hb d_L_law_483 (lv_at hl 0 rfl) ?_
  refine lv_iconst (v := 1) hx hb d_L_law_485 (by decide) ?_
  refine lv_iadd hx hb d_L_law_486 ?_
  refine sl_ld (j := iv) (d := 1) hx hb hX hbl hbA hS hL (by omega) d_L_law_487 ?_
  refine tp_i (hv1) ?_
  refine lv_aload_n hx hb d_L_law_488 rfl (lv_at hl 4 rfl) ?_
  refine lv_iload hx hb d_L_law_489 (lv_at hl 0 rfl) ?_
  refine lv_iconst (v := 2) hx hb d_L_law_491 (by decide) ?_
  refine lv_iadd hx hb d_L_law_492 ?_
  refine sl_ld (j := iv) (d := 2) hx hb hX hbl hbA hS hL (by omega) d_L_law_493 ?_
  refine lv_aload_n hx hb d_L_law_494 rfl (lv_at hl 4 rfl) ?_
  refine lv_iload hx hb d_L_law_495 (lv_at hl 0 rfl) ?_
  refine lv_iconst (v := 3) hx hb d_L_law_497 (by decide) ?_
  refine lv_iadd hx hb d_L_law_498 ?_
  refine sl_ld (j := iv) (d := 3) hx hb hX hbl hbA hS hL (by omega) d_L_law_499 ?_
  refine lv_i2l (v := (xs (iv + 3)).toInt64) hx hb d_L_law_500 rfl ?_
  refine lv_bipush (v := 32) hx hb d_L_law_501 (by decide) ?_
  refine lv_lshl (v := ((xs (iv + 3)).toInt64) <<< ((32 : Int32).toInt64 &&& 63)) hx hb d_L_law_503 rfl ?_
  refine lv_aload_n hx hb d_L_law_504 rfl (lv_at hl 4 rfl) ?_
  refine lv_iload hx hb d_L_law_505 (lv_at hl 0 rfl) ?_
  refine lv_iconst (v := 4) hx hb d_L_law_507 (by decide) ?_
  refine lv_iadd hx hb d_L_law_508 ?_
  refine sl_ld (j := iv) (d := 4) hx hb hX hbl hbA hS hL (by omega) d_L_law_509 ?_
  refine lv_i2l (v := (xs (iv + 4)).toInt64) hx hb d_L_law_510 rfl ?_
  refine lv_ldc2 (v := 4294967295) hx hb hown (hw _ ww_884) d_L_law_511 ?_
  refine lv_land hx hb d_L_law_514 ?_
  refine lv_lor hx hb d_L_law_515 ?_
  refine tp_l (rfl) ?_
  refine lv_aload_n hx hb d_L_law_516 rfl (lv_at hl 1 rfl) ?_
  have hC9 : List.map (fun i => ((lw_W ct hd us op hm qo qa fu au ns n ck n ck th hh a1 a2 a3 a4 a5 a6 a7 a8 a9 b0 b1 b2 b3 b4 b5 b6 b7 b8 b9 b10 og fo ad eu es) : va_W)[i]?) [22, 23, 24, 25 + k, 21] = List.map some ([(hd, .inr (0, [.ref us, .ref op, .int (nI n), .int ck])), (us, .inl ((ct 3), 8, .inr (.inr (.inr (.inr fu))))), (op, .inl ((ct 4), 40, .inr (.inr (.inr (.inr fo))))), ((au k), .inr (1, [.int (nI k), .int ns, .int (a1 k), .long (lN uo), .long ul, .long (lN uv), .int (a5 k), .int (a6 k), .int (a7 k), .int (a8 k)])), (qo, .inl ((ct 1), 1, .inr (.inl og)))] : va_W) := (wc_c rfl (wc_c rfl (wc_c rfl (wc_c (lw_u rfl hk8 heu) (wc_c rfl rfl)))))
  have hn9 : va_nd [22, 23, 24, 25 + k, 21] = true := (nd_c (by simp only [List.mem_cons, List.not_mem_nil, or_false]; omega) (nd_c (by simp only [List.mem_cons, List.not_mem_nil, or_false]; omega) (nd_c (by simp only [List.mem_cons, List.not_mem_nil, or_false]; omega) (nd_c (by simp only [List.mem_cons, List.not_mem_nil, or_false]; omega) (nd_c List.not_mem_nil rfl)))))
  have hPc : va_P G classes [(hd, .inr (0, [.ref us, .ref op, .int (nI n), .int ck])), (us, .inl ((ct 3), 8, .inr (.inr (.inr (.inr fu))))), (op, .inl ((ct 4), 40, .inr (.inr (.inr (.inr fo))))), ((au k), .inr (1, [.int (nI k), .int ns, .int (a1 k), .long (lN uo), .long ul, .long (lN uv), .int (a5 k), .int (a6 k), .int (a7 k), .int (a8 k)])), (qo, .inl ((ct 1), 1, .inr (.inl og)))] H := lp_sub hP [22, 23, 24, 25 + k, 21] hC9
  have hDc := hD.sub (ws' := [(hd, .inr (0, [.ref us, .ref op, .int (nI n), .int ck])), (us, .inl ((ct 3), 8, .inr (.inr (.inr (.inr fu))))), (op, .inl ((ct 4), 40, .inr (.inr (.inr (.inr fo))))), ((au k), .inr (1, [.int (nI k), .int ns, .int (a1 k), .long (lN uo), .long ul, .long (lN uv), .int (a5 k), .int (a6 k), .int (a7 k), .int (a8 k)])), (qo, .inl ((ct 1), 1, .inr (.inl og)))]) [22, 23, 24, 25 + k, 21] hn9 hC9
  have hW9 : ∀ q9 : Nat, wk_sets ((lw_W ct hd us op hm qo qa fu au ns n ck n ck th hh a1 a2 a3 a4 a5 a6 a7 a8 a9 b0 b1 b2 b3 b4 b5 b6 b7 b8 b9 b10 og fo ad eu es) : va_W) [22, 23, 24, 25 + k, 21] ([(hd, .inr (0, [.ref us, .ref op, .int (nI (n + 1)), .int ck])), (us, .inl ((ct 3), 8, .inr (.inr (.inr (.inr fu))))), (op, .inl ((ct 4), 40, .inr (.inr (.inr (.inr (va_up fo n (some q9))))))), ((au k), .inr (1, [.int (nI k), .int ns, .int (a1 k), .long (lN uo), .long ul, .long (lN uv), .int (a5 k), .int (a6 k), .int (a7 k), .int (a8 k)])), (qo, .inl ((ct 1), 1, .inr (.inl (vp_updL og 0 ((nI n).toInt64)))))] : va_W) ++ ([(q9, .inr (3, [.ref (au k), .int (xs (iv + 2)), .long (lN (sc_n (lj (xs (iv + 3)) (xs (iv + 4))))), .int ck, .int 0, .long (lN 0), .long (lN 0), .long 0, .long 0, .long 0, .long 0, .long (lN (sv_r0 ns (nI k) (xs (iv + 2)) (a1 k) uo uv))]))] : va_W) = ((lw_W ct hd us op hm qo qa fu au ns (n + 1) ck n ck th hh a1 a2 a3 a4 a5 a6 a7 a8 a9 b0 b1 b2 b3 b4 b5 b6 b7 b8 b9 b10 (vp_updL og 0 ((nI n).toInt64)) (va_up fo n (some q9)) (va_up ad n q9) eu (va_up es n (.inr (3, [.ref (au k), .int (xs (iv + 2)), .long (lN (sc_n (lj (xs (iv + 3)) (xs (iv + 4))))), .int ck, .int 0, .long (lN 0), .long (lN 0), .long 0, .long 0, .long 0, .long 0, .long (lN (sv_r0 ns (nI k) (xs (iv + 2)) (a1 k) uo uv))])))) : va_W) := fun q9 => (congrArg (· ++ ([(q9, .inr (3, [.ref (au k), .int (xs (iv + 2)), .long (lN (sc_n (lj (xs (iv + 3)) (xs (iv + 4))))), .int ck, .int 0, .long (lN 0), .long (lN 0), .long 0, .long 0, .long 0, .long 0, .long (lN (sv_r0 ns (nI k) (xs (iv + 2)) (a1 k) uo uv))]))] : va_W)) (show wk_sets ((lw_W ct hd us op hm qo qa fu au ns n ck n ck th hh a1 a2 a3 a4 a5 a6 a7 a8 a9 b0 b1 b2 b3 b4 b5 b6 b7 b8 b9 b10 og fo ad eu es) : va_W) [22, 23, 24, 25 + k, 21] ([(hd, .inr (0, [.ref us, .ref op, .int (nI (n + 1)), .int ck])), (us, .inl ((ct 3), 8, .inr (.inr (.inr (.inr fu))))), (op, .inl ((ct 4), 40, .inr (.inr (.inr (.inr (va_up fo n (some q9))))))), ((au k), .inr (1, [.int (nI k), .int ns, .int (a1 k), .long (lN uo), .long ul, .long (lN uv), .int (a5 k), .int (a6 k), .int (a7 k), .int (a8 k)])), (qo, .inl ((ct 1), 1, .inr (.inl (vp_updL og 0 ((nI n).toInt64)))))] : va_W) = (([(hm, .inr (4, [.int th, .long ns.toInt64, .int ck, .long hh, .ref (qa 1), .ref (qa 2), .ref (qa 3), .ref (qa 4), .ref (qa 5), .ref (qa 6), .ref (qa 7), .ref (qa 8), .int (nI n), .ref (qa 9), .ref (qa 10), .ref (qa 11), .ref (qa 12), .ref (qa 13), .ref (qa 14), .ref (qa 15), .ref (qa 16), .ref (qa 17), .ref (qa 18), .ref (qa 19), .ref (qa 20)])), ((qa 1), .inl ((ct 0), 8, .inl a1)), ((qa 2), .inl ((ct 1), 8, .inr (.inl a2))), ((qa 3), .inl ((ct 1), 8, .inr (.inl a3))), ((qa 4), .inl ((ct 1), 8, .inr (.inl a4))), ((qa 5), .inl ((ct 0), 8, .inl a5)), ((qa 6), .inl ((ct 0), 8, .inl a6)), ((qa 7), .inl ((ct 0), 8, .inl a7)), ((qa 8), .inl ((ct 0), 8, .inl a8)), ((qa 9), .inl ((ct 2), 40, .inl a9)), ((qa 10), .inl ((ct 0), 40, .inl b0)), ((qa 11), .inl ((ct 0), 40, .inl b1)), ((qa 12), .inl ((ct 0), 40, .inl b2)), ((qa 13), .inl ((ct 0), 40, .inl b3)), ((qa 14), .inl ((ct 1), 40, .inr (.inl b4))), ((qa 15), .inl ((ct 1), 40, .inr (.inl b5))), ((qa 16), .inl ((ct 1), 40, .inr (.inl b6))), ((qa 17), .inl ((ct 1), 40, .inr (.inl b7))), ((qa 18), .inl ((ct 1), 40, .inr (.inl b8))), ((qa 19), .inl ((ct 1), 40, .inr (.inl b9))), ((qa 20), .inl ((ct 1), 40, .inr (.inl b10))), (qo, .inl ((ct 1), 1, .inr (.inl (vp_updL og 0 ((nI n).toInt64))))), (hd, .inr (0, [.ref us, .ref op, .int (nI (n + 1)), .int ck])), (us, .inl ((ct 3), 8, .inr (.inr (.inr (.inr fu))))), (op, .inl ((ct 4), 40, .inr (.inr (.inr (.inr (va_up fo n (some q9)))))))] ++ (ix_w 8 au eu ++ ix_w n ad es)) : va_W) from (ws_c (ws' := ([(hm, .inr (4, [.int th, .long ns.toInt64, .int ck, .long hh, .ref (qa 1), .ref (qa 2), .ref (qa 3), .ref (qa 4), .ref (qa 5), .ref (qa 6), .ref (qa 7), .ref (qa 8), .int (nI n), .ref (qa 9), .ref (qa 10), .ref (qa 11), .ref (qa 12), .ref (qa 13), .ref (qa 14), .ref (qa 15), .ref (qa 16), .ref (qa 17), .ref (qa 18), .ref (qa 19), .ref (qa 20)])), ((qa 1), .inl ((ct 0), 8, .inl a1)), ((qa 2), .inl ((ct 1), 8, .inr (.inl a2))), ((qa 3), .inl ((ct 1), 8, .inr (.inl a3))), ((qa 4), .inl ((ct 1), 8, .inr (.inl a4))), ((qa 5), .inl ((ct 0), 8, .inl a5)), ((qa 6), .inl ((ct 0), 8, .inl a6)), ((qa 7), .inl ((ct 0), 8, .inl a7)), ((qa 8), .inl ((ct 0), 8, .inl a8)), ((qa 9), .inl ((ct 2), 40, .inl a9)), ((qa 10), .inl ((ct 0), 40, .inl b0)), ((qa 11), .inl ((ct 0), 40, .inl b1)), ((qa 12), .inl ((ct 0), 40, .inl b2)), ((qa 13), .inl ((ct 0), 40, .inl b3)), ((qa 14), .inl ((ct 1), 40, .inr (.inl b4))), ((qa 15), .inl ((ct 1), 40, .inr (.inl b5))), ((qa 16), .inl ((ct 1), 40, .inr (.inl b6))), ((qa 17), .inl ((ct 1), 40, .inr (.inl b7))), ((qa 18), .inl ((ct 1), 40, .inr (.inl b8))), ((qa 19), .inl ((ct 1), 40, .inr (.inl b9))), ((qa 20), .inl ((ct 1), 40, .inr (.inl b10))), (qo, .inl ((ct 1), 1, .inr (.inl og))), (hd, .inr (0, [.ref us, .ref op, .int (nI (n + 1)), .int ck])), (us, .inl ((ct 3), 8, .inr (.inr (.inr (.inr fu))))), (op, .inl ((ct 4), 40, .inr (.inr (.inr (.inr fo)))))] ++ (ix_w 8 au eu ++ ix_w n ad es))) rfl (ws_k rfl (ws_c (ws' := ([(hm, .inr (4, [.int th, .long ns.toInt64, .int ck, .long hh, .ref (qa 1), .ref (qa 2), .ref (qa 3), .ref (qa 4), .ref (qa 5), .ref (qa 6), .ref (qa 7), .ref (qa 8), .int (nI n), .ref (qa 9), .ref (qa 10), .ref (qa 11), .ref (qa 12), .ref (qa 13), .ref (qa 14), .ref (qa 15), .ref (qa 16), .ref (qa 17), .ref (qa 18), .ref (qa 19), .ref (qa 20)])), ((qa 1), .inl ((ct 0), 8, .inl a1)), ((qa 2), .inl ((ct 1), 8, .inr (.inl a2))), ((qa 3), .inl ((ct 1), 8, .inr (.inl a3))), ((qa 4), .inl ((ct 1), 8, .inr (.inl a4))), ((qa 5), .inl ((ct 0), 8, .inl a5)), ((qa 6), .inl ((ct 0), 8, .inl a6)), ((qa 7), .inl ((ct 0), 8, .inl a7)), ((qa 8), .inl ((ct 0), 8, .inl a8)), ((qa 9), .inl ((ct 2), 40, .inl a9)), ((qa 10), .inl ((ct 0), 40, .inl b0)), ((qa 11), .inl ((ct 0), 40, .inl b1)), ((qa 12), .inl ((ct 0), 40, .inl b2)), ((qa 13), .inl ((ct 0), 40, .inl b3)), ((qa 14), .inl ((ct 1), 40, .inr (.inl b4))), ((qa 15), .inl ((ct 1), 40, .inr (.inl b5))), ((qa 16), .inl ((ct 1), 40, .inr (.inl b6))), ((qa 17), .inl ((ct 1), 40, .inr (.inl b7))), ((qa 18), .inl ((ct 1), 40, .inr (.inl b8))), ((qa 19), .inl ((ct 1), 40, .inr (.inl b9))), ((qa 20), .inl ((ct 1), 40, .inr (.inl b10))), (qo, .inl ((ct 1), 1, .inr (.inl og))), (hd, .inr (0, [.ref us, .ref op, .int (nI (n + 1)), .int ck])), (us, .inl ((ct 3), 8, .inr (.inr (.inr (.inr fu))))), (op, .inl ((ct 4), 40, .inr (.inr (.inr (.inr (va_up fo n (some q9)))))))] ++ (ix_w 8 au eu ++ ix_w n ad es))) rfl (ws_k (lw_u rfl hk8 heu) (ws_c (ws' := ([(hm, .inr (4, [.int th, .long ns.toInt64, .int ck, .long hh, .ref (qa 1), .ref (qa 2), .ref (qa 3), .ref (qa 4), .ref (qa 5), .ref (qa 6), .ref (qa 7), .ref (qa 8), .int (nI n), .ref (qa 9), .ref (qa 10), .ref (qa 11), .ref (qa 12), .ref (qa 13), .ref (qa 14), .ref (qa 15), .ref (qa 16), .ref (qa 17), .ref (qa 18), .ref (qa 19), .ref (qa 20)])), ((qa 1), .inl ((ct 0), 8, .inl a1)), ((qa 2), .inl ((ct 1), 8, .inr (.inl a2))), ((qa 3), .inl ((ct 1), 8, .inr (.inl a3))), ((qa 4), .inl ((ct 1), 8, .inr (.inl a4))), ((qa 5), .inl ((ct 0), 8, .inl a5)), ((qa 6), .inl ((ct 0), 8, .inl a6)), ((qa 7), .inl ((ct 0), 8, .inl a7)), ((qa 8), .inl ((ct 0), 8, .inl a8)), ((qa 9), .inl ((ct 2), 40, .inl a9)), ((qa 10), .inl ((ct 0), 40, .inl b0)), ((qa 11), .inl ((ct 0), 40, .inl b1)), ((qa 12), .inl ((ct 0), 40, .inl b2)), ((qa 13), .inl ((ct 0), 40, .inl b3)), ((qa 14), .inl ((ct 1), 40, .inr (.inl b4))), ((qa 15), .inl ((ct 1), 40, .inr (.inl b5))), ((qa 16), .inl ((ct 1), 40, .inr (.inl b6))), ((qa 17), .inl ((ct 1), 40, .inr (.inl b7))), ((qa 18), .inl ((ct 1), 40, .inr (.inl b8))), ((qa 19), .inl ((ct 1), 40, .inr (.inl b9))), ((qa 20), .inl ((ct 1), 40, .inr (.inl b10))), (qo, .inl ((ct 1), 1, .inr (.inl (vp_updL og 0 ((nI n).toInt64))))), (hd, .inr (0, [.ref us, .ref op, .int (nI (n + 1)), .int ck])), (us, .inl ((ct 3), 8, .inr (.inr (.inr (.inr fu))))), (op, .inl ((ct 4), 40, .inr (.inr (.inr (.inr (va_up fo n (some q9)))))))] ++ (ix_w 8 au eu ++ ix_w n ad es))) rfl rfl))))))).trans lw_push
  refine wk_iN (w1 := fun q9 : Nat => [(hd, .inr (0, [.ref us, .ref op, .int (nI (n + 1)), .int ck])), (us, .inl ((ct 3), 8, .inr (.inr (.inr (.inr fu))))), (op, .inl ((ct 4), 40, .inr (.inr (.inr (.inr (va_up fo n (some q9))))))), ((au k), .inr (1, [.int (nI k), .int ns, .int (a1 k), .long (lN uo), .long ul, .long (lN uv), .int (a5 k), .int (a6 k), .int (a7 k), .int (a8 k)])), (qo, .inl ((ct 1), 1, .inr (.inl (vp_updL og 0 ((nI n).toInt64)))))]) (w2 := fun q9 : Nat => [(q9, .inr (3, [.ref (au k), .int (xs (iv + 2)), .long (lN (sc_n (lj (xs (iv + 3)) (xs (iv + 4))))), .int ck, .int 0, .long (lN 0), .long (lN 0), .long 0, .long 0, .long 0, .long 0, .long (lN (sv_r0 ns (nI k) (xs (iv + 2)) (a1 k) uo uv))]))]) (sh_run (As := [.ref hd, .int (nI k), .int (xs (iv + 2)), .long (lj (xs (iv + 3)) (xs (iv + 4))), .ref qo]) (rest := []) (hs := [(0, 12, 15, 13), (0, 12, 19, 15)]) ⟨hx, hb, hml, hown, hts⟩ (c_L_server1 l G ct H.size hd us op n ck fu fo (au k) k (nI k) ns (a1 k) uo ul uv (a5 k) (a6 k) (a7 k) (a8 k) (xs (iv + 2)) (lj (xs (iv + 3)) (xs (iv + 4))) qo og d_hk d_hfu d_hwi d_hn d_hbl) wk_ret ⟨hw, ww_378, ww_0, ⟨by decide, by decide⟩, np_L_server, ww_376, ww_377, rfl, rfl, Nat.le_of_ble_eq_true rfl, Nat.le_of_ble_eq_true rfl⟩ (wk_pre hPc hK hDc) rfl hl.1 rfl (lv_room (Nat.le_of_ble_eq_true rfl)) d_L_law_517 ⟨by omega, by omega⟩) hP hD hS hA [22, 23, 24, 25 + k, 21] hn9 hC9 (fun _ => by simp only [List.map_cons, List.map_nil]) (fun q9 H locs _ hP hD hS => ?_)
  have hW9 := hW9 q9
  have hP : va_P G classes (lw_W ct hd us op hm qo qa fu au ns (n + 1) ck n ck th hh a1 a2 a3 a4 a5 a6 a7 a8 a9 b0 b1 b2 b3 b4 b5 b6 b7 b8 b9 b10 (vp_updL og 0 ((nI n).toInt64)) (va_up fo n (some q9)) (va_up ad n q9) eu (va_up es n (.inr (3, [.ref (au k), .int (xs (iv + 2)), .long (lN (sc_n (lj (xs (iv + 3)) (xs (iv + 4))))), .int ck, .int 0, .long (lN 0), .long (lN 0), .long 0, .long 0, .long 0, .long 0, .long (lN (sv_r0 ns (nI k) (xs (iv + 2)) (a1 k) uo uv))])))) H := lp_P hW9 hP
  have hD : va_D A (lw_W ct hd us op hm qo qa fu au ns (n + 1) ck n ck th hh a1 a2 a3 a4 a5 a6 a7 a8 a9 b0 b1 b2 b3 b4 b5 b6 b7 b8 b9 b10 (vp_updL og 0 ((nI n).toInt64)) (va_up fo n (some q9)) (va_up ad n q9) eu (va_up es n (.inr (3, [.ref (au k), .int (xs (iv + 2)), .long (lN (sc_n (lj (xs (iv + 3)) (xs (iv + 4))))), .int ck, .int 0, .long (lN 0), .long (lN 0), .long 0, .long 0, .long 0, .long 0, .long (lN (sv_r0 ns (nI k) (xs (iv + 2)) (a1 k) uo uv))])))) := lp_D hW9 hD
  refine lv_istore (lv' := [(5, .int 0), (4, .int (nI iv)), (3, .ref qo), (2, .ref hm), (1, .ref hd), (0, .ref b)]) hx hb d_L_law_520 hl (Nat.le_of_ble_eq_true rfl) rfl (fun ls hl => ?_)
  refine lv_aload_n hx hb d_L_law_522 rfl (lv_at hl 3 rfl) ?_
  refine lv_aload_n hx hb d_L_law_523 rfl (lv_at hl 5 rfl) ?_
  refine lv_iload hx hb d_L_law_524 (lv_at hl 1 rfl) ?_
  refine lv_iconst (v := 1) hx hb d_L_law_526 (by decide) ?_
  refine lv_iadd hx hb d_L_law_527 ?_
  refine sl_ld (j := iv) (d := 1) hx hb hX hbl hbA hS hL (by omega) d_L_law_528 ?_
  refine tp_i (hv1) ?_
  refine lv_aload_n hx hb d_L_law_529 rfl (lv_at hl 5 rfl) ?_
  refine lv_iload hx hb d_L_law_530 (lv_at hl 1 rfl) ?_
  refine lv_iconst (v := 2) hx hb d_L_law_532 (by decide) ?_
  refine lv_iadd hx hb d_L_law_533 ?_
  refine sl_ld (j := iv) (d := 2) hx hb hX hbl hbA hS hL (by omega) d_L_law_534 ?_
  refine lv_aload_n hx hb d_L_law_535 rfl (lv_at hl 5 rfl) ?_
  refine lv_iload hx hb d_L_law_536 (lv_at hl 1 rfl) ?_
  refine lv_iconst (v := 3) hx hb d_L_law_538 (by decide) ?_
  refine lv_iadd hx hb d_L_law_539 ?_
  refine sl_ld (j := iv) (d := 3) hx hb hX hbl hbA hS hL (by omega) d_L_law_540 ?_
  refine lv_i2l (v := (xs (iv + 3)).toInt64) hx hb d_L_law_541 rfl ?_
  refine lv_bipush (v := 32) hx hb d_L_law_542 (by decide) ?_
  refine lv_lshl (v := ((xs (iv + 3)).toInt64) <<< ((32 : Int32).toInt64 &&& 63)) hx hb d_L_law_544 rfl ?_
  refine lv_aload_n hx hb d_L_law_545 rfl (lv_at hl 5 rfl) ?_
  refine lv_iload hx hb d_L_law_546 (lv_at hl 1 rfl) ?_
  refine lv_iconst (v := 4) hx hb d_L_law_548 (by decide) ?_
  refine lv_iadd hx hb d_L_law_549 ?_
  refine sl_ld (j := iv) (d := 4) hx hb hX hbl hbA hS hL (by omega) d_L_law_550 ?_
  refine lv_i2l (v := (xs (iv + 4)).toInt64) hx hb d_L_law_551 rfl ?_
  refine lv_ldc2 (v := 4294967295) hx hb hown (hw _ ww_884) d_L_law_552 ?_
  refine lv_land hx hb d_L_law_555 ?_
  refine lv_lor hx hb d_L_law_556 ?_
  refine tp_l (rfl) ?_
  have hPc : va_P G classes [(hm, .inr (4, [.int th, .long ns.toInt64, .int ck, .long hh, .ref (qa 1), .ref (qa 2), .ref (qa 3), .ref (qa 4), .ref (qa 5), .ref (qa 6), .ref (qa 7), .ref (qa 8), .int (nI n), .ref (qa 9), .ref (qa 10), .ref (qa 11), .ref (qa 12), .ref (qa 13), .ref (qa 14), .ref (qa 15), .ref (qa 16), .ref (qa 17), .ref (qa 18), .ref (qa 19), .ref (qa 20)])), ((qa 1), .inl ((ct 0), 8, .inl a1)), ((qa 2), .inl ((ct 1), 8, .inr (.inl a2))), ((qa 4), .inl ((ct 1), 8, .inr (.inl a4))), ((qa 5), .inl ((ct 0), 8, .inl a5)), ((qa 8), .inl ((ct 0), 8, .inl a8)), ((qa 9), .inl ((ct 2), 40, .inl a9)), ((qa 10), .inl ((ct 0), 40, .inl b0)), ((qa 11), .inl ((ct 0), 40, .inl b1)), ((qa 12), .inl ((ct 0), 40, .inl b2)), ((qa 13), .inl ((ct 0), 40, .inl b3)), ((qa 14), .inl ((ct 1), 40, .inr (.inl b4))), ((qa 16), .inl ((ct 1), 40, .inr (.inl b6))), ((qa 20), .inl ((ct 1), 40, .inr (.inl b10)))] H := hP.sub [0, 1, 2, 4, 5, 8, 9, 10, 11, 12, 13, 14, 16, 20] rfl
  have hDc := hD.sub (ws' := [(hm, .inr (4, [.int th, .long ns.toInt64, .int ck, .long hh, .ref (qa 1), .ref (qa 2), .ref (qa 3), .ref (qa 4), .ref (qa 5), .ref (qa 6), .ref (qa 7), .ref (qa 8), .int (nI n), .ref (qa 9), .ref (qa 10), .ref (qa 11), .ref (qa 12), .ref (qa 13), .ref (qa 14), .ref (qa 15), .ref (qa 16), .ref (qa 17), .ref (qa 18), .ref (qa 19), .ref (qa 20)])), ((qa 1), .inl ((ct 0), 8, .inl a1)), ((qa 2), .inl ((ct 1), 8, .inr (.inl a2))), ((qa 4), .inl ((ct 1), 8, .inr (.inl a4))), ((qa 5), .inl ((ct 0), 8, .inl a5)), ((qa 8), .inl ((ct 0), 8, .inl a8)), ((qa 9), .inl ((ct 2), 40, .inl a9)), ((qa 10), .inl ((ct 0), 40, .inl b0)), ((qa 11), .inl ((ct 0), 40, .inl b1)), ((qa 12), .inl ((ct 0), 40, .inl b2)), ((qa 13), .inl ((ct 0), 40, .inl b3)), ((qa 14), .inl ((ct 1), 40, .inr (.inl b4))), ((qa 16), .inl ((ct 1), 40, .inr (.inl b6))), ((qa 20), .inl ((ct 1), 40, .inr (.inl b10)))]) [0, 1, 2, 4, 5, 8, 9, 10, 11, 12, 13, 14, 16, 20] (by decide) rfl
  refine wk_i (va_runV (As := [.int (nI k), .int (xs (iv + 2)), .long (lj (xs (iv + 3)) (xs (iv + 4)))]) (rest := []) ⟨hx, hb, hml, hown, hts⟩ (c_M_server1W1 l G ct H.size hm th ns.toInt64 ck hh (qa 1) (qa 2) (qa 3) (qa 4) (qa 5) (qa 6) (qa 7) (qa 8) (qa 9) (qa 10) (qa 11) (qa 12) (qa 13) (qa 14) (qa 15) (qa 16) (qa 17) (qa 18) (qa 19) (qa 20) n a1 a2 a4 a5 a8 a9 b0 b1 b2 b3 b4 b6 b10 k (xs (iv + 2)) (lj (xs (iv + 3)) (xs (iv + 4))) m_hk m_hn m_hwy m_how m_hbl) (tb_V hw cy_M_server ww_796 ww_797 ww_798 rfl rfl ⟨Nat.le_of_ble_eq_true rfl, Nat.le_of_ble_eq_true rfl⟩) (wk_preV (ci := 4) (q0 := 0) hPc hK hDc rfl rfl) rfl rfl hl.1 rfl (lv_room (Nat.le_of_ble_eq_true rfl)) d_L_law_557 ⟨by omega, by omega⟩) hP hD hS hA [0, 1, 2, 4, 5, 8, 9, 10, 11, 12, 13, 14, 16, 20] (by decide) rfl (fun _ => by simp only [List.map_cons, List.map_nil]) (fun z21108 H locs ok1109 hP hD hS => ?_)
  have hP : va_P G classes (lw_W ct hd us op hm qo qa fu au ns (n + 1) ck (n + 1) ck 0 z21108 a1 a2 a3 a4 a5 a6 a7 a8 (upd a9 n 1) (upd b0 n (xs (iv + 2))) (upd b1 n (nI k)) (upd b2 n 0) (upd b3 n ck) (vp_updL b4 n (lN (sc_n (lj (xs (iv + 3)) (xs (iv + 4)))))) b5 (vp_updL b6 n (a2 k)) b7 b8 b9 (vp_updL b10 n 0) (vp_updL og 0 ((nI n).toInt64)) (va_up fo n (some q9)) (va_up ad n q9) eu (va_up es n (.inr (3, [.ref (au k), .int (xs (iv + 2)), .long (lN (sc_n (lj (xs (iv + 3)) (xs (iv + 4))))), .int ck, .int 0, .long (lN 0), .long (lN 0), .long 0, .long 0, .long 0, .long 0, .long (lN (sv_r0 ns (nI k) (xs (iv + 2)) (a1 k) uo uv))])))) H := hP
  have hD : va_D A (lw_W ct hd us op hm qo qa fu au ns (n + 1) ck (n + 1) ck 0 z21108 a1 a2 a3 a4 a5 a6 a7 a8 (upd a9 n 1) (upd b0 n (xs (iv + 2))) (upd b1 n (nI k)) (upd b2 n 0) (upd b3 n ck) (vp_updL b4 n (lN (sc_n (lj (xs (iv + 3)) (xs (iv + 4)))))) b5 (vp_updL b6 n (a2 k)) b7 b8 b9 (vp_updL b10 n 0) (vp_updL og 0 ((nI n).toInt64)) (va_up fo n (some q9)) (va_up ad n q9) eu (va_up es n (.inr (3, [.ref (au k), .int (xs (iv + 2)), .long (lN (sc_n (lj (xs (iv + 3)) (xs (iv + 4))))), .int ck, .int 0, .long (lN 0), .long (lN 0), .long 0, .long 0, .long 0, .long 0, .long (lN (sv_r0 ns (nI k) (xs (iv + 2)) (a1 k) uo uv))])))) := hD
  refine lv_istore (lv' := [(6, .int (nI n)), (5, .int 0), (4, .int (nI iv)), (3, .ref qo), (2, .ref hm), (1, .ref hd), (0, .ref b)]) hx hb d_L_law_560 hl (Nat.le_of_ble_eq_true rfl) rfl (fun ls hl => ?_)
  refine lv_aload_n hx hb d_L_law_562 rfl (lv_at hl 4 rfl) ?_
  have hPc : va_P G classes [(hm, .inr (4, [.int 0, .long ns.toInt64, .int ck, .long z21108, .ref (qa 1), .ref (qa 2), .ref (qa 3), .ref (qa 4), .ref (qa 5), .ref (qa 6), .ref (qa 7), .ref (qa 8), .int (nI (n + 1)), .ref (qa 9), .ref (qa 10), .ref (qa 11), .ref (qa 12), .ref (qa 13), .ref (qa 14), .ref (qa 15), .ref (qa 16), .ref (qa 17), .ref (qa 18), .ref (qa 19), .ref (qa 20)]))] H := hP.sub [0] rfl
  have hDc := hD.sub (ws' := [(hm, .inr (4, [.int 0, .long ns.toInt64, .int ck, .long z21108, .ref (qa 1), .ref (qa 2), .ref (qa 3), .ref (qa 4), .ref (qa 5), .ref (qa 6), .ref (qa 7), .ref (qa 8), .int (nI (n + 1)), .ref (qa 9), .ref (qa 10), .ref (qa 11), .ref (qa 12), .ref (qa 13), .ref (qa 14), .ref (qa 15), .ref (qa 16), .ref (qa 17), .ref (qa 18), .ref (qa 19), .ref (qa 20)]))]) [0] (by decide) rfl
  refine vp_callSi (W.runV (As := []) (rest := []) ⟨hx, hb, hml, hown, hts⟩ (c_M_thrown l G ct H.size hm 0 ns.toInt64 ck z21108 (qa 1) (qa 2) (qa 3) (qa 4) (qa 5) (qa 6) (qa 7) (qa 8) (qa 9) (qa 10) (qa 11) (qa 12) (qa 13) (qa 14) (qa 15) (qa 16) (qa 17) (qa 18) (qa 19) (qa 20) (n + 1)) (tb_V hw cy_M_thrown ww_719 ww_720 ww_721 rfl rfl ⟨Nat.le_of_ble_eq_true rfl, Nat.le_of_ble_eq_true rfl⟩) (wk_preV (ci := 4) (q0 := 0) hPc hK hDc rfl rfl) rfl rfl hl.1 rfl (lv_room (Nat.le_of_ble_eq_true rfl)) d_L_law_563 ⟨by omega, by omega⟩) (fun r1110 er1110 => ?_)
  subst er1110
  refine lv_iload hx hb d_L_law_566 (lv_at hl 1 rfl) ?_
  refine lv_icmp_eq (tgt := 573) hx hb d_L_law_568 (by decide) (fun h1111 => ?_) (fun h1111 => ?_)
  · refine lv_iload hx hb d_L_law_573 (lv_at hl 1 rfl) ?_
    refine lv_if_ne (tgt := 590) hx hb d_L_law_575 (by decide) (fun h1112 => ?_) (fun h1112 => ?_)
    · exact absurd h1112 (by decide)
    · refine lv_aload_n hx hb d_L_law_578 rfl (lv_at hl 3 rfl) ?_
      refine lv_iconst (v := 0) hx hb d_L_law_579 (by decide) ?_
      refine ra_ll hx hb hK.1 hP 21 1 rfl rfl (k := 0) (by omega) (by decide) d_L_law_580 ?_
      refine tp_l (ul_se _ _ _) ?_
      refine lv_iload hx hb d_L_law_581 (lv_at hl 0 rfl) ?_
      refine lv_i2l (v := (nI n).toInt64) hx hb d_L_law_583 rfl ?_
      refine W.lcmp hx hb d_L_law_584 ?_
      refine lv_if_eq (tgt := 590) hx hb d_L_law_585 (by decide) (fun h1113 => ?_) (fun h1113 => ?_)
      · have h1113 := (lg_cmp_eq _ _).mp h1113
        refine lv_goto (tgt := 1005) hx hb d_L_law_590 (by decide) ?_
        refine W.widen (k := cells + 1) (n := slots + 13) (by omega) (by omega) ?_
        exact kk (n + 1) ck 0 z21108 a1 a2 a3 a4 a5 a6 a7 a8 (upd a9 n 1) (upd b0 n (xs (iv + 2))) (upd b1 n (nI k)) (upd b2 n 0) (upd b3 n ck) (vp_updL b4 n (lN (sc_n (lj (xs (iv + 3)) (xs (iv + 4)))))) b5 (vp_updL b6 n (a2 k)) b7 b8 b9 (vp_updL b10 n 0) (vp_updL og 0 ((nI n).toInt64)) (va_up fo n (some q9)) (va_up ad n q9) eu (va_up es n (.inr (3, [.ref (au k), .int (xs (iv + 2)), .long (lN (sc_n (lj (xs (iv + 3)) (xs (iv + 4))))), .int ck, .int 0, .long (lN 0), .long (lN 0), .long 0, .long 0, .long 0, .long 0, .long (lN (sv_r0 ns (nI k) (xs (iv + 2)) (a1 k) uo uv))]))) H locs _ (hnew q9) hP hD hS (lv_sub hl [2, 3, 4, 5, 6] rfl)
      · have h1113 := fun q => h1113 ((lg_cmp_eq _ _).mpr q)
        exact absurd rfl h1113
  · exact absurd h1111 (by decide)
set_option maxHeartbeats 4000000 in
set_option maxRecDepth 100000 in
theorem lq_server1W0 {k : Nat} {uo : Nat} {ul : Int64} {uv : Nat} (C0 : lc_C p l s m meth c b L xs G ct A) (hiv : iv + 7 ≤ L) (hcc : cells + 1 ≤ room_1.cells) (hzz : slots + 13 ≤ room_1.slots)
    (hP : va_P G classes (lw_W ct hd us op hm qo qa fu au ns n ck n ck th hh a1 a2 a3 a4 a5 a6 a7 a8 a9 b0 b1 b2 b3 b4 b5 b6 b7 b8 b9 b10 og fo ad eu es) H) (hD : va_D A (lw_W ct hd us op hm qo qa fu au ns n ck n ck th hh a1 a2 a3 a4 a5 a6 a7 a8 a9 b0 b1 b2 b3 b4 b5 b6 b7 b8 b9 b10 og fo ad eu es)) (hS : va_S A s.heap H locs) (hl : lv_has ls 8 [(4, .int (nI iv)), (3, .ref qo), (2, .ref hm), (1, .ref hd), (0, .ref b)])
    (kk : lc_K p l e s m below meth c b L xs G ct A hd us op hm qo qa fu au ns iv (cells + 1) (slots + 13) Q)
    (hv1 : xs (iv + 1) = nI k) (hk8 : k < 8) (heu : eu k = .inr (1, [.int (nI k), .int ns, .int (a1 k), .long (lN uo), .long ul, .long (lN uv), .int (a5 k), .int (a6 k), .int (a7 k), .int (a8 k)])) (d_hk : k < 8) (d_hfu : fu k = some (au k)) (d_hwi : wy_in (xs (iv + 2))) (d_hn : n < 40) (d_hbl : ¬ us_bl (a5 k) (a8 k) ck) (m_hk : k < 8) (m_hn : n < 40) (m_hwy : (xs (iv + 2)) = 0) (m_how : ¬ a1 k = (xs (iv + 2))) (m_hbl : ¬ sm_bl (a5 k) (a8 k) ck)  (hnew : ∀ q9 : Nat, li_R fu au ns (n + 1) a1 a2 a3 a4 a5 a6 a7 a8 (upd a9 n 1) (upd b0 n (xs (iv + 2))) (upd b1 n (nI k)) (upd b2 n 0) (upd b3 n ck) (vp_updL b4 n (lN (sc_n (lj (xs (iv + 3)) (xs (iv + 4)))))) b5 (vp_updL b6 n (lN (sc_n (dg_3 (Int32.toInt64 3) ns.toInt64 (Int32.toInt64 (nI k)))))) b7 b8 b9 (vp_updL b10 n 0) (va_up fo n (some q9)) (va_up ad n q9) eu (va_up es n (.inr (3, [.ref (au k), .int (xs (iv + 2)), .long (lN (sc_n (lj (xs (iv + 3)) (xs (iv + 4))))), .int ck, .int 0, .long (lN 0), .long (lN 0), .long 0, .long 0, .long 0, .long 0, .long (lN (sv_r0 ns (nI k) (xs (iv + 2)) (a1 k) uo uv))]))))  : W p l e room_1 s m #[Value.ref b] below meth c H locs cells slots Q (F0 m 481 ls []) := by
  obtain ⟨hx, hb, hr, hml, hown, hw, hK, hZ, hR, hN, hfl, hA, hbA, hX, hbl, hL, hlocks⟩ := C0
  have hts := hw
  have hP : va_P G classes (lw_W ct hd us op hm qo qa fu au ns n ck n ck th hh a1 a2 a3 a4 a5 a6 a7 a8 a9 b0 b1 b2 b3 b4 b5 b6 b7 b8 b9 b10 og fo ad eu es) H := hP
  have hD : va_D A (lw_W ct hd us op hm qo qa fu au ns n ck n ck th hh a1 a2 a3 a4 a5 a6 a7 a8 a9 b0 b1 b2 b3 b4 b5 b6 b7 b8 b9 b10 og fo ad eu es) := hD
  refine lv_aload_n hx hb d_L_law_481 rfl (lv_at hl 3 rfl) ?_
  refine lv_aload_n hx hb d_L_law_482 rfl (lv_at hl 4 rfl) ?_
  refine lv_iload hx hb d_L_law_483 (lv_at hl 0 rfl) ?_
  refine lv_iconst (v := 1) hx hb d_L_law_485 (by decide) ?_
  refine lv_iadd hx hb d_L_law_486 ?_
  refine sl_ld (j := iv) (d := 1) hx hb hX hbl hbA hS hL (by omega) d_L_law_487 ?_
  refine tp_i (hv1) ?_
  refine lv_aload_n hx hb d_L_law_488 rfl (lv_at hl 4 rfl) ?_
  refine lv_iload hx hb d_L_law_489 (lv_at hl 0 rfl) ?_
  refine lv_iconst (v := 2) hx hb d_L_law_491 (by decide) ?_
  refine lv_iadd hx hb d_L_law_492 ?_
  refine sl_ld (j := iv) (d := 2) hx hb hX hbl hbA hS hL (by omega) d_L_law_493 ?_
  refine lv_aload_n hx hb d_L_law_494 rfl (lv_at hl 4 rfl) ?_
  refine lv_iload hx hb d_L_law_495 (lv_at hl 0 rfl) ?_
  refine lv_iconst (v := 3) hx hb d_L_law_497 (by decide) ?_
  refine lv_iadd hx hb d_L_law_498 ?_
  refine sl_ld (j := iv) (d := 3) hx hb hX hbl hbA hS hL (by omega) d_L_law_499 ?_
  refine lv_i2l (v := (xs (iv + 3)).toInt64) hx hb d_L_law_500 rfl ?_
  refine lv_bipush (v := 32) hx hb d_L_law_501 (by decide) ?_
  refine lv_lshl (v := ((xs (iv + 3)).toInt64) <<< ((32 : Int32).toInt64 &&& 63)) hx hb d_L_law_503 rfl ?_
  refine lv_aload_n hx hb d_L_law_504 rfl (lv_at hl 4 rfl) ?_
  refine lv_iload hx hb d_L_law_505 (lv_at hl 0 rfl) ?_
  refine lv_iconst (v := 4) hx hb d_L_law_507 (by decide) ?_
  refine lv_iadd hx hb d_L_law_508 ?_
  refine sl_ld (j := iv) (d := 4) hx hb hX hbl hbA hS hL (by omega) d_L_law_509 ?_
  refine lv_i2l (v := (xs (iv + 4)).toInt64) hx hb d_L_law_510 rfl ?_
  refine lv_ldc2 (v := 4294967295) hx hb hown (hw _ ww_884) d_L_law_511 ?_
  refine lv_land hx hb d_L_law_514 ?_
  refine lv_lor hx hb d_L_law_515 ?_
  refine tp_l (rfl) ?_
  refine lv_aload_n hx hb d_L_law_516 rfl (lv_at hl 1 rfl) ?_
  have hC9 : List.map (fun i => ((lw_W ct hd us op hm qo qa fu au ns n ck n ck th hh a1 a2 a3 a4 a5 a6 a7 a8 a9 b0 b1 b2 b3 b4 b5 b6 b7 b8 b9 b10 og fo ad eu es) : va_W)[i]?) [22, 23, 24, 25 + k, 21] = List.map some ([(hd, .inr (0, [.ref us, .ref op, .int (nI n), .int ck])), (us, .inl ((ct 3), 8, .inr (.inr (.inr (.inr fu))))), (op, .inl ((ct 4), 40, .inr (.inr (.inr (.inr fo))))), ((au k), .inr (1, [.int (nI k), .int ns, .int (a1 k), .long (lN uo), .long ul, .long (lN uv), .int (a5 k), .int (a6 k), .int (a7 k), .int (a8 k)])), (qo, .inl ((ct 1), 1, .inr (.inl og)))] : va_W) := (wc_c rfl (wc_c rfl (wc_c rfl (wc_c (lw_u rfl hk8 heu) (wc_c rfl rfl)))))
  have hn9 : va_nd [22, 23, 24, 25 + k, 21] = true := (nd_c (by simp only [List.mem_cons, List.not_mem_nil, or_false]; omega) (nd_c (by simp only [List.mem_cons, List.not_mem_nil, or_false]; omega) (nd_c (by simp only [List.mem_cons, List.not_mem_nil, or_false]; omega) (nd_c (by simp only [List.mem_cons, List.not_mem_nil, or_false]; omega) (nd_c List.not_mem_nil rfl)))))
  have hPc : va_P G classes [(hd, .inr (0, [.ref us, .ref op, .int (nI n), .int ck])), (us, .inl ((ct 3), 8, .inr (.inr (.inr (.inr fu))))), (op, .inl ((ct 4), 40, .inr (.inr (.inr (.inr fo))))), ((au k), .inr (1, [.int (nI k), .int ns, .int (a1 k), .long (lN uo), .long ul, .long (lN uv), .int (a5 k), .int (a6 k), .int (a7 k), .int (a8 k)])), (qo, .inl ((ct 1), 1, .inr (.inl og)))] H := lp_sub hP [22, 23, 24, 25 + k, 21] hC9
  have hDc := hD.sub (ws' := [(hd, .inr (0, [.ref us, .ref op, .int (nI n), .int ck])), (us, .inl ((ct 3), 8, .inr (.inr (.inr (.inr fu))))), (op, .inl ((ct 4), 40, .inr (.inr (.inr (.inr fo))))), ((au k), .inr (1, [.int (nI k), .int ns, .int (a1 k), .long (lN uo), .long ul, .long (lN uv), .int (a5 k), .int (a6 k), .int (a7 k), .int (a8 k)])), (qo, .inl ((ct 1), 1, .inr (.inl og)))]) [22, 23, 24, 25 + k, 21] hn9 hC9
  have hW9 : ∀ q9 : Nat, wk_sets ((lw_W ct hd us op hm qo qa fu au ns n ck n ck th hh a1 a2 a3 a4 a5 a6 a7 a8 a9 b0 b1 b2 b3 b4 b5 b6 b7 b8 b9 b10 og fo ad eu es) : va_W) [22, 23, 24, 25 + k, 21] ([(hd, .inr (0, [.ref us, .ref op, .int (nI (n + 1)), .int ck])), (us, .inl ((ct 3), 8, .inr (.inr (.inr (.inr fu))))), (op, .inl ((ct 4), 40, .inr (.inr (.inr (.inr (va_up fo n (some q9))))))), ((au k), .inr (1, [.int (nI k), .int ns, .int (a1 k), .long (lN uo), .long ul, .long (lN uv), .int (a5 k), .int (a6 k), .int (a7 k), .int (a8 k)])), (qo, .inl ((ct 1), 1, .inr (.inl (vp_updL og 0 ((nI n).toInt64)))))] : va_W) ++ ([(q9, .inr (3, [.ref (au k), .int (xs (iv + 2)), .long (lN (sc_n (lj (xs (iv + 3)) (xs (iv + 4))))), .int ck, .int 0, .long (lN 0), .long (lN 0), .long 0, .long 0, .long 0, .long 0, .long (lN (sv_r0 ns (nI k) (xs (iv + 2)) (a1 k) uo uv))]))] : va_W) = ((lw_W ct hd us op hm qo qa fu au ns (n + 1) ck n ck th hh a1 a2 a3 a4 a5 a6 a7 a8 a9 b0 b1 b2 b3 b4 b5 b6 b7 b8 b9 b10 (vp_updL og 0 ((nI n).toInt64)) (va_up fo n (some q9)) (va_up ad n q9) eu (va_up es n (.inr (3, [.ref (au k), .int (xs (iv + 2)), .long (lN (sc_n (lj (xs (iv + 3)) (xs (iv + 4))))), .int ck, .int 0, .long (lN 0), .long (lN 0), .long 0, .long 0, .long 0, .long 0, .long (lN (sv_r0 ns (nI k) (xs (iv + 2)) (a1 k) uo uv))])))) : va_W) := fun q9 => (congrArg (· ++ ([(q9, .inr (3, [.ref (au k), .int (xs (iv + 2)), .long (lN (sc_n (lj (xs (iv + 3)) (xs (iv + 4))))), .int ck, .int 0, .long (lN 0), .long (lN 0), .long 0, .long 0, .long 0, .long 0, .long (lN (sv_r0 ns (nI k) (xs (iv + 2)) (a1 k) uo uv))]))] : va_W)) (show wk_sets ((lw_W ct hd us op hm qo qa fu au ns n ck n ck th hh a1 a2 a3 a4 a5 a6 a7 a8 a9 b0 b1 b2 b3 b4 b5 b6 b7 b8 b9 b10 og fo ad eu es) : va_W) [22, 23, 24, 25 + k, 21] ([(hd, .inr (0, [.ref us, .ref op, .int (nI (n + 1)), .int ck])), (us, .inl ((ct 3), 8, .inr (.inr (.inr (.inr fu))))), (op, .inl ((ct 4), 40, .inr (.inr (.inr (.inr (va_up fo n (some q9))))))), ((au k), .inr (1, [.int (nI k), .int ns, .int (a1 k), .long (lN uo), .long ul, .long (lN uv), .int (a5 k), .int (a6 k), .int (a7 k), .int (a8 k)])), (qo, .inl ((ct 1), 1, .inr (.inl (vp_updL og 0 ((nI n).toInt64)))))] : va_W) = (([(hm, .inr (4, [.int th, .long ns.toInt64, .int ck, .long hh, .ref (qa 1), .ref (qa 2), .ref (qa 3), .ref (qa 4), .ref (qa 5), .ref (qa 6), .ref (qa 7), .ref (qa 8), .int (nI n), .ref (qa 9), .ref (qa 10), .ref (qa 11), .ref (qa 12), .ref (qa 13), .ref (qa 14), .ref (qa 15), .ref (qa 16), .ref (qa 17), .ref (qa 18), .ref (qa 19), .ref (qa 20)])), ((qa 1), .inl ((ct 0), 8, .inl a1)), ((qa 2), .inl ((ct 1), 8, .inr (.inl a2))), ((qa 3), .inl ((ct 1), 8, .inr (.inl a3))), ((qa 4), .inl ((ct 1), 8, .inr (.inl a4))), ((qa 5), .inl ((ct 0), 8, .inl a5)), ((qa 6), .inl ((ct 0), 8, .inl a6)), ((qa 7), .inl ((ct 0), 8, .inl a7)), ((qa 8), .inl ((ct 0), 8, .inl a8)), ((qa 9), .inl ((ct 2), 40, .inl a9)), ((qa 10), .inl ((ct 0), 40, .inl b0)), ((qa 11), .inl ((ct 0), 40, .inl b1)), ((qa 12), .inl ((ct 0), 40, .inl b2)), ((qa 13), .inl ((ct 0), 40, .inl b3)), ((qa 14), .inl ((ct 1), 40, .inr (.inl b4))), ((qa 15), .inl ((ct 1), 40, .inr (.inl b5))), ((qa 16), .inl ((ct 1), 40, .inr (.inl b6))), ((qa 17), .inl ((ct 1), 40, .inr (.inl b7))), ((qa 18), .inl ((ct 1), 40, .inr (.inl b8))), ((qa 19), .inl ((ct 1), 40, .inr (.inl b9))), ((qa 20), .inl ((ct 1), 40, .inr (.inl b10))), (qo, .inl ((ct 1), 1, .inr (.inl (vp_updL og 0 ((nI n).toInt64))))), (hd, .inr (0, [.ref us, .ref op, .int (nI (n + 1)), .int ck])), (us, .inl ((ct 3), 8, .inr (.inr (.inr (.inr fu))))), (op, .inl ((ct 4), 40, .inr (.inr (.inr (.inr (va_up fo n (some q9)))))))] ++ (ix_w 8 au eu ++ ix_w n ad es)) : va_W) from (ws_c (ws' := ([(hm, .inr (4, [.int th, .long ns.toInt64, .int ck, .long hh, .ref (qa 1), .ref (qa 2), .ref (qa 3), .ref (qa 4), .ref (qa 5), .ref (qa 6), .ref (qa 7), .ref (qa 8), .int (nI n), .ref (qa 9), .ref (qa 10), .ref (qa 11), .ref (qa 12), .ref (qa 13), .ref (qa 14), .ref (qa 15), .ref (qa 16), .ref (qa 17), .ref (qa 18), .ref (qa 19), .ref (qa 20)])), ((qa 1), .inl ((ct 0), 8, .inl a1)), ((qa 2), .inl ((ct 1), 8, .inr (.inl a2))), ((qa 3), .inl ((ct 1), 8, .inr (.inl a3))), ((qa 4), .inl ((ct 1), 8, .inr (.inl a4))), ((qa 5), .inl ((ct 0), 8, .inl a5)), ((qa 6), .inl ((ct 0), 8, .inl a6)), ((qa 7), .inl ((ct 0), 8, .inl a7)), ((qa 8), .inl ((ct 0), 8, .inl a8)), ((qa 9), .inl ((ct 2), 40, .inl a9)), ((qa 10), .inl ((ct 0), 40, .inl b0)), ((qa 11), .inl ((ct 0), 40, .inl b1)), ((qa 12), .inl ((ct 0), 40, .inl b2)), ((qa 13), .inl ((ct 0), 40, .inl b3)), ((qa 14), .inl ((ct 1), 40, .inr (.inl b4))), ((qa 15), .inl ((ct 1), 40, .inr (.inl b5))), ((qa 16), .inl ((ct 1), 40, .inr (.inl b6))), ((qa 17), .inl ((ct 1), 40, .inr (.inl b7))), ((qa 18), .inl ((ct 1), 40, .inr (.inl b8))), ((qa 19), .inl ((ct 1), 40, .inr (.inl b9))), ((qa 20), .inl ((ct 1), 40, .inr (.inl b10))), (qo, .inl ((ct 1), 1, .inr (.inl og))), (hd, .inr (0, [.ref us, .ref op, .int (nI (n + 1)), .int ck])), (us, .inl ((ct 3), 8, .inr (.inr (.inr (.inr fu))))), (op, .inl ((ct 4), 40, .inr (.inr (.inr (.inr fo)))))] ++ (ix_w 8 au eu ++ ix_w n ad es))) rfl (ws_k rfl (ws_c (ws' := ([(hm, .inr (4, [.int th, .long ns.toInt64, .int ck, .long hh, .ref (qa 1), .ref (qa 2), .ref (qa 3), .ref (qa 4), .ref (qa 5), .ref (qa 6), .ref (qa 7), .ref (qa 8), .int (nI n), .ref (qa 9), .ref (qa 10), .ref (qa 11), .ref (qa 12), .ref (qa 13), .ref (qa 14), .ref (qa 15), .ref (qa 16), .ref (qa 17), .ref (qa 18), .ref (qa 19), .ref (qa 20)])), ((qa 1), .inl ((ct 0), 8, .inl a1)), ((qa 2), .inl ((ct 1), 8, .inr (.inl a2))), ((qa 3), .inl ((ct 1), 8, .inr (.inl a3))), ((qa 4), .inl ((ct 1), 8, .inr (.inl a4))), ((qa 5), .inl ((ct 0), 8, .inl a5)), ((qa 6), .inl ((ct 0), 8, .inl a6)), ((qa 7), .inl ((ct 0), 8, .inl a7)), ((qa 8), .inl ((ct 0), 8, .inl a8)), ((qa 9), .inl ((ct 2), 40, .inl a9)), ((qa 10), .inl ((ct 0), 40, .inl b0)), ((qa 11), .inl ((ct 0), 40, .inl b1)), ((qa 12), .inl ((ct 0), 40, .inl b2)), ((qa 13), .inl ((ct 0), 40, .inl b3)), ((qa 14), .inl ((ct 1), 40, .inr (.inl b4))), ((qa 15), .inl ((ct 1), 40, .inr (.inl b5))), ((qa 16), .inl ((ct 1), 40, .inr (.inl b6))), ((qa 17), .inl ((ct 1), 40, .inr (.inl b7))), ((qa 18), .inl ((ct 1), 40, .inr (.inl b8))), ((qa 19), .inl ((ct 1), 40, .inr (.inl b9))), ((qa 20), .inl ((ct 1), 40, .inr (.inl b10))), (qo, .inl ((ct 1), 1, .inr (.inl og))), (hd, .inr (0, [.ref us, .ref op, .int (nI (n + 1)), .int ck])), (us, .inl ((ct 3), 8, .inr (.inr (.inr (.inr fu))))), (op, .inl ((ct 4), 40, .inr (.inr (.inr (.inr (va_up fo n (some q9)))))))] ++ (ix_w 8 au eu ++ ix_w n ad es))) rfl (ws_k (lw_u rfl hk8 heu) (ws_c (ws' := ([(hm, .inr (4, [.int th, .long ns.toInt64, .int ck, .long hh, .ref (qa 1), .ref (qa 2), .ref (qa 3), .ref (qa 4), .ref (qa 5), .ref (qa 6), .ref (qa 7), .ref (qa 8), .int (nI n), .ref (qa 9), .ref (qa 10), .ref (qa 11), .ref (qa 12), .ref (qa 13), .ref (qa 14), .ref (qa 15), .ref (qa 16), .ref (qa 17), .ref (qa 18), .ref (qa 19), .ref (qa 20)])), ((qa 1), .inl ((ct 0), 8, .inl a1)), ((qa 2), .inl ((ct 1), 8, .inr (.inl a2))), ((qa 3), .inl ((ct 1), 8, .inr (.inl a3))), ((qa 4), .inl ((ct 1), 8, .inr (.inl a4))), ((qa 5), .inl ((ct 0), 8, .inl a5)), ((qa 6), .inl ((ct 0), 8, .inl a6)), ((qa 7), .inl ((ct 0), 8, .inl a7)), ((qa 8), .inl ((ct 0), 8, .inl a8)), ((qa 9), .inl ((ct 2), 40, .inl a9)), ((qa 10), .inl ((ct 0), 40, .inl b0)), ((qa 11), .inl ((ct 0), 40, .inl b1)), ((qa 12), .inl ((ct 0), 40, .inl b2)), ((qa 13), .inl ((ct 0), 40, .inl b3)), ((qa 14), .inl ((ct 1), 40, .inr (.inl b4))), ((qa 15), .inl ((ct 1), 40, .inr (.inl b5))), ((qa 16), .inl ((ct 1), 40, .inr (.inl b6))), ((qa 17), .inl ((ct 1), 40, .inr (.inl b7))), ((qa 18), .inl ((ct 1), 40, .inr (.inl b8))), ((qa 19), .inl ((ct 1), 40, .inr (.inl b9))), ((qa 20), .inl ((ct 1), 40, .inr (.inl b10))), (qo, .inl ((ct 1), 1, .inr (.inl (vp_updL og 0 ((nI n).toInt64))))), (hd, .inr (0, [.ref us, .ref op, .int (nI (n + 1)), .int ck])), (us, .inl ((ct 3), 8, .inr (.inr (.inr (.inr fu))))), (op, .inl ((ct 4), 40, .inr (.inr (.inr (.inr (va_up fo n (some q9)))))))] ++ (ix_w 8 au eu ++ ix_w n ad es))) rfl rfl))))))).trans lw_push
  refine wk_iN (w1 := fun q9 : Nat => [(hd, .inr (0, [.ref us, .ref op, .int (nI (n + 1)), .int ck])), (us, .inl ((ct 3), 8, .inr (.inr (.inr (.inr fu))))), (op, .inl ((ct 4), 40, .inr (.inr (.inr (.inr (va_up fo n (some q9))))))), ((au k), .inr (1, [.int (nI k), .int ns, .int (a1 k), .long (lN uo), .long ul, .long (lN uv), .int (a5 k), .int (a6 k), .int (a7 k), .int (a8 k)])), (qo, .inl ((ct 1), 1, .inr (.inl (vp_updL og 0 ((nI n).toInt64)))))]) (w2 := fun q9 : Nat => [(q9, .inr (3, [.ref (au k), .int (xs (iv + 2)), .long (lN (sc_n (lj (xs (iv + 3)) (xs (iv + 4))))), .int ck, .int 0, .long (lN 0), .long (lN 0), .long 0, .long 0, .long 0, .long 0, .long (lN (sv_r0 ns (nI k) (xs (iv + 2)) (a1 k) uo uv))]))]) (sh_run (As := [.ref hd, .int (nI k), .int (xs (iv + 2)), .long (lj (xs (iv + 3)) (xs (iv + 4))), .ref qo]) (rest := []) (hs := [(0, 12, 15, 13), (0, 12, 19, 15)]) ⟨hx, hb, hml, hown, hts⟩ (c_L_server1 l G ct H.size hd us op n ck fu fo (au k) k (nI k) ns (a1 k) uo ul uv (a5 k) (a6 k) (a7 k) (a8 k) (xs (iv + 2)) (lj (xs (iv + 3)) (xs (iv + 4))) qo og d_hk d_hfu d_hwi d_hn d_hbl) wk_ret ⟨hw, ww_378, ww_0, ⟨by decide, by decide⟩, np_L_server, ww_376, ww_377, rfl, rfl, Nat.le_of_ble_eq_true rfl, Nat.le_of_ble_eq_true rfl⟩ (wk_pre hPc hK hDc) rfl hl.1 rfl (lv_room (Nat.le_of_ble_eq_true rfl)) d_L_law_517 ⟨by omega, by omega⟩) hP hD hS hA [22, 23, 24, 25 + k, 21] hn9 hC9 (fun _ => by simp only [List.map_cons, List.map_nil]) (fun q9 H locs _ hP hD hS => ?_)
  have hW9 := hW9 q9
  have hP : va_P G classes (lw_W ct hd us op hm qo qa fu au ns (n + 1) ck n ck th hh a1 a2 a3 a4 a5 a6 a7 a8 a9 b0 b1 b2 b3 b4 b5 b6 b7 b8 b9 b10 (vp_updL og 0 ((nI n).toInt64)) (va_up fo n (some q9)) (va_up ad n q9) eu (va_up es n (.inr (3, [.ref (au k), .int (xs (iv + 2)), .long (lN (sc_n (lj (xs (iv + 3)) (xs (iv + 4))))), .int ck, .int 0, .long (lN 0), .long (lN 0), .long 0, .long 0, .long 0, .long 0, .long (lN (sv_r0 ns (nI k) (xs (iv + 2)) (a1 k) uo uv))])))) H := lp_P hW9 hP
  have hD : va_D A (lw_W ct hd us op hm qo qa fu au ns (n + 1) ck n ck th hh a1 a2 a3 a4 a5 a6 a7 a8 a9 b0 b1 b2 b3 b4 b5 b6 b7 b8 b9 b10 (vp_updL og 0 ((nI n).toInt64)) (va_up fo n (some q9)) (va_up ad n q9) eu (va_up es n (.inr (3, [.ref (au k), .int (xs (iv + 2)), .long (lN (sc_n (lj (xs (iv + 3)) (xs (iv + 4))))), .int ck, .int 0, .long (lN 0), .long (lN 0), .long 0, .long 0, .long 0, .long 0, .long (lN (sv_r0 ns (nI k) (xs (iv + 2)) (a1 k) uo uv))])))) := lp_D hW9 hD
  refine lv_istore (lv' := [(5, .int 0), (4, .int (nI iv)), (3, .ref qo), (2, .ref hm), (1, .ref hd), (0, .ref b)]) hx hb d_L_law_520 hl (Nat.le_of_ble_eq_true rfl) rfl (fun ls hl => ?_)
  refine lv_aload_n hx hb d_L_law_522 rfl (lv_at hl 3 rfl) ?_
  refine lv_aload_n hx hb d_L_law_523 rfl (lv_at hl 5 rfl) ?_
  refine lv_iload hx hb d_L_law_524 (lv_at hl 1 rfl) ?_
  refine lv_iconst (v := 1) hx hb d_L_law_526 (by decide) ?_
  refine lv_iadd hx hb d_L_law_527 ?_
  refine sl_ld (j := iv) (d := 1) hx hb hX hbl hbA hS hL (by omega) d_L_law_528 ?_
  refine tp_i (hv1) ?_
  refine lv_aload_n hx hb d_L_law_529 rfl (lv_at hl 5 rfl) ?_
  refine lv_iload hx hb d_L_law_530 (lv_at hl 1 rfl) ?_
  refine lv_iconst (v := 2) hx hb d_L_law_532 (by decide) ?_
  refine lv_iadd hx hb d_L_law_533 ?_
  refine sl_ld (j := iv) (d := 2) hx hb hX hbl hbA hS hL (by omega) d_L_law_534 ?_
  refine lv_aload_n hx hb d_L_law_535 rfl (lv_at hl 5 rfl) ?_
  refine lv_iload hx hb d_L_law_536 (lv_at hl 1 rfl) ?_
  refine lv_iconst (v := 3) hx hb d_L_law_538 (by decide) ?_
  refine lv_iadd hx hb d_L_law_539 ?_
  refine sl_ld (j := iv) (d := 3) hx hb hX hbl hbA hS hL (by omega) d_L_law_540 ?_
  refine lv_i2l (v := (xs (iv + 3)).toInt64) hx hb d_L_law_541 rfl ?_
  refine lv_bipush (v := 32) hx hb d_L_law_542 (by decide) ?_
  refine lv_lshl (v := ((xs (iv + 3)).toInt64) <<< ((32 : Int32).toInt64 &&& 63)) hx hb d_L_law_544 rfl ?_
  refine lv_aload_n hx hb d_L_law_545 rfl (lv_at hl 5 rfl) ?_
  refine lv_iload hx hb d_L_law_546 (lv_at hl 1 rfl) ?_
  refine lv_iconst (v := 4) hx hb d_L_law_548 (by decide) ?_
  refine lv_iadd hx hb d_L_law_549 ?_
  refine sl_ld (j := iv) (d := 4) hx hb hX hbl hbA hS hL (by omega) d_L_law_550 ?_
  refine lv_i2l (v := (xs (iv + 4)).toInt64) hx hb d_L_law_551 rfl ?_
  refine lv_ldc2 (v := 4294967295) hx hb hown (hw _ ww_884) d_L_law_552 ?_
  refine lv_land hx hb d_L_law_555 ?_
  refine lv_lor hx hb d_L_law_556 ?_
  refine tp_l (rfl) ?_
  have hPc : va_P G classes [(hm, .inr (4, [.int th, .long ns.toInt64, .int ck, .long hh, .ref (qa 1), .ref (qa 2), .ref (qa 3), .ref (qa 4), .ref (qa 5), .ref (qa 6), .ref (qa 7), .ref (qa 8), .int (nI n), .ref (qa 9), .ref (qa 10), .ref (qa 11), .ref (qa 12), .ref (qa 13), .ref (qa 14), .ref (qa 15), .ref (qa 16), .ref (qa 17), .ref (qa 18), .ref (qa 19), .ref (qa 20)])), ((qa 1), .inl ((ct 0), 8, .inl a1)), ((qa 2), .inl ((ct 1), 8, .inr (.inl a2))), ((qa 4), .inl ((ct 1), 8, .inr (.inl a4))), ((qa 5), .inl ((ct 0), 8, .inl a5)), ((qa 8), .inl ((ct 0), 8, .inl a8)), ((qa 9), .inl ((ct 2), 40, .inl a9)), ((qa 10), .inl ((ct 0), 40, .inl b0)), ((qa 11), .inl ((ct 0), 40, .inl b1)), ((qa 12), .inl ((ct 0), 40, .inl b2)), ((qa 13), .inl ((ct 0), 40, .inl b3)), ((qa 14), .inl ((ct 1), 40, .inr (.inl b4))), ((qa 16), .inl ((ct 1), 40, .inr (.inl b6))), ((qa 20), .inl ((ct 1), 40, .inr (.inl b10)))] H := hP.sub [0, 1, 2, 4, 5, 8, 9, 10, 11, 12, 13, 14, 16, 20] rfl
  have hDc := hD.sub (ws' := [(hm, .inr (4, [.int th, .long ns.toInt64, .int ck, .long hh, .ref (qa 1), .ref (qa 2), .ref (qa 3), .ref (qa 4), .ref (qa 5), .ref (qa 6), .ref (qa 7), .ref (qa 8), .int (nI n), .ref (qa 9), .ref (qa 10), .ref (qa 11), .ref (qa 12), .ref (qa 13), .ref (qa 14), .ref (qa 15), .ref (qa 16), .ref (qa 17), .ref (qa 18), .ref (qa 19), .ref (qa 20)])), ((qa 1), .inl ((ct 0), 8, .inl a1)), ((qa 2), .inl ((ct 1), 8, .inr (.inl a2))), ((qa 4), .inl ((ct 1), 8, .inr (.inl a4))), ((qa 5), .inl ((ct 0), 8, .inl a5)), ((qa 8), .inl ((ct 0), 8, .inl a8)), ((qa 9), .inl ((ct 2), 40, .inl a9)), ((qa 10), .inl ((ct 0), 40, .inl b0)), ((qa 11), .inl ((ct 0), 40, .inl b1)), ((qa 12), .inl ((ct 0), 40, .inl b2)), ((qa 13), .inl ((ct 0), 40, .inl b3)), ((qa 14), .inl ((ct 1), 40, .inr (.inl b4))), ((qa 16), .inl ((ct 1), 40, .inr (.inl b6))), ((qa 20), .inl ((ct 1), 40, .inr (.inl b10)))]) [0, 1, 2, 4, 5, 8, 9, 10, 11, 12, 13, 14, 16, 20] (by decide) rfl
  refine wk_i (va_runV (As := [.int (nI k), .int (xs (iv + 2)), .long (lj (xs (iv + 3)) (xs (iv + 4)))]) (rest := []) ⟨hx, hb, hml, hown, hts⟩ (c_M_server1W0 l G ct H.size hm th ns.toInt64 ck hh (qa 1) (qa 2) (qa 3) (qa 4) (qa 5) (qa 6) (qa 7) (qa 8) (qa 9) (qa 10) (qa 11) (qa 12) (qa 13) (qa 14) (qa 15) (qa 16) (qa 17) (qa 18) (qa 19) (qa 20) n a1 a2 a4 a5 a8 a9 b0 b1 b2 b3 b4 b6 b10 k (xs (iv + 2)) (lj (xs (iv + 3)) (xs (iv + 4))) m_hk m_hn m_hwy m_how m_hbl) (tb_V hw cy_M_server ww_796 ww_797 ww_798 rfl rfl ⟨Nat.le_of_ble_eq_true rfl, Nat.le_of_ble_eq_true rfl⟩) (wk_preV (ci := 4) (q0 := 0) hPc hK hDc rfl rfl) rfl rfl hl.1 rfl (lv_room (Nat.le_of_ble_eq_true rfl)) d_L_law_557 ⟨by omega, by omega⟩) hP hD hS hA [0, 1, 2, 4, 5, 8, 9, 10, 11, 12, 13, 14, 16, 20] (by decide) rfl (fun _ => by simp only [List.map_cons, List.map_nil]) (fun z21114 H locs ok1115 hP hD hS => ?_)
  have hP : va_P G classes (lw_W ct hd us op hm qo qa fu au ns (n + 1) ck (n + 1) ck 0 z21114 a1 a2 a3 a4 a5 a6 a7 a8 (upd a9 n 1) (upd b0 n (xs (iv + 2))) (upd b1 n (nI k)) (upd b2 n 0) (upd b3 n ck) (vp_updL b4 n (lN (sc_n (lj (xs (iv + 3)) (xs (iv + 4)))))) b5 (vp_updL b6 n (lN (sc_n (dg_3 (Int32.toInt64 3) ns.toInt64 (Int32.toInt64 (nI k)))))) b7 b8 b9 (vp_updL b10 n 0) (vp_updL og 0 ((nI n).toInt64)) (va_up fo n (some q9)) (va_up ad n q9) eu (va_up es n (.inr (3, [.ref (au k), .int (xs (iv + 2)), .long (lN (sc_n (lj (xs (iv + 3)) (xs (iv + 4))))), .int ck, .int 0, .long (lN 0), .long (lN 0), .long 0, .long 0, .long 0, .long 0, .long (lN (sv_r0 ns (nI k) (xs (iv + 2)) (a1 k) uo uv))])))) H := hP
  have hD : va_D A (lw_W ct hd us op hm qo qa fu au ns (n + 1) ck (n + 1) ck 0 z21114 a1 a2 a3 a4 a5 a6 a7 a8 (upd a9 n 1) (upd b0 n (xs (iv + 2))) (upd b1 n (nI k)) (upd b2 n 0) (upd b3 n ck) (vp_updL b4 n (lN (sc_n (lj (xs (iv + 3)) (xs (iv + 4)))))) b5 (vp_updL b6 n (lN (sc_n (dg_3 (Int32.toInt64 3) ns.toInt64 (Int32.toInt64 (nI k)))))) b7 b8 b9 (vp_updL b10 n 0) (vp_updL og 0 ((nI n).toInt64)) (va_up fo n (some q9)) (va_up ad n q9) eu (va_up es n (.inr (3, [.ref (au k), .int (xs (iv + 2)), .long (lN (sc_n (lj (xs (iv + 3)) (xs (iv + 4))))), .int ck, .int 0, .long (lN 0), .long (lN 0), .long 0, .long 0, .long 0, .long 0, .long (lN (sv_r0 ns (nI k) (xs (iv + 2)) (a1 k) uo uv))])))) := hD
  refine lv_istore (lv' := [(6, .int (nI n)), (5, .int 0), (4, .int (nI iv)), (3, .ref qo), (2, .ref hm), (1, .ref hd), (0, .ref b)]) hx hb d_L_law_560 hl (Nat.le_of_ble_eq_true rfl) rfl (fun ls hl => ?_)
  refine lv_aload_n hx hb d_L_law_562 rfl (lv_at hl 4 rfl) ?_
  have hPc : va_P G classes [(hm, .inr (4, [.int 0, .long ns.toInt64, .int ck, .long z21114, .ref (qa 1), .ref (qa 2), .ref (qa 3), .ref (qa 4), .ref (qa 5), .ref (qa 6), .ref (qa 7), .ref (qa 8), .int (nI (n + 1)), .ref (qa 9), .ref (qa 10), .ref (qa 11), .ref (qa 12), .ref (qa 13), .ref (qa 14), .ref (qa 15), .ref (qa 16), .ref (qa 17), .ref (qa 18), .ref (qa 19), .ref (qa 20)]))] H := hP.sub [0] rfl
  have hDc := hD.sub (ws' := [(hm, .inr (4, [.int 0, .long ns.toInt64, .int ck, .long z21114, .ref (qa 1), .ref (qa 2), .ref (qa 3), .ref (qa 4), .ref (qa 5), .ref (qa 6), .ref (qa 7), .ref (qa 8), .int (nI (n + 1)), .ref (qa 9), .ref (qa 10), .ref (qa 11), .ref (qa 12), .ref (qa 13), .ref (qa 14), .ref (qa 15), .ref (qa 16), .ref (qa 17), .ref (qa 18), .ref (qa 19), .ref (qa 20)]))]) [0] (by decide) rfl
  refine vp_callSi (W.runV (As := []) (rest := []) ⟨hx, hb, hml, hown, hts⟩ (c_M_thrown l G ct H.size hm 0 ns.toInt64 ck z21114 (qa 1) (qa 2) (qa 3) (qa 4) (qa 5) (qa 6) (qa 7) (qa 8) (qa 9) (qa 10) (qa 11) (qa 12) (qa 13) (qa 14) (qa 15) (qa 16) (qa 17) (qa 18) (qa 19) (qa 20) (n + 1)) (tb_V hw cy_M_thrown ww_719 ww_720 ww_721 rfl rfl ⟨Nat.le_of_ble_eq_true rfl, Nat.le_of_ble_eq_true rfl⟩) (wk_preV (ci := 4) (q0 := 0) hPc hK hDc rfl rfl) rfl rfl hl.1 rfl (lv_room (Nat.le_of_ble_eq_true rfl)) d_L_law_563 ⟨by omega, by omega⟩) (fun r1116 er1116 => ?_)
  subst er1116
  refine lv_iload hx hb d_L_law_566 (lv_at hl 1 rfl) ?_
  refine lv_icmp_eq (tgt := 573) hx hb d_L_law_568 (by decide) (fun h1117 => ?_) (fun h1117 => ?_)
  · refine lv_iload hx hb d_L_law_573 (lv_at hl 1 rfl) ?_
    refine lv_if_ne (tgt := 590) hx hb d_L_law_575 (by decide) (fun h1118 => ?_) (fun h1118 => ?_)
    · exact absurd h1118 (by decide)
    · refine lv_aload_n hx hb d_L_law_578 rfl (lv_at hl 3 rfl) ?_
      refine lv_iconst (v := 0) hx hb d_L_law_579 (by decide) ?_
      refine ra_ll hx hb hK.1 hP 21 1 rfl rfl (k := 0) (by omega) (by decide) d_L_law_580 ?_
      refine tp_l (ul_se _ _ _) ?_
      refine lv_iload hx hb d_L_law_581 (lv_at hl 0 rfl) ?_
      refine lv_i2l (v := (nI n).toInt64) hx hb d_L_law_583 rfl ?_
      refine W.lcmp hx hb d_L_law_584 ?_
      refine lv_if_eq (tgt := 590) hx hb d_L_law_585 (by decide) (fun h1119 => ?_) (fun h1119 => ?_)
      · have h1119 := (lg_cmp_eq _ _).mp h1119
        refine lv_goto (tgt := 1005) hx hb d_L_law_590 (by decide) ?_
        refine W.widen (k := cells + 1) (n := slots + 13) (by omega) (by omega) ?_
        exact kk (n + 1) ck 0 z21114 a1 a2 a3 a4 a5 a6 a7 a8 (upd a9 n 1) (upd b0 n (xs (iv + 2))) (upd b1 n (nI k)) (upd b2 n 0) (upd b3 n ck) (vp_updL b4 n (lN (sc_n (lj (xs (iv + 3)) (xs (iv + 4)))))) b5 (vp_updL b6 n (lN (sc_n (dg_3 (Int32.toInt64 3) ns.toInt64 (Int32.toInt64 (nI k)))))) b7 b8 b9 (vp_updL b10 n 0) (vp_updL og 0 ((nI n).toInt64)) (va_up fo n (some q9)) (va_up ad n q9) eu (va_up es n (.inr (3, [.ref (au k), .int (xs (iv + 2)), .long (lN (sc_n (lj (xs (iv + 3)) (xs (iv + 4))))), .int ck, .int 0, .long (lN 0), .long (lN 0), .long 0, .long 0, .long 0, .long 0, .long (lN (sv_r0 ns (nI k) (xs (iv + 2)) (a1 k) uo uv))]))) H locs _ (hnew q9) hP hD hS (lv_sub hl [2, 3, 4, 5, 6] rfl)
      · have h1119 := fun q => h1119 ((lg_cmp_eq _ _).mpr q)
        exact absurd rfl h1119
  · exact absurd h1117 (by decide)
set_option maxHeartbeats 4000000 in
set_option maxRecDepth 100000 in
theorem lq_server1S1 {k : Nat} {uo : Nat} {ul : Int64} {uv : Nat} (C0 : lc_C p l s m meth c b L xs G ct A) (hiv : iv + 7 ≤ L) (hcc : cells + 1 ≤ room_1.cells) (hzz : slots + 13 ≤ room_1.slots)
    (hP : va_P G classes (lw_W ct hd us op hm qo qa fu au ns n ck n ck th hh a1 a2 a3 a4 a5 a6 a7 a8 a9 b0 b1 b2 b3 b4 b5 b6 b7 b8 b9 b10 og fo ad eu es) H) (hD : va_D A (lw_W ct hd us op hm qo qa fu au ns n ck n ck th hh a1 a2 a3 a4 a5 a6 a7 a8 a9 b0 b1 b2 b3 b4 b5 b6 b7 b8 b9 b10 og fo ad eu es)) (hS : va_S A s.heap H locs) (hl : lv_has ls 8 [(4, .int (nI iv)), (3, .ref qo), (2, .ref hm), (1, .ref hd), (0, .ref b)])
    (kk : lc_K p l e s m below meth c b L xs G ct A hd us op hm qo qa fu au ns iv (cells + 1) (slots + 13) Q)
    (hv1 : xs (iv + 1) = nI k) (hk8 : k < 8) (heu : eu k = .inr (1, [.int (nI k), .int ns, .int (a1 k), .long (lN uo), .long ul, .long (lN uv), .int (a5 k), .int (a6 k), .int (a7 k), .int (a8 k)])) (d_hk : k < 8) (d_hfu : fu k = some (au k)) (d_hwi : wy_in (xs (iv + 2))) (d_hn : n < 40) (d_hbl : ¬ us_bl (a5 k) (a8 k) ck) (m_hk : k < 8) (m_hn : n < 40) (m_hwy : (xs (iv + 2)) = 1) (m_how : a1 k = (xs (iv + 2))) (m_hbl : ¬ sm_bl (a5 k) (a8 k) ck)  (hnew : ∀ q9 : Nat, li_R fu au ns (n + 1) a1 a2 a3 a4 a5 a6 a7 a8 (upd a9 n 1) (upd b0 n (xs (iv + 2))) (upd b1 n (nI k)) (upd b2 n 0) (upd b3 n ck) (vp_updL b4 n (lN (sc_n (lj (xs (iv + 3)) (xs (iv + 4)))))) b5 (vp_updL b6 n (a4 k)) b7 b8 b9 (vp_updL b10 n 0) (va_up fo n (some q9)) (va_up ad n q9) eu (va_up es n (.inr (3, [.ref (au k), .int (xs (iv + 2)), .long (lN (sc_n (lj (xs (iv + 3)) (xs (iv + 4))))), .int ck, .int 0, .long (lN 0), .long (lN 0), .long 0, .long 0, .long 0, .long 0, .long (lN (sv_r0 ns (nI k) (xs (iv + 2)) (a1 k) uo uv))]))))  : W p l e room_1 s m #[Value.ref b] below meth c H locs cells slots Q (F0 m 481 ls []) := by
  obtain ⟨hx, hb, hr, hml, hown, hw, hK, hZ, hR, hN, hfl, hA, hbA, hX, hbl, hL, hlocks⟩ := C0
  have hts := hw
  have hP : va_P G classes (lw_W ct hd us op hm qo qa fu au ns n ck n ck th hh a1 a2 a3 a4 a5 a6 a7 a8 a9 b0 b1 b2 b3 b4 b5 b6 b7 b8 b9 b10 og fo ad eu es) H := hP
  have hD : va_D A (lw_W ct hd us op hm qo qa fu au ns n ck n ck th hh a1 a2 a3 a4 a5 a6 a7 a8 a9 b0 b1 b2 b3 b4 b5 b6 b7 b8 b9 b10 og fo ad eu es) := hD
  refine lv_aload_n hx hb d_L_law_481 rfl (lv_at hl 3 rfl) ?_
  refine lv_aload_n hx hb d_L_law_482 rfl (lv_at hl 4 rfl) ?_
  refine lv_iload hx hb d_L_law_483 (lv_at hl 0 rfl) ?_
  refine lv_iconst (v := 1) hx hb d_L_law_485 (by decide) ?_
  refine lv_iadd hx hb d_L_law_486 ?_
  refine sl_ld (j := iv) (d := 1) hx hb hX hbl hbA hS hL (by omega) d_L_law_487 ?_
  refine tp_i (hv1) ?_
  refine lv_aload_n hx hb d_L_law_488 rfl (lv_at hl 4 rfl) ?_
  refine lv_iload hx hb d_L_law_489 (lv_at hl 0 rfl) ?_
  refine lv_iconst (v := 2) hx hb d_L_law_491 (by decide) ?_
  refine lv_iadd hx hb d_L_law_492 ?_
  refine sl_ld (j := iv) (d := 2) hx hb hX hbl hbA hS hL (by omega) d_L_law_493 ?_
  refine lv_aload_n hx hb d_L_law_494 rfl (lv_at hl 4 rfl) ?_
  refine lv_iload hx hb d_L_law_495 (lv_at hl 0 rfl) ?_
  refine lv_iconst (v := 3) hx hb d_L_law_497 (by decide) ?_
  refine lv_iadd hx hb d_L_law_498 ?_
  refine sl_ld (j := iv) (d := 3) hx hb hX hbl hbA hS hL (by omega) d_L_law_499 ?_
  refine lv_i2l (v := (xs (iv + 3)).toInt64) hx hb d_L_law_500 rfl ?_
  refine lv_bipush (v := 32) hx hb d_L_law_501 (by decide) ?_
  refine lv_lshl (v := ((xs (iv + 3)).toInt64) <<< ((32 : Int32).toInt64 &&& 63)) hx hb d_L_law_503 rfl ?_
  refine lv_aload_n hx hb d_L_law_504 rfl (lv_at hl 4 rfl) ?_
  refine lv_iload hx hb d_L_law_505 (lv_at hl 0 rfl) ?_
  refine lv_iconst (v := 4) hx hb d_L_law_507 (by decide) ?_
  refine lv_iadd hx hb d_L_law_508 ?_
  refine sl_ld (j := iv) (d := 4) hx hb hX hbl hbA hS hL (by omega) d_L_law_509 ?_
  refine lv_i2l (v := (xs (iv + 4)).toInt64) hx hb d_L_law_510 rfl ?_
  refine lv_ldc2 (v := 4294967295) hx hb hown (hw _ ww_884) d_L_law_511 ?_
  refine lv_land hx hb d_L_law_514 ?_
  refine lv_lor hx hb d_L_law_515 ?_
  refine tp_l (rfl) ?_
  refine lv_aload_n hx hb d_L_law_516 rfl (lv_at hl 1 rfl) ?_
  have hC9 : List.map (fun i => ((lw_W ct hd us op hm qo qa fu au ns n ck n ck th hh a1 a2 a3 a4 a5 a6 a7 a8 a9 b0 b1 b2 b3 b4 b5 b6 b7 b8 b9 b10 og fo ad eu es) : va_W)[i]?) [22, 23, 24, 25 + k, 21] = List.map some ([(hd, .inr (0, [.ref us, .ref op, .int (nI n), .int ck])), (us, .inl ((ct 3), 8, .inr (.inr (.inr (.inr fu))))), (op, .inl ((ct 4), 40, .inr (.inr (.inr (.inr fo))))), ((au k), .inr (1, [.int (nI k), .int ns, .int (a1 k), .long (lN uo), .long ul, .long (lN uv), .int (a5 k), .int (a6 k), .int (a7 k), .int (a8 k)])), (qo, .inl ((ct 1), 1, .inr (.inl og)))] : va_W) := (wc_c rfl (wc_c rfl (wc_c rfl (wc_c (lw_u rfl hk8 heu) (wc_c rfl rfl)))))
  have hn9 : va_nd [22, 23, 24, 25 + k, 21] = true := (nd_c (by simp only [List.mem_cons, List.not_mem_nil, or_false]; omega) (nd_c (by simp only [List.mem_cons, List.not_mem_nil, or_false]; omega) (nd_c (by simp only [List.mem_cons, List.not_mem_nil, or_false]; omega) (nd_c (by simp only [List.mem_cons, List.not_mem_nil, or_false]; omega) (nd_c List.not_mem_nil rfl)))))
  have hPc : va_P G classes [(hd, .inr (0, [.ref us, .ref op, .int (nI n), .int ck])), (us, .inl ((ct 3), 8, .inr (.inr (.inr (.inr fu))))), (op, .inl ((ct 4), 40, .inr (.inr (.inr (.inr fo))))), ((au k), .inr (1, [.int (nI k), .int ns, .int (a1 k), .long (lN uo), .long ul, .long (lN uv), .int (a5 k), .int (a6 k), .int (a7 k), .int (a8 k)])), (qo, .inl ((ct 1), 1, .inr (.inl og)))] H := lp_sub hP [22, 23, 24, 25 + k, 21] hC9
  have hDc := hD.sub (ws' := [(hd, .inr (0, [.ref us, .ref op, .int (nI n), .int ck])), (us, .inl ((ct 3), 8, .inr (.inr (.inr (.inr fu))))), (op, .inl ((ct 4), 40, .inr (.inr (.inr (.inr fo))))), ((au k), .inr (1, [.int (nI k), .int ns, .int (a1 k), .long (lN uo), .long ul, .long (lN uv), .int (a5 k), .int (a6 k), .int (a7 k), .int (a8 k)])), (qo, .inl ((ct 1), 1, .inr (.inl og)))]) [22, 23, 24, 25 + k, 21] hn9 hC9
  have hW9 : ∀ q9 : Nat, wk_sets ((lw_W ct hd us op hm qo qa fu au ns n ck n ck th hh a1 a2 a3 a4 a5 a6 a7 a8 a9 b0 b1 b2 b3 b4 b5 b6 b7 b8 b9 b10 og fo ad eu es) : va_W) [22, 23, 24, 25 + k, 21] ([(hd, .inr (0, [.ref us, .ref op, .int (nI (n + 1)), .int ck])), (us, .inl ((ct 3), 8, .inr (.inr (.inr (.inr fu))))), (op, .inl ((ct 4), 40, .inr (.inr (.inr (.inr (va_up fo n (some q9))))))), ((au k), .inr (1, [.int (nI k), .int ns, .int (a1 k), .long (lN uo), .long ul, .long (lN uv), .int (a5 k), .int (a6 k), .int (a7 k), .int (a8 k)])), (qo, .inl ((ct 1), 1, .inr (.inl (vp_updL og 0 ((nI n).toInt64)))))] : va_W) ++ ([(q9, .inr (3, [.ref (au k), .int (xs (iv + 2)), .long (lN (sc_n (lj (xs (iv + 3)) (xs (iv + 4))))), .int ck, .int 0, .long (lN 0), .long (lN 0), .long 0, .long 0, .long 0, .long 0, .long (lN (sv_r0 ns (nI k) (xs (iv + 2)) (a1 k) uo uv))]))] : va_W) = ((lw_W ct hd us op hm qo qa fu au ns (n + 1) ck n ck th hh a1 a2 a3 a4 a5 a6 a7 a8 a9 b0 b1 b2 b3 b4 b5 b6 b7 b8 b9 b10 (vp_updL og 0 ((nI n).toInt64)) (va_up fo n (some q9)) (va_up ad n q9) eu (va_up es n (.inr (3, [.ref (au k), .int (xs (iv + 2)), .long (lN (sc_n (lj (xs (iv + 3)) (xs (iv + 4))))), .int ck, .int 0, .long (lN 0), .long (lN 0), .long 0, .long 0, .long 0, .long 0, .long (lN (sv_r0 ns (nI k) (xs (iv + 2)) (a1 k) uo uv))])))) : va_W) := fun q9 => (congrArg (· ++ ([(q9, .inr (3, [.ref (au k), .int (xs (iv + 2)), .long (lN (sc_n (lj (xs (iv + 3)) (xs (iv + 4))))), .int ck, .int 0, .long (lN 0), .long (lN 0), .long 0, .long 0, .long 0, .long 0, .long (lN (sv_r0 ns (nI k) (xs (iv + 2)) (a1 k) uo uv))]))] : va_W)) (show wk_sets ((lw_W ct hd us op hm qo qa fu au ns n ck n ck th hh a1 a2 a3 a4 a5 a6 a7 a8 a9 b0 b1 b2 b3 b4 b5 b6 b7 b8 b9 b10 og fo ad eu es) : va_W) [22, 23, 24, 25 + k, 21] ([(hd, .inr (0, [.ref us, .ref op, .int (nI (n + 1)), .int ck])), (us, .inl ((ct 3), 8, .inr (.inr (.inr (.inr fu))))), (op, .inl ((ct 4), 40, .inr (.inr (.inr (.inr (va_up fo n (some q9))))))), ((au k), .inr (1, [.int (nI k), .int ns, .int (a1 k), .long (lN uo), .long ul, .long (lN uv), .int (a5 k), .int (a6 k), .int (a7 k), .int (a8 k)])), (qo, .inl ((ct 1), 1, .inr (.inl (vp_updL og 0 ((nI n).toInt64)))))] : va_W) = (([(hm, .inr (4, [.int th, .long ns.toInt64, .int ck, .long hh, .ref (qa 1), .ref (qa 2), .ref (qa 3), .ref (qa 4), .ref (qa 5), .ref (qa 6), .ref (qa 7), .ref (qa 8), .int (nI n), .ref (qa 9), .ref (qa 10), .ref (qa 11), .ref (qa 12), .ref (qa 13), .ref (qa 14), .ref (qa 15), .ref (qa 16), .ref (qa 17), .ref (qa 18), .ref (qa 19), .ref (qa 20)])), ((qa 1), .inl ((ct 0), 8, .inl a1)), ((qa 2), .inl ((ct 1), 8, .inr (.inl a2))), ((qa 3), .inl ((ct 1), 8, .inr (.inl a3))), ((qa 4), .inl ((ct 1), 8, .inr (.inl a4))), ((qa 5), .inl ((ct 0), 8, .inl a5)), ((qa 6), .inl ((ct 0), 8, .inl a6)), ((qa 7), .inl ((ct 0), 8, .inl a7)), ((qa 8), .inl ((ct 0), 8, .inl a8)), ((qa 9), .inl ((ct 2), 40, .inl a9)), ((qa 10), .inl ((ct 0), 40, .inl b0)), ((qa 11), .inl ((ct 0), 40, .inl b1)), ((qa 12), .inl ((ct 0), 40, .inl b2)), ((qa 13), .inl ((ct 0), 40, .inl b3)), ((qa 14), .inl ((ct 1), 40, .inr (.inl b4))), ((qa 15), .inl ((ct 1), 40, .inr (.inl b5))), ((qa 16), .inl ((ct 1), 40, .inr (.inl b6))), ((qa 17), .inl ((ct 1), 40, .inr (.inl b7))), ((qa 18), .inl ((ct 1), 40, .inr (.inl b8))), ((qa 19), .inl ((ct 1), 40, .inr (.inl b9))), ((qa 20), .inl ((ct 1), 40, .inr (.inl b10))), (qo, .inl ((ct 1), 1, .inr (.inl (vp_updL og 0 ((nI n).toInt64))))), (hd, .inr (0, [.ref us, .ref op, .int (nI (n + 1)), .int ck])), (us, .inl ((ct 3), 8, .inr (.inr (.inr (.inr fu))))), (op, .inl ((ct 4), 40, .inr (.inr (.inr (.inr (va_up fo n (some q9)))))))] ++ (ix_w 8 au eu ++ ix_w n ad es)) : va_W) from (ws_c (ws' := ([(hm, .inr (4, [.int th, .long ns.toInt64, .int ck, .long hh, .ref (qa 1), .ref (qa 2), .ref (qa 3), .ref (qa 4), .ref (qa 5), .ref (qa 6), .ref (qa 7), .ref (qa 8), .int (nI n), .ref (qa 9), .ref (qa 10), .ref (qa 11), .ref (qa 12), .ref (qa 13), .ref (qa 14), .ref (qa 15), .ref (qa 16), .ref (qa 17), .ref (qa 18), .ref (qa 19), .ref (qa 20)])), ((qa 1), .inl ((ct 0), 8, .inl a1)), ((qa 2), .inl ((ct 1), 8, .inr (.inl a2))), ((qa 3), .inl ((ct 1), 8, .inr (.inl a3))), ((qa 4), .inl ((ct 1), 8, .inr (.inl a4))), ((qa 5), .inl ((ct 0), 8, .inl a5)), ((qa 6), .inl ((ct 0), 8, .inl a6)), ((qa 7), .inl ((ct 0), 8, .inl a7)), ((qa 8), .inl ((ct 0), 8, .inl a8)), ((qa 9), .inl ((ct 2), 40, .inl a9)), ((qa 10), .inl ((ct 0), 40, .inl b0)), ((qa 11), .inl ((ct 0), 40, .inl b1)), ((qa 12), .inl ((ct 0), 40, .inl b2)), ((qa 13), .inl ((ct 0), 40, .inl b3)), ((qa 14), .inl ((ct 1), 40, .inr (.inl b4))), ((qa 15), .inl ((ct 1), 40, .inr (.inl b5))), ((qa 16), .inl ((ct 1), 40, .inr (.inl b6))), ((qa 17), .inl ((ct 1), 40, .inr (.inl b7))), ((qa 18), .inl ((ct 1), 40, .inr (.inl b8))), ((qa 19), .inl ((ct 1), 40, .inr (.inl b9))), ((qa 20), .inl ((ct 1), 40, .inr (.inl b10))), (qo, .inl ((ct 1), 1, .inr (.inl og))), (hd, .inr (0, [.ref us, .ref op, .int (nI (n + 1)), .int ck])), (us, .inl ((ct 3), 8, .inr (.inr (.inr (.inr fu))))), (op, .inl ((ct 4), 40, .inr (.inr (.inr (.inr fo)))))] ++ (ix_w 8 au eu ++ ix_w n ad es))) rfl (ws_k rfl (ws_c (ws' := ([(hm, .inr (4, [.int th, .long ns.toInt64, .int ck, .long hh, .ref (qa 1), .ref (qa 2), .ref (qa 3), .ref (qa 4), .ref (qa 5), .ref (qa 6), .ref (qa 7), .ref (qa 8), .int (nI n), .ref (qa 9), .ref (qa 10), .ref (qa 11), .ref (qa 12), .ref (qa 13), .ref (qa 14), .ref (qa 15), .ref (qa 16), .ref (qa 17), .ref (qa 18), .ref (qa 19), .ref (qa 20)])), ((qa 1), .inl ((ct 0), 8, .inl a1)), ((qa 2), .inl ((ct 1), 8, .inr (.inl a2))), ((qa 3), .inl ((ct 1), 8, .inr (.inl a3))), ((qa 4), .inl ((ct 1), 8, .inr (.inl a4))), ((qa 5), .inl ((ct 0), 8, .inl a5)), ((qa 6), .inl ((ct 0), 8, .inl a6)), ((qa 7), .inl ((ct 0), 8, .inl a7)), ((qa 8), .inl ((ct 0), 8, .inl a8)), ((qa 9), .inl ((ct 2), 40, .inl a9)), ((qa 10), .inl ((ct 0), 40, .inl b0)), ((qa 11), .inl ((ct 0), 40, .inl b1)), ((qa 12), .inl ((ct 0), 40, .inl b2)), ((qa 13), .inl ((ct 0), 40, .inl b3)), ((qa 14), .inl ((ct 1), 40, .inr (.inl b4))), ((qa 15), .inl ((ct 1), 40, .inr (.inl b5))), ((qa 16), .inl ((ct 1), 40, .inr (.inl b6))), ((qa 17), .inl ((ct 1), 40, .inr (.inl b7))), ((qa 18), .inl ((ct 1), 40, .inr (.inl b8))), ((qa 19), .inl ((ct 1), 40, .inr (.inl b9))), ((qa 20), .inl ((ct 1), 40, .inr (.inl b10))), (qo, .inl ((ct 1), 1, .inr (.inl og))), (hd, .inr (0, [.ref us, .ref op, .int (nI (n + 1)), .int ck])), (us, .inl ((ct 3), 8, .inr (.inr (.inr (.inr fu))))), (op, .inl ((ct 4), 40, .inr (.inr (.inr (.inr (va_up fo n (some q9)))))))] ++ (ix_w 8 au eu ++ ix_w n ad es))) rfl (ws_k (lw_u rfl hk8 heu) (ws_c (ws' := ([(hm, .inr (4, [.int th, .long ns.toInt64, .int ck, .long hh, .ref (qa 1), .ref (qa 2), .ref (qa 3), .ref (qa 4), .ref (qa 5), .ref (qa 6), .ref (qa 7), .ref (qa 8), .int (nI n), .ref (qa 9), .ref (qa 10), .ref (qa 11), .ref (qa 12), .ref (qa 13), .ref (qa 14), .ref (qa 15), .ref (qa 16), .ref (qa 17), .ref (qa 18), .ref (qa 19), .ref (qa 20)])), ((qa 1), .inl ((ct 0), 8, .inl a1)), ((qa 2), .inl ((ct 1), 8, .inr (.inl a2))), ((qa 3), .inl ((ct 1), 8, .inr (.inl a3))), ((qa 4), .inl ((ct 1), 8, .inr (.inl a4))), ((qa 5), .inl ((ct 0), 8, .inl a5)), ((qa 6), .inl ((ct 0), 8, .inl a6)), ((qa 7), .inl ((ct 0), 8, .inl a7)), ((qa 8), .inl ((ct 0), 8, .inl a8)), ((qa 9), .inl ((ct 2), 40, .inl a9)), ((qa 10), .inl ((ct 0), 40, .inl b0)), ((qa 11), .inl ((ct 0), 40, .inl b1)), ((qa 12), .inl ((ct 0), 40, .inl b2)), ((qa 13), .inl ((ct 0), 40, .inl b3)), ((qa 14), .inl ((ct 1), 40, .inr (.inl b4))), ((qa 15), .inl ((ct 1), 40, .inr (.inl b5))), ((qa 16), .inl ((ct 1), 40, .inr (.inl b6))), ((qa 17), .inl ((ct 1), 40, .inr (.inl b7))), ((qa 18), .inl ((ct 1), 40, .inr (.inl b8))), ((qa 19), .inl ((ct 1), 40, .inr (.inl b9))), ((qa 20), .inl ((ct 1), 40, .inr (.inl b10))), (qo, .inl ((ct 1), 1, .inr (.inl (vp_updL og 0 ((nI n).toInt64))))), (hd, .inr (0, [.ref us, .ref op, .int (nI (n + 1)), .int ck])), (us, .inl ((ct 3), 8, .inr (.inr (.inr (.inr fu))))), (op, .inl ((ct 4), 40, .inr (.inr (.inr (.inr (va_up fo n (some q9)))))))] ++ (ix_w 8 au eu ++ ix_w n ad es))) rfl rfl))))))).trans lw_push
  refine wk_iN (w1 := fun q9 : Nat => [(hd, .inr (0, [.ref us, .ref op, .int (nI (n + 1)), .int ck])), (us, .inl ((ct 3), 8, .inr (.inr (.inr (.inr fu))))), (op, .inl ((ct 4), 40, .inr (.inr (.inr (.inr (va_up fo n (some q9))))))), ((au k), .inr (1, [.int (nI k), .int ns, .int (a1 k), .long (lN uo), .long ul, .long (lN uv), .int (a5 k), .int (a6 k), .int (a7 k), .int (a8 k)])), (qo, .inl ((ct 1), 1, .inr (.inl (vp_updL og 0 ((nI n).toInt64)))))]) (w2 := fun q9 : Nat => [(q9, .inr (3, [.ref (au k), .int (xs (iv + 2)), .long (lN (sc_n (lj (xs (iv + 3)) (xs (iv + 4))))), .int ck, .int 0, .long (lN 0), .long (lN 0), .long 0, .long 0, .long 0, .long 0, .long (lN (sv_r0 ns (nI k) (xs (iv + 2)) (a1 k) uo uv))]))]) (sh_run (As := [.ref hd, .int (nI k), .int (xs (iv + 2)), .long (lj (xs (iv + 3)) (xs (iv + 4))), .ref qo]) (rest := []) (hs := [(0, 12, 15, 13), (0, 12, 19, 15)]) ⟨hx, hb, hml, hown, hts⟩ (c_L_server1 l G ct H.size hd us op n ck fu fo (au k) k (nI k) ns (a1 k) uo ul uv (a5 k) (a6 k) (a7 k) (a8 k) (xs (iv + 2)) (lj (xs (iv + 3)) (xs (iv + 4))) qo og d_hk d_hfu d_hwi d_hn d_hbl) wk_ret ⟨hw, ww_378, ww_0, ⟨by decide, by decide⟩, np_L_server, ww_376, ww_377, rfl, rfl, Nat.le_of_ble_eq_true rfl, Nat.le_of_ble_eq_true rfl⟩ (wk_pre hPc hK hDc) rfl hl.1 rfl (lv_room (Nat.le_of_ble_eq_true rfl)) d_L_law_517 ⟨by omega, by omega⟩) hP hD hS hA [22, 23, 24, 25 + k, 21] hn9 hC9 (fun _ => by simp only [List.map_cons, List.map_nil]) (fun q9 H locs _ hP hD hS => ?_)
  have hW9 := hW9 q9
  have hP : va_P G classes (lw_W ct hd us op hm qo qa fu au ns (n + 1) ck n ck th hh a1 a2 a3 a4 a5 a6 a7 a8 a9 b0 b1 b2 b3 b4 b5 b6 b7 b8 b9 b10 (vp_updL og 0 ((nI n).toInt64)) (va_up fo n (some q9)) (va_up ad n q9) eu (va_up es n (.inr (3, [.ref (au k), .int (xs (iv + 2)), .long (lN (sc_n (lj (xs (iv + 3)) (xs (iv + 4))))), .int ck, .int 0, .long (lN 0), .long (lN 0), .long 0, .long 0, .long 0, .long 0, .long (lN (sv_r0 ns (nI k) (xs (iv + 2)) (a1 k) uo uv))])))) H := lp_P hW9 hP
  have hD : va_D A (lw_W ct hd us op hm qo qa fu au ns (n + 1) ck n ck th hh a1 a2 a3 a4 a5 a6 a7 a8 a9 b0 b1 b2 b3 b4 b5 b6 b7 b8 b9 b10 (vp_updL og 0 ((nI n).toInt64)) (va_up fo n (some q9)) (va_up ad n q9) eu (va_up es n (.inr (3, [.ref (au k), .int (xs (iv + 2)), .long (lN (sc_n (lj (xs (iv + 3)) (xs (iv + 4))))), .int ck, .int 0, .long (lN 0), .long (lN 0), .long 0, .long 0, .long 0, .long 0, .long (lN (sv_r0 ns (nI k) (xs (iv + 2)) (a1 k) uo uv))])))) := lp_D hW9 hD
  refine lv_istore (lv' := [(5, .int 0), (4, .int (nI iv)), (3, .ref qo), (2, .ref hm), (1, .ref hd), (0, .ref b)]) hx hb d_L_law_520 hl (Nat.le_of_ble_eq_true rfl) rfl (fun ls hl => ?_)
  refine lv_aload_n hx hb d_L_law_522 rfl (lv_at hl 3 rfl) ?_
  refine lv_aload_n hx hb d_L_law_523 rfl (lv_at hl 5 rfl) ?_
  refine lv_iload hx hb d_L_law_524 (lv_at hl 1 rfl) ?_
  refine lv_iconst (v := 1) hx hb d_L_law_526 (by decide) ?_
  refine lv_iadd hx hb d_L_law_527 ?_
  refine sl_ld (j := iv) (d := 1) hx hb hX hbl hbA hS hL (by omega) d_L_law_528 ?_
  refine tp_i (hv1) ?_
  refine lv_aload_n hx hb d_L_law_529 rfl (lv_at hl 5 rfl) ?_
  refine lv_iload hx hb d_L_law_530 (lv_at hl 1 rfl) ?_
  refine lv_iconst (v := 2) hx hb d_L_law_532 (by decide) ?_
  refine lv_iadd hx hb d_L_law_533 ?_
  refine sl_ld (j := iv) (d := 2) hx hb hX hbl hbA hS hL (by omega) d_L_law_534 ?_
  refine lv_aload_n hx hb d_L_law_535 rfl (lv_at hl 5 rfl) ?_
  refine lv_iload hx hb d_L_law_536 (lv_at hl 1 rfl) ?_
  refine lv_iconst (v := 3) hx hb d_L_law_538 (by decide) ?_
  refine lv_iadd hx hb d_L_law_539 ?_
  refine sl_ld (j := iv) (d := 3) hx hb hX hbl hbA hS hL (by omega) d_L_law_540 ?_
  refine lv_i2l (v := (xs (iv + 3)).toInt64) hx hb d_L_law_541 rfl ?_
  refine lv_bipush (v := 32) hx hb d_L_law_542 (by decide) ?_
  refine lv_lshl (v := ((xs (iv + 3)).toInt64) <<< ((32 : Int32).toInt64 &&& 63)) hx hb d_L_law_544 rfl ?_
  refine lv_aload_n hx hb d_L_law_545 rfl (lv_at hl 5 rfl) ?_
  refine lv_iload hx hb d_L_law_546 (lv_at hl 1 rfl) ?_
  refine lv_iconst (v := 4) hx hb d_L_law_548 (by decide) ?_
  refine lv_iadd hx hb d_L_law_549 ?_
  refine sl_ld (j := iv) (d := 4) hx hb hX hbl hbA hS hL (by omega) d_L_law_550 ?_
  refine lv_i2l (v := (xs (iv + 4)).toInt64) hx hb d_L_law_551 rfl ?_
  refine lv_ldc2 (v := 4294967295) hx hb hown (hw _ ww_884) d_L_law_552 ?_
  refine lv_land hx hb d_L_law_555 ?_
  refine lv_lor hx hb d_L_law_556 ?_
  refine tp_l (rfl) ?_
  have hPc : va_P G classes [(hm, .inr (4, [.int th, .long ns.toInt64, .int ck, .long hh, .ref (qa 1), .ref (qa 2), .ref (qa 3), .ref (qa 4), .ref (qa 5), .ref (qa 6), .ref (qa 7), .ref (qa 8), .int (nI n), .ref (qa 9), .ref (qa 10), .ref (qa 11), .ref (qa 12), .ref (qa 13), .ref (qa 14), .ref (qa 15), .ref (qa 16), .ref (qa 17), .ref (qa 18), .ref (qa 19), .ref (qa 20)])), ((qa 1), .inl ((ct 0), 8, .inl a1)), ((qa 2), .inl ((ct 1), 8, .inr (.inl a2))), ((qa 4), .inl ((ct 1), 8, .inr (.inl a4))), ((qa 5), .inl ((ct 0), 8, .inl a5)), ((qa 8), .inl ((ct 0), 8, .inl a8)), ((qa 9), .inl ((ct 2), 40, .inl a9)), ((qa 10), .inl ((ct 0), 40, .inl b0)), ((qa 11), .inl ((ct 0), 40, .inl b1)), ((qa 12), .inl ((ct 0), 40, .inl b2)), ((qa 13), .inl ((ct 0), 40, .inl b3)), ((qa 14), .inl ((ct 1), 40, .inr (.inl b4))), ((qa 16), .inl ((ct 1), 40, .inr (.inl b6))), ((qa 20), .inl ((ct 1), 40, .inr (.inl b10)))] H := hP.sub [0, 1, 2, 4, 5, 8, 9, 10, 11, 12, 13, 14, 16, 20] rfl
  have hDc := hD.sub (ws' := [(hm, .inr (4, [.int th, .long ns.toInt64, .int ck, .long hh, .ref (qa 1), .ref (qa 2), .ref (qa 3), .ref (qa 4), .ref (qa 5), .ref (qa 6), .ref (qa 7), .ref (qa 8), .int (nI n), .ref (qa 9), .ref (qa 10), .ref (qa 11), .ref (qa 12), .ref (qa 13), .ref (qa 14), .ref (qa 15), .ref (qa 16), .ref (qa 17), .ref (qa 18), .ref (qa 19), .ref (qa 20)])), ((qa 1), .inl ((ct 0), 8, .inl a1)), ((qa 2), .inl ((ct 1), 8, .inr (.inl a2))), ((qa 4), .inl ((ct 1), 8, .inr (.inl a4))), ((qa 5), .inl ((ct 0), 8, .inl a5)), ((qa 8), .inl ((ct 0), 8, .inl a8)), ((qa 9), .inl ((ct 2), 40, .inl a9)), ((qa 10), .inl ((ct 0), 40, .inl b0)), ((qa 11), .inl ((ct 0), 40, .inl b1)), ((qa 12), .inl ((ct 0), 40, .inl b2)), ((qa 13), .inl ((ct 0), 40, .inl b3)), ((qa 14), .inl ((ct 1), 40, .inr (.inl b4))), ((qa 16), .inl ((ct 1), 40, .inr (.inl b6))), ((qa 20), .inl ((ct 1), 40, .inr (.inl b10)))]) [0, 1, 2, 4, 5, 8, 9, 10, 11, 12, 13, 14, 16, 20] (by decide) rfl
  refine wk_i (va_runV (As := [.int (nI k), .int (xs (iv + 2)), .long (lj (xs (iv + 3)) (xs (iv + 4)))]) (rest := []) ⟨hx, hb, hml, hown, hts⟩ (c_M_server1S1 l G ct H.size hm th ns.toInt64 ck hh (qa 1) (qa 2) (qa 3) (qa 4) (qa 5) (qa 6) (qa 7) (qa 8) (qa 9) (qa 10) (qa 11) (qa 12) (qa 13) (qa 14) (qa 15) (qa 16) (qa 17) (qa 18) (qa 19) (qa 20) n a1 a2 a4 a5 a8 a9 b0 b1 b2 b3 b4 b6 b10 k (xs (iv + 2)) (lj (xs (iv + 3)) (xs (iv + 4))) m_hk m_hn m_hwy m_how m_hbl) (tb_V hw cy_M_server ww_796 ww_797 ww_798 rfl rfl ⟨Nat.le_of_ble_eq_true rfl, Nat.le_of_ble_eq_true rfl⟩) (wk_preV (ci := 4) (q0 := 0) hPc hK hDc rfl rfl) rfl rfl hl.1 rfl (lv_room (Nat.le_of_ble_eq_true rfl)) d_L_law_557 ⟨by omega, by omega⟩) hP hD hS hA [0, 1, 2, 4, 5, 8, 9, 10, 11, 12, 13, 14, 16, 20] (by decide) rfl (fun _ => by simp only [List.map_cons, List.map_nil]) (fun z21120 H locs ok1121 hP hD hS => ?_)
  have hP : va_P G classes (lw_W ct hd us op hm qo qa fu au ns (n + 1) ck (n + 1) ck 0 z21120 a1 a2 a3 a4 a5 a6 a7 a8 (upd a9 n 1) (upd b0 n (xs (iv + 2))) (upd b1 n (nI k)) (upd b2 n 0) (upd b3 n ck) (vp_updL b4 n (lN (sc_n (lj (xs (iv + 3)) (xs (iv + 4)))))) b5 (vp_updL b6 n (a4 k)) b7 b8 b9 (vp_updL b10 n 0) (vp_updL og 0 ((nI n).toInt64)) (va_up fo n (some q9)) (va_up ad n q9) eu (va_up es n (.inr (3, [.ref (au k), .int (xs (iv + 2)), .long (lN (sc_n (lj (xs (iv + 3)) (xs (iv + 4))))), .int ck, .int 0, .long (lN 0), .long (lN 0), .long 0, .long 0, .long 0, .long 0, .long (lN (sv_r0 ns (nI k) (xs (iv + 2)) (a1 k) uo uv))])))) H := hP
  have hD : va_D A (lw_W ct hd us op hm qo qa fu au ns (n + 1) ck (n + 1) ck 0 z21120 a1 a2 a3 a4 a5 a6 a7 a8 (upd a9 n 1) (upd b0 n (xs (iv + 2))) (upd b1 n (nI k)) (upd b2 n 0) (upd b3 n ck) (vp_updL b4 n (lN (sc_n (lj (xs (iv + 3)) (xs (iv + 4)))))) b5 (vp_updL b6 n (a4 k)) b7 b8 b9 (vp_updL b10 n 0) (vp_updL og 0 ((nI n).toInt64)) (va_up fo n (some q9)) (va_up ad n q9) eu (va_up es n (.inr (3, [.ref (au k), .int (xs (iv + 2)), .long (lN (sc_n (lj (xs (iv + 3)) (xs (iv + 4))))), .int ck, .int 0, .long (lN 0), .long (lN 0), .long 0, .long 0, .long 0, .long 0, .long (lN (sv_r0 ns (nI k) (xs (iv + 2)) (a1 k) uo uv))])))) := hD
  refine lv_istore (lv' := [(6, .int (nI n)), (5, .int 0), (4, .int (nI iv)), (3, .ref qo), (2, .ref hm), (1, .ref hd), (0, .ref b)]) hx hb d_L_law_560 hl (Nat.le_of_ble_eq_true rfl) rfl (fun ls hl => ?_)
  refine lv_aload_n hx hb d_L_law_562 rfl (lv_at hl 4 rfl) ?_
  have hPc : va_P G classes [(hm, .inr (4, [.int 0, .long ns.toInt64, .int ck, .long z21120, .ref (qa 1), .ref (qa 2), .ref (qa 3), .ref (qa 4), .ref (qa 5), .ref (qa 6), .ref (qa 7), .ref (qa 8), .int (nI (n + 1)), .ref (qa 9), .ref (qa 10), .ref (qa 11), .ref (qa 12), .ref (qa 13), .ref (qa 14), .ref (qa 15), .ref (qa 16), .ref (qa 17), .ref (qa 18), .ref (qa 19), .ref (qa 20)]))] H := hP.sub [0] rfl
  have hDc := hD.sub (ws' := [(hm, .inr (4, [.int 0, .long ns.toInt64, .int ck, .long z21120, .ref (qa 1), .ref (qa 2), .ref (qa 3), .ref (qa 4), .ref (qa 5), .ref (qa 6), .ref (qa 7), .ref (qa 8), .int (nI (n + 1)), .ref (qa 9), .ref (qa 10), .ref (qa 11), .ref (qa 12), .ref (qa 13), .ref (qa 14), .ref (qa 15), .ref (qa 16), .ref (qa 17), .ref (qa 18), .ref (qa 19), .ref (qa 20)]))]) [0] (by decide) rfl
  refine vp_callSi (W.runV (As := []) (rest := []) ⟨hx, hb, hml, hown, hts⟩ (c_M_thrown l G ct H.size hm 0 ns.toInt64 ck z21120 (qa 1) (qa 2) (qa 3) (qa 4) (qa 5) (qa 6) (qa 7) (qa 8) (qa 9) (qa 10) (qa 11) (qa 12) (qa 13) (qa 14) (qa 15) (qa 16) (qa 17) (qa 18) (qa 19) (qa 20) (n + 1)) (tb_V hw cy_M_thrown ww_719 ww_720 ww_721 rfl rfl ⟨Nat.le_of_ble_eq_true rfl, Nat.le_of_ble_eq_true rfl⟩) (wk_preV (ci := 4) (q0 := 0) hPc hK hDc rfl rfl) rfl rfl hl.1 rfl (lv_room (Nat.le_of_ble_eq_true rfl)) d_L_law_563 ⟨by omega, by omega⟩) (fun r1122 er1122 => ?_)
  subst er1122
  refine lv_iload hx hb d_L_law_566 (lv_at hl 1 rfl) ?_
  refine lv_icmp_eq (tgt := 573) hx hb d_L_law_568 (by decide) (fun h1123 => ?_) (fun h1123 => ?_)
  · refine lv_iload hx hb d_L_law_573 (lv_at hl 1 rfl) ?_
    refine lv_if_ne (tgt := 590) hx hb d_L_law_575 (by decide) (fun h1124 => ?_) (fun h1124 => ?_)
    · exact absurd h1124 (by decide)
    · refine lv_aload_n hx hb d_L_law_578 rfl (lv_at hl 3 rfl) ?_
      refine lv_iconst (v := 0) hx hb d_L_law_579 (by decide) ?_
      refine ra_ll hx hb hK.1 hP 21 1 rfl rfl (k := 0) (by omega) (by decide) d_L_law_580 ?_
      refine tp_l (ul_se _ _ _) ?_
      refine lv_iload hx hb d_L_law_581 (lv_at hl 0 rfl) ?_
      refine lv_i2l (v := (nI n).toInt64) hx hb d_L_law_583 rfl ?_
      refine W.lcmp hx hb d_L_law_584 ?_
      refine lv_if_eq (tgt := 590) hx hb d_L_law_585 (by decide) (fun h1125 => ?_) (fun h1125 => ?_)
      · have h1125 := (lg_cmp_eq _ _).mp h1125
        refine lv_goto (tgt := 1005) hx hb d_L_law_590 (by decide) ?_
        refine W.widen (k := cells + 1) (n := slots + 13) (by omega) (by omega) ?_
        exact kk (n + 1) ck 0 z21120 a1 a2 a3 a4 a5 a6 a7 a8 (upd a9 n 1) (upd b0 n (xs (iv + 2))) (upd b1 n (nI k)) (upd b2 n 0) (upd b3 n ck) (vp_updL b4 n (lN (sc_n (lj (xs (iv + 3)) (xs (iv + 4)))))) b5 (vp_updL b6 n (a4 k)) b7 b8 b9 (vp_updL b10 n 0) (vp_updL og 0 ((nI n).toInt64)) (va_up fo n (some q9)) (va_up ad n q9) eu (va_up es n (.inr (3, [.ref (au k), .int (xs (iv + 2)), .long (lN (sc_n (lj (xs (iv + 3)) (xs (iv + 4))))), .int ck, .int 0, .long (lN 0), .long (lN 0), .long 0, .long 0, .long 0, .long 0, .long (lN (sv_r0 ns (nI k) (xs (iv + 2)) (a1 k) uo uv))]))) H locs _ (hnew q9) hP hD hS (lv_sub hl [2, 3, 4, 5, 6] rfl)
      · have h1125 := fun q => h1125 ((lg_cmp_eq _ _).mpr q)
        exact absurd rfl h1125
  · exact absurd h1123 (by decide)
set_option maxHeartbeats 4000000 in
set_option maxRecDepth 100000 in
theorem lq_server1S0 {k : Nat} {uo : Nat} {ul : Int64} {uv : Nat} (C0 : lc_C p l s m meth c b L xs G ct A) (hiv : iv + 7 ≤ L) (hcc : cells + 1 ≤ room_1.cells) (hzz : slots + 13 ≤ room_1.slots)
    (hP : va_P G classes (lw_W ct hd us op hm qo qa fu au ns n ck n ck th hh a1 a2 a3 a4 a5 a6 a7 a8 a9 b0 b1 b2 b3 b4 b5 b6 b7 b8 b9 b10 og fo ad eu es) H) (hD : va_D A (lw_W ct hd us op hm qo qa fu au ns n ck n ck th hh a1 a2 a3 a4 a5 a6 a7 a8 a9 b0 b1 b2 b3 b4 b5 b6 b7 b8 b9 b10 og fo ad eu es)) (hS : va_S A s.heap H locs) (hl : lv_has ls 8 [(4, .int (nI iv)), (3, .ref qo), (2, .ref hm), (1, .ref hd), (0, .ref b)])
    (kk : lc_K p l e s m below meth c b L xs G ct A hd us op hm qo qa fu au ns iv (cells + 1) (slots + 13) Q)
    (hv1 : xs (iv + 1) = nI k) (hk8 : k < 8) (heu : eu k = .inr (1, [.int (nI k), .int ns, .int (a1 k), .long (lN uo), .long ul, .long (lN uv), .int (a5 k), .int (a6 k), .int (a7 k), .int (a8 k)])) (d_hk : k < 8) (d_hfu : fu k = some (au k)) (d_hwi : wy_in (xs (iv + 2))) (d_hn : n < 40) (d_hbl : ¬ us_bl (a5 k) (a8 k) ck) (m_hk : k < 8) (m_hn : n < 40) (m_hwy : (xs (iv + 2)) = 1) (m_how : ¬ a1 k = (xs (iv + 2))) (m_hbl : ¬ sm_bl (a5 k) (a8 k) ck)  (hnew : ∀ q9 : Nat, li_R fu au ns (n + 1) a1 a2 a3 a4 a5 a6 a7 a8 (upd a9 n 1) (upd b0 n (xs (iv + 2))) (upd b1 n (nI k)) (upd b2 n 0) (upd b3 n ck) (vp_updL b4 n (lN (sc_n (lj (xs (iv + 3)) (xs (iv + 4)))))) b5 (vp_updL b6 n (lN (pw_m 4 (sc_n (dg_3 (Int32.toInt64 5) ns.toInt64 (Int32.toInt64 (nI k))))))) b7 b8 b9 (vp_updL b10 n 0) (va_up fo n (some q9)) (va_up ad n q9) eu (va_up es n (.inr (3, [.ref (au k), .int (xs (iv + 2)), .long (lN (sc_n (lj (xs (iv + 3)) (xs (iv + 4))))), .int ck, .int 0, .long (lN 0), .long (lN 0), .long 0, .long 0, .long 0, .long 0, .long (lN (sv_r0 ns (nI k) (xs (iv + 2)) (a1 k) uo uv))]))))  : W p l e room_1 s m #[Value.ref b] below meth c H locs cells slots Q (F0 m 481 ls []) := by
  obtain ⟨hx, hb, hr, hml, hown, hw, hK, hZ, hR, hN, hfl, hA, hbA, hX, hbl, hL, hlocks⟩ := C0
  have hts := hw
  have hP : va_P G classes (lw_W ct hd us op hm qo qa fu au ns n ck n ck th hh a1 a2 a3 a4 a5 a6 a7 a8 a9 b0 b1 b2 b3 b4 b5 b6 b7 b8 b9 b10 og fo ad eu es) H := hP
  have hD : va_D A (lw_W ct hd us op hm qo qa fu au ns n ck n ck th hh a1 a2 a3 a4 a5 a6 a7 a8 a9 b0 b1 b2 b3 b4 b5 b6 b7 b8 b9 b10 og fo ad eu es) := hD
  refine lv_aload_n hx hb d_L_law_481 rfl (lv_at hl 3 rfl) ?_
  refine lv_aload_n hx hb d_L_law_482 rfl (lv_at hl 4 rfl) ?_
  refine lv_iload hx hb d_L_law_483 (lv_at hl 0 rfl) ?_
  refine lv_iconst (v := 1) hx hb d_L_law_485 (by decide) ?_
  refine lv_iadd hx hb d_L_law_486 ?_
  refine sl_ld (j := iv) (d := 1) hx hb hX hbl hbA hS hL (by omega) d_L_law_487 ?_
  refine tp_i (hv1) ?_
  refine lv_aload_n hx hb d_L_law_488 rfl (lv_at hl 4 rfl) ?_
  refine lv_iload hx hb d_L_law_489 (lv_at hl 0 rfl) ?_
  refine lv_iconst (v := 2) hx hb d_L_law_491 (by decide) ?_
  refine lv_iadd hx hb d_L_law_492 ?_
  refine sl_ld (j := iv) (d := 2) hx hb hX hbl hbA hS hL (by omega) d_L_law_493 ?_
  refine lv_aload_n hx hb d_L_law_494 rfl (lv_at hl 4 rfl) ?_
  refine lv_iload hx hb d_L_law_495 (lv_at hl 0 rfl) ?_
  refine lv_iconst (v := 3) hx hb d_L_law_497 (by decide) ?_
  refine lv_iadd hx hb d_L_law_498 ?_
  refine sl_ld (j := iv) (d := 3) hx hb hX hbl hbA hS hL (by omega) d_L_law_499 ?_
  refine lv_i2l (v := (xs (iv + 3)).toInt64) hx hb d_L_law_500 rfl ?_
  refine lv_bipush (v := 32) hx hb d_L_law_501 (by decide) ?_
  refine lv_lshl (v := ((xs (iv + 3)).toInt64) <<< ((32 : Int32).toInt64 &&& 63)) hx hb d_L_law_503 rfl ?_
  refine lv_aload_n hx hb d_L_law_504 rfl (lv_at hl 4 rfl) ?_
  refine lv_iload hx hb d_L_law_505 (lv_at hl 0 rfl) ?_
  refine lv_iconst (v := 4) hx hb d_L_law_507 (by decide) ?_
  refine lv_iadd hx hb d_L_law_508 ?_
  refine sl_ld (j := iv) (d := 4) hx hb hX hbl hbA hS hL (by omega) d_L_law_509 ?_
  refine lv_i2l (v := (xs (iv + 4)).toInt64) hx hb d_L_law_510 rfl ?_
  refine lv_ldc2 (v := 4294967295) hx hb hown (hw _ ww_884) d_L_law_511 ?_
  refine lv_land hx hb d_L_law_514 ?_
  refine lv_lor hx hb d_L_law_515 ?_
  refine tp_l (rfl) ?_
  refine lv_aload_n hx hb d_L_law_516 rfl (lv_at hl 1 rfl) ?_
  have hC9 : List.map (fun i => ((lw_W ct hd us op hm qo qa fu au ns n ck n ck th hh a1 a2 a3 a4 a5 a6 a7 a8 a9 b0 b1 b2 b3 b4 b5 b6 b7 b8 b9 b10 og fo ad eu es) : va_W)[i]?) [22, 23, 24, 25 + k, 21] = List.map some ([(hd, .inr (0, [.ref us, .ref op, .int (nI n), .int ck])), (us, .inl ((ct 3), 8, .inr (.inr (.inr (.inr fu))))), (op, .inl ((ct 4), 40, .inr (.inr (.inr (.inr fo))))), ((au k), .inr (1, [.int (nI k), .int ns, .int (a1 k), .long (lN uo), .long ul, .long (lN uv), .int (a5 k), .int (a6 k), .int (a7 k), .int (a8 k)])), (qo, .inl ((ct 1), 1, .inr (.inl og)))] : va_W) := (wc_c rfl (wc_c rfl (wc_c rfl (wc_c (lw_u rfl hk8 heu) (wc_c rfl rfl)))))
  have hn9 : va_nd [22, 23, 24, 25 + k, 21] = true := (nd_c (by simp only [List.mem_cons, List.not_mem_nil, or_false]; omega) (nd_c (by simp only [List.mem_cons, List.not_mem_nil, or_false]; omega) (nd_c (by simp only [List.mem_cons, List.not_mem_nil, or_false]; omega) (nd_c (by simp only [List.mem_cons, List.not_mem_nil, or_false]; omega) (nd_c List.not_mem_nil rfl)))))
  have hPc : va_P G classes [(hd, .inr (0, [.ref us, .ref op, .int (nI n), .int ck])), (us, .inl ((ct 3), 8, .inr (.inr (.inr (.inr fu))))), (op, .inl ((ct 4), 40, .inr (.inr (.inr (.inr fo))))), ((au k), .inr (1, [.int (nI k), .int ns, .int (a1 k), .long (lN uo), .long ul, .long (lN uv), .int (a5 k), .int (a6 k), .int (a7 k), .int (a8 k)])), (qo, .inl ((ct 1), 1, .inr (.inl og)))] H := lp_sub hP [22, 23, 24, 25 + k, 21] hC9
  have hDc := hD.sub (ws' := [(hd, .inr (0, [.ref us, .ref op, .int (nI n), .int ck])), (us, .inl ((ct 3), 8, .inr (.inr (.inr (.inr fu))))), (op, .inl ((ct 4), 40, .inr (.inr (.inr (.inr fo))))), ((au k), .inr (1, [.int (nI k), .int ns, .int (a1 k), .long (lN uo), .long ul, .long (lN uv), .int (a5 k), .int (a6 k), .int (a7 k), .int (a8 k)])), (qo, .inl ((ct 1), 1, .inr (.inl og)))]) [22, 23, 24, 25 + k, 21] hn9 hC9
  have hW9 : ∀ q9 : Nat, wk_sets ((lw_W ct hd us op hm qo qa fu au ns n ck n ck th hh a1 a2 a3 a4 a5 a6 a7 a8 a9 b0 b1 b2 b3 b4 b5 b6 b7 b8 b9 b10 og fo ad eu es) : va_W) [22, 23, 24, 25 + k, 21] ([(hd, .inr (0, [.ref us, .ref op, .int (nI (n + 1)), .int ck])), (us, .inl ((ct 3), 8, .inr (.inr (.inr (.inr fu))))), (op, .inl ((ct 4), 40, .inr (.inr (.inr (.inr (va_up fo n (some q9))))))), ((au k), .inr (1, [.int (nI k), .int ns, .int (a1 k), .long (lN uo), .long ul, .long (lN uv), .int (a5 k), .int (a6 k), .int (a7 k), .int (a8 k)])), (qo, .inl ((ct 1), 1, .inr (.inl (vp_updL og 0 ((nI n).toInt64)))))] : va_W) ++ ([(q9, .inr (3, [.ref (au k), .int (xs (iv + 2)), .long (lN (sc_n (lj (xs (iv + 3)) (xs (iv + 4))))), .int ck, .int 0, .long (lN 0), .long (lN 0), .long 0, .long 0, .long 0, .long 0, .long (lN (sv_r0 ns (nI k) (xs (iv + 2)) (a1 k) uo uv))]))] : va_W) = ((lw_W ct hd us op hm qo qa fu au ns (n + 1) ck n ck th hh a1 a2 a3 a4 a5 a6 a7 a8 a9 b0 b1 b2 b3 b4 b5 b6 b7 b8 b9 b10 (vp_updL og 0 ((nI n).toInt64)) (va_up fo n (some q9)) (va_up ad n q9) eu (va_up es n (.inr (3, [.ref (au k), .int (xs (iv + 2)), .long (lN (sc_n (lj (xs (iv + 3)) (xs (iv + 4))))), .int ck, .int 0, .long (lN 0), .long (lN 0), .long 0, .long 0, .long 0, .long 0, .long (lN (sv_r0 ns (nI k) (xs (iv + 2)) (a1 k) uo uv))])))) : va_W) := fun q9 => (congrArg (· ++ ([(q9, .inr (3, [.ref (au k), .int (xs (iv + 2)), .long (lN (sc_n (lj (xs (iv + 3)) (xs (iv + 4))))), .int ck, .int 0, .long (lN 0), .long (lN 0), .long 0, .long 0, .long 0, .long 0, .long (lN (sv_r0 ns (nI k) (xs (iv + 2)) (a1 k) uo uv))]))] : va_W)) (show wk_sets ((lw_W ct hd us op hm qo qa fu au ns n ck n ck th hh a1 a2 a3 a4 a5 a6 a7 a8 a9 b0 b1 b2 b3 b4 b5 b6 b7 b8 b9 b10 og fo ad eu es) : va_W) [22, 23, 24, 25 + k, 21] ([(hd, .inr (0, [.ref us, .ref op, .int (nI (n + 1)), .int ck])), (us, .inl ((ct 3), 8, .inr (.inr (.inr (.inr fu))))), (op, .inl ((ct 4), 40, .inr (.inr (.inr (.inr (va_up fo n (some q9))))))), ((au k), .inr (1, [.int (nI k), .int ns, .int (a1 k), .long (lN uo), .long ul, .long (lN uv), .int (a5 k), .int (a6 k), .int (a7 k), .int (a8 k)])), (qo, .inl ((ct 1), 1, .inr (.inl (vp_updL og 0 ((nI n).toInt64)))))] : va_W) = (([(hm, .inr (4, [.int th, .long ns.toInt64, .int ck, .long hh, .ref (qa 1), .ref (qa 2), .ref (qa 3), .ref (qa 4), .ref (qa 5), .ref (qa 6), .ref (qa 7), .ref (qa 8), .int (nI n), .ref (qa 9), .ref (qa 10), .ref (qa 11), .ref (qa 12), .ref (qa 13), .ref (qa 14), .ref (qa 15), .ref (qa 16), .ref (qa 17), .ref (qa 18), .ref (qa 19), .ref (qa 20)])), ((qa 1), .inl ((ct 0), 8, .inl a1)), ((qa 2), .inl ((ct 1), 8, .inr (.inl a2))), ((qa 3), .inl ((ct 1), 8, .inr (.inl a3))), ((qa 4), .inl ((ct 1), 8, .inr (.inl a4))), ((qa 5), .inl ((ct 0), 8, .inl a5)), ((qa 6), .inl ((ct 0), 8, .inl a6)), ((qa 7), .inl ((ct 0), 8, .inl a7)), ((qa 8), .inl ((ct 0), 8, .inl a8)), ((qa 9), .inl ((ct 2), 40, .inl a9)), ((qa 10), .inl ((ct 0), 40, .inl b0)), ((qa 11), .inl ((ct 0), 40, .inl b1)), ((qa 12), .inl ((ct 0), 40, .inl b2)), ((qa 13), .inl ((ct 0), 40, .inl b3)), ((qa 14), .inl ((ct 1), 40, .inr (.inl b4))), ((qa 15), .inl ((ct 1), 40, .inr (.inl b5))), ((qa 16), .inl ((ct 1), 40, .inr (.inl b6))), ((qa 17), .inl ((ct 1), 40, .inr (.inl b7))), ((qa 18), .inl ((ct 1), 40, .inr (.inl b8))), ((qa 19), .inl ((ct 1), 40, .inr (.inl b9))), ((qa 20), .inl ((ct 1), 40, .inr (.inl b10))), (qo, .inl ((ct 1), 1, .inr (.inl (vp_updL og 0 ((nI n).toInt64))))), (hd, .inr (0, [.ref us, .ref op, .int (nI (n + 1)), .int ck])), (us, .inl ((ct 3), 8, .inr (.inr (.inr (.inr fu))))), (op, .inl ((ct 4), 40, .inr (.inr (.inr (.inr (va_up fo n (some q9)))))))] ++ (ix_w 8 au eu ++ ix_w n ad es)) : va_W) from (ws_c (ws' := ([(hm, .inr (4, [.int th, .long ns.toInt64, .int ck, .long hh, .ref (qa 1), .ref (qa 2), .ref (qa 3), .ref (qa 4), .ref (qa 5), .ref (qa 6), .ref (qa 7), .ref (qa 8), .int (nI n), .ref (qa 9), .ref (qa 10), .ref (qa 11), .ref (qa 12), .ref (qa 13), .ref (qa 14), .ref (qa 15), .ref (qa 16), .ref (qa 17), .ref (qa 18), .ref (qa 19), .ref (qa 20)])), ((qa 1), .inl ((ct 0), 8, .inl a1)), ((qa 2), .inl ((ct 1), 8, .inr (.inl a2))), ((qa 3), .inl ((ct 1), 8, .inr (.inl a3))), ((qa 4), .inl ((ct 1), 8, .inr (.inl a4))), ((qa 5), .inl ((ct 0), 8, .inl a5)), ((qa 6), .inl ((ct 0), 8, .inl a6)), ((qa 7), .inl ((ct 0), 8, .inl a7)), ((qa 8), .inl ((ct 0), 8, .inl a8)), ((qa 9), .inl ((ct 2), 40, .inl a9)), ((qa 10), .inl ((ct 0), 40, .inl b0)), ((qa 11), .inl ((ct 0), 40, .inl b1)), ((qa 12), .inl ((ct 0), 40, .inl b2)), ((qa 13), .inl ((ct 0), 40, .inl b3)), ((qa 14), .inl ((ct 1), 40, .inr (.inl b4))), ((qa 15), .inl ((ct 1), 40, .inr (.inl b5))), ((qa 16), .inl ((ct 1), 40, .inr (.inl b6))), ((qa 17), .inl ((ct 1), 40, .inr (.inl b7))), ((qa 18), .inl ((ct 1), 40, .inr (.inl b8))), ((qa 19), .inl ((ct 1), 40, .inr (.inl b9))), ((qa 20), .inl ((ct 1), 40, .inr (.inl b10))), (qo, .inl ((ct 1), 1, .inr (.inl og))), (hd, .inr (0, [.ref us, .ref op, .int (nI (n + 1)), .int ck])), (us, .inl ((ct 3), 8, .inr (.inr (.inr (.inr fu))))), (op, .inl ((ct 4), 40, .inr (.inr (.inr (.inr fo)))))] ++ (ix_w 8 au eu ++ ix_w n ad es))) rfl (ws_k rfl (ws_c (ws' := ([(hm, .inr (4, [.int th, .long ns.toInt64, .int ck, .long hh, .ref (qa 1), .ref (qa 2), .ref (qa 3), .ref (qa 4), .ref (qa 5), .ref (qa 6), .ref (qa 7), .ref (qa 8), .int (nI n), .ref (qa 9), .ref (qa 10), .ref (qa 11), .ref (qa 12), .ref (qa 13), .ref (qa 14), .ref (qa 15), .ref (qa 16), .ref (qa 17), .ref (qa 18), .ref (qa 19), .ref (qa 20)])), ((qa 1), .inl ((ct 0), 8, .inl a1)), ((qa 2), .inl ((ct 1), 8, .inr (.inl a2))), ((qa 3), .inl ((ct 1), 8, .inr (.inl a3))), ((qa 4), .inl ((ct 1), 8, .inr (.inl a4))), ((qa 5), .inl ((ct 0), 8, .inl a5)), ((qa 6), .inl ((ct 0), 8, .inl a6)), ((qa 7), .inl ((ct 0), 8, .inl a7)), ((qa 8), .inl ((ct 0), 8, .inl a8)), ((qa 9), .inl ((ct 2), 40, .inl a9)), ((qa 10), .inl ((ct 0), 40, .inl b0)), ((qa 11), .inl ((ct 0), 40, .inl b1)), ((qa 12), .inl ((ct 0), 40, .inl b2)), ((qa 13), .inl ((ct 0), 40, .inl b3)), ((qa 14), .inl ((ct 1), 40, .inr (.inl b4))), ((qa 15), .inl ((ct 1), 40, .inr (.inl b5))), ((qa 16), .inl ((ct 1), 40, .inr (.inl b6))), ((qa 17), .inl ((ct 1), 40, .inr (.inl b7))), ((qa 18), .inl ((ct 1), 40, .inr (.inl b8))), ((qa 19), .inl ((ct 1), 40, .inr (.inl b9))), ((qa 20), .inl ((ct 1), 40, .inr (.inl b10))), (qo, .inl ((ct 1), 1, .inr (.inl og))), (hd, .inr (0, [.ref us, .ref op, .int (nI (n + 1)), .int ck])), (us, .inl ((ct 3), 8, .inr (.inr (.inr (.inr fu))))), (op, .inl ((ct 4), 40, .inr (.inr (.inr (.inr (va_up fo n (some q9)))))))] ++ (ix_w 8 au eu ++ ix_w n ad es))) rfl (ws_k (lw_u rfl hk8 heu) (ws_c (ws' := ([(hm, .inr (4, [.int th, .long ns.toInt64, .int ck, .long hh, .ref (qa 1), .ref (qa 2), .ref (qa 3), .ref (qa 4), .ref (qa 5), .ref (qa 6), .ref (qa 7), .ref (qa 8), .int (nI n), .ref (qa 9), .ref (qa 10), .ref (qa 11), .ref (qa 12), .ref (qa 13), .ref (qa 14), .ref (qa 15), .ref (qa 16), .ref (qa 17), .ref (qa 18), .ref (qa 19), .ref (qa 20)])), ((qa 1), .inl ((ct 0), 8, .inl a1)), ((qa 2), .inl ((ct 1), 8, .inr (.inl a2))), ((qa 3), .inl ((ct 1), 8, .inr (.inl a3))), ((qa 4), .inl ((ct 1), 8, .inr (.inl a4))), ((qa 5), .inl ((ct 0), 8, .inl a5)), ((qa 6), .inl ((ct 0), 8, .inl a6)), ((qa 7), .inl ((ct 0), 8, .inl a7)), ((qa 8), .inl ((ct 0), 8, .inl a8)), ((qa 9), .inl ((ct 2), 40, .inl a9)), ((qa 10), .inl ((ct 0), 40, .inl b0)), ((qa 11), .inl ((ct 0), 40, .inl b1)), ((qa 12), .inl ((ct 0), 40, .inl b2)), ((qa 13), .inl ((ct 0), 40, .inl b3)), ((qa 14), .inl ((ct 1), 40, .inr (.inl b4))), ((qa 15), .inl ((ct 1), 40, .inr (.inl b5))), ((qa 16), .inl ((ct 1), 40, .inr (.inl b6))), ((qa 17), .inl ((ct 1), 40, .inr (.inl b7))), ((qa 18), .inl ((ct 1), 40, .inr (.inl b8))), ((qa 19), .inl ((ct 1), 40, .inr (.inl b9))), ((qa 20), .inl ((ct 1), 40, .inr (.inl b10))), (qo, .inl ((ct 1), 1, .inr (.inl (vp_updL og 0 ((nI n).toInt64))))), (hd, .inr (0, [.ref us, .ref op, .int (nI (n + 1)), .int ck])), (us, .inl ((ct 3), 8, .inr (.inr (.inr (.inr fu))))), (op, .inl ((ct 4), 40, .inr (.inr (.inr (.inr (va_up fo n (some q9)))))))] ++ (ix_w 8 au eu ++ ix_w n ad es))) rfl rfl))))))).trans lw_push
  refine wk_iN (w1 := fun q9 : Nat => [(hd, .inr (0, [.ref us, .ref op, .int (nI (n + 1)), .int ck])), (us, .inl ((ct 3), 8, .inr (.inr (.inr (.inr fu))))), (op, .inl ((ct 4), 40, .inr (.inr (.inr (.inr (va_up fo n (some q9))))))), ((au k), .inr (1, [.int (nI k), .int ns, .int (a1 k), .long (lN uo), .long ul, .long (lN uv), .int (a5 k), .int (a6 k), .int (a7 k), .int (a8 k)])), (qo, .inl ((ct 1), 1, .inr (.inl (vp_updL og 0 ((nI n).toInt64)))))]) (w2 := fun q9 : Nat => [(q9, .inr (3, [.ref (au k), .int (xs (iv + 2)), .long (lN (sc_n (lj (xs (iv + 3)) (xs (iv + 4))))), .int ck, .int 0, .long (lN 0), .long (lN 0), .long 0, .long 0, .long 0, .long 0, .long (lN (sv_r0 ns (nI k) (xs (iv + 2)) (a1 k) uo uv))]))]) (sh_run (As := [.ref hd, .int (nI k), .int (xs (iv + 2)), .long (lj (xs (iv + 3)) (xs (iv + 4))), .ref qo]) (rest := []) (hs := [(0, 12, 15, 13), (0, 12, 19, 15)]) ⟨hx, hb, hml, hown, hts⟩ (c_L_server1 l G ct H.size hd us op n ck fu fo (au k) k (nI k) ns (a1 k) uo ul uv (a5 k) (a6 k) (a7 k) (a8 k) (xs (iv + 2)) (lj (xs (iv + 3)) (xs (iv + 4))) qo og d_hk d_hfu d_hwi d_hn d_hbl) wk_ret ⟨hw, ww_378, ww_0, ⟨by decide, by decide⟩, np_L_server, ww_376, ww_377, rfl, rfl, Nat.le_of_ble_eq_true rfl, Nat.le_of_ble_eq_true rfl⟩ (wk_pre hPc hK hDc) rfl hl.1 rfl (lv_room (Nat.le_of_ble_eq_true rfl)) d_L_law_517 ⟨by omega, by omega⟩) hP hD hS hA [22, 23, 24, 25 + k, 21] hn9 hC9 (fun _ => by simp only [List.map_cons, List.map_nil]) (fun q9 H locs _ hP hD hS => ?_)
  have hW9 := hW9 q9
  have hP : va_P G classes (lw_W ct hd us op hm qo qa fu au ns (n + 1) ck n ck th hh a1 a2 a3 a4 a5 a6 a7 a8 a9 b0 b1 b2 b3 b4 b5 b6 b7 b8 b9 b10 (vp_updL og 0 ((nI n).toInt64)) (va_up fo n (some q9)) (va_up ad n q9) eu (va_up es n (.inr (3, [.ref (au k), .int (xs (iv + 2)), .long (lN (sc_n (lj (xs (iv + 3)) (xs (iv + 4))))), .int ck, .int 0, .long (lN 0), .long (lN 0), .long 0, .long 0, .long 0, .long 0, .long (lN (sv_r0 ns (nI k) (xs (iv + 2)) (a1 k) uo uv))])))) H := lp_P hW9 hP
  have hD : va_D A (lw_W ct hd us op hm qo qa fu au ns (n + 1) ck n ck th hh a1 a2 a3 a4 a5 a6 a7 a8 a9 b0 b1 b2 b3 b4 b5 b6 b7 b8 b9 b10 (vp_updL og 0 ((nI n).toInt64)) (va_up fo n (some q9)) (va_up ad n q9) eu (va_up es n (.inr (3, [.ref (au k), .int (xs (iv + 2)), .long (lN (sc_n (lj (xs (iv + 3)) (xs (iv + 4))))), .int ck, .int 0, .long (lN 0), .long (lN 0), .long 0, .long 0, .long 0, .long 0, .long (lN (sv_r0 ns (nI k) (xs (iv + 2)) (a1 k) uo uv))])))) := lp_D hW9 hD
  refine lv_istore (lv' := [(5, .int 0), (4, .int (nI iv)), (3, .ref qo), (2, .ref hm), (1, .ref hd), (0, .ref b)]) hx hb d_L_law_520 hl (Nat.le_of_ble_eq_true rfl) rfl (fun ls hl => ?_)
  refine lv_aload_n hx hb d_L_law_522 rfl (lv_at hl 3 rfl) ?_
  refine lv_aload_n hx hb d_L_law_523 rfl (lv_at hl 5 rfl) ?_
  refine lv_iload hx hb d_L_law_524 (lv_at hl 1 rfl) ?_
  refine lv_iconst (v := 1) hx hb d_L_law_526 (by decide) ?_
  refine lv_iadd hx hb d_L_law_527 ?_
  refine sl_ld (j := iv) (d := 1) hx hb hX hbl hbA hS hL (by omega) d_L_law_528 ?_
  refine tp_i (hv1) ?_
  refine lv_aload_n hx hb d_L_law_529 rfl (lv_at hl 5 rfl) ?_
  refine lv_iload hx hb d_L_law_530 (lv_at hl 1 rfl) ?_
  refine lv_iconst (v := 2) hx hb d_L_law_532 (by decide) ?_
  refine lv_iadd hx hb d_L_law_533 ?_
  refine sl_ld (j := iv) (d := 2) hx hb hX hbl hbA hS hL (by omega) d_L_law_534 ?_
  refine lv_aload_n hx hb d_L_law_535 rfl (lv_at hl 5 rfl) ?_
  refine lv_iload hx hb d_L_law_536 (lv_at hl 1 rfl) ?_
  refine lv_iconst (v := 3) hx hb d_L_law_538 (by decide) ?_
  refine lv_iadd hx hb d_L_law_539 ?_
  refine sl_ld (j := iv) (d := 3) hx hb hX hbl hbA hS hL (by omega) d_L_law_540 ?_
  refine lv_i2l (v := (xs (iv + 3)).toInt64) hx hb d_L_law_541 rfl ?_
  refine lv_bipush (v := 32) hx hb d_L_law_542 (by decide) ?_
  refine lv_lshl (v := ((xs (iv + 3)).toInt64) <<< ((32 : Int32).toInt64 &&& 63)) hx hb d_L_law_544 rfl ?_
  refine lv_aload_n hx hb d_L_law_545 rfl (lv_at hl 5 rfl) ?_
  refine lv_iload hx hb d_L_law_546 (lv_at hl 1 rfl) ?_
  refine lv_iconst (v := 4) hx hb d_L_law_548 (by decide) ?_
  refine lv_iadd hx hb d_L_law_549 ?_
  refine sl_ld (j := iv) (d := 4) hx hb hX hbl hbA hS hL (by omega) d_L_law_550 ?_
  refine lv_i2l (v := (xs (iv + 4)).toInt64) hx hb d_L_law_551 rfl ?_
  refine lv_ldc2 (v := 4294967295) hx hb hown (hw _ ww_884) d_L_law_552 ?_
  refine lv_land hx hb d_L_law_555 ?_
  refine lv_lor hx hb d_L_law_556 ?_
  refine tp_l (rfl) ?_
  have hPc : va_P G classes [(hm, .inr (4, [.int th, .long ns.toInt64, .int ck, .long hh, .ref (qa 1), .ref (qa 2), .ref (qa 3), .ref (qa 4), .ref (qa 5), .ref (qa 6), .ref (qa 7), .ref (qa 8), .int (nI n), .ref (qa 9), .ref (qa 10), .ref (qa 11), .ref (qa 12), .ref (qa 13), .ref (qa 14), .ref (qa 15), .ref (qa 16), .ref (qa 17), .ref (qa 18), .ref (qa 19), .ref (qa 20)])), ((qa 1), .inl ((ct 0), 8, .inl a1)), ((qa 2), .inl ((ct 1), 8, .inr (.inl a2))), ((qa 4), .inl ((ct 1), 8, .inr (.inl a4))), ((qa 5), .inl ((ct 0), 8, .inl a5)), ((qa 8), .inl ((ct 0), 8, .inl a8)), ((qa 9), .inl ((ct 2), 40, .inl a9)), ((qa 10), .inl ((ct 0), 40, .inl b0)), ((qa 11), .inl ((ct 0), 40, .inl b1)), ((qa 12), .inl ((ct 0), 40, .inl b2)), ((qa 13), .inl ((ct 0), 40, .inl b3)), ((qa 14), .inl ((ct 1), 40, .inr (.inl b4))), ((qa 16), .inl ((ct 1), 40, .inr (.inl b6))), ((qa 20), .inl ((ct 1), 40, .inr (.inl b10)))] H := hP.sub [0, 1, 2, 4, 5, 8, 9, 10, 11, 12, 13, 14, 16, 20] rfl
  have hDc := hD.sub (ws' := [(hm, .inr (4, [.int th, .long ns.toInt64, .int ck, .long hh, .ref (qa 1), .ref (qa 2), .ref (qa 3), .ref (qa 4), .ref (qa 5), .ref (qa 6), .ref (qa 7), .ref (qa 8), .int (nI n), .ref (qa 9), .ref (qa 10), .ref (qa 11), .ref (qa 12), .ref (qa 13), .ref (qa 14), .ref (qa 15), .ref (qa 16), .ref (qa 17), .ref (qa 18), .ref (qa 19), .ref (qa 20)])), ((qa 1), .inl ((ct 0), 8, .inl a1)), ((qa 2), .inl ((ct 1), 8, .inr (.inl a2))), ((qa 4), .inl ((ct 1), 8, .inr (.inl a4))), ((qa 5), .inl ((ct 0), 8, .inl a5)), ((qa 8), .inl ((ct 0), 8, .inl a8)), ((qa 9), .inl ((ct 2), 40, .inl a9)), ((qa 10), .inl ((ct 0), 40, .inl b0)), ((qa 11), .inl ((ct 0), 40, .inl b1)), ((qa 12), .inl ((ct 0), 40, .inl b2)), ((qa 13), .inl ((ct 0), 40, .inl b3)), ((qa 14), .inl ((ct 1), 40, .inr (.inl b4))), ((qa 16), .inl ((ct 1), 40, .inr (.inl b6))), ((qa 20), .inl ((ct 1), 40, .inr (.inl b10)))]) [0, 1, 2, 4, 5, 8, 9, 10, 11, 12, 13, 14, 16, 20] (by decide) rfl
  refine wk_i (va_runV (As := [.int (nI k), .int (xs (iv + 2)), .long (lj (xs (iv + 3)) (xs (iv + 4)))]) (rest := []) ⟨hx, hb, hml, hown, hts⟩ (c_M_server1S0 l G ct H.size hm th ns.toInt64 ck hh (qa 1) (qa 2) (qa 3) (qa 4) (qa 5) (qa 6) (qa 7) (qa 8) (qa 9) (qa 10) (qa 11) (qa 12) (qa 13) (qa 14) (qa 15) (qa 16) (qa 17) (qa 18) (qa 19) (qa 20) n a1 a2 a4 a5 a8 a9 b0 b1 b2 b3 b4 b6 b10 k (xs (iv + 2)) (lj (xs (iv + 3)) (xs (iv + 4))) m_hk m_hn m_hwy m_how m_hbl) (tb_V hw cy_M_server ww_796 ww_797 ww_798 rfl rfl ⟨Nat.le_of_ble_eq_true rfl, Nat.le_of_ble_eq_true rfl⟩) (wk_preV (ci := 4) (q0 := 0) hPc hK hDc rfl rfl) rfl rfl hl.1 rfl (lv_room (Nat.le_of_ble_eq_true rfl)) d_L_law_557 ⟨by omega, by omega⟩) hP hD hS hA [0, 1, 2, 4, 5, 8, 9, 10, 11, 12, 13, 14, 16, 20] (by decide) rfl (fun _ => by simp only [List.map_cons, List.map_nil]) (fun z21126 H locs ok1127 hP hD hS => ?_)
  have hP : va_P G classes (lw_W ct hd us op hm qo qa fu au ns (n + 1) ck (n + 1) ck 0 z21126 a1 a2 a3 a4 a5 a6 a7 a8 (upd a9 n 1) (upd b0 n (xs (iv + 2))) (upd b1 n (nI k)) (upd b2 n 0) (upd b3 n ck) (vp_updL b4 n (lN (sc_n (lj (xs (iv + 3)) (xs (iv + 4)))))) b5 (vp_updL b6 n (lN (pw_m 4 (sc_n (dg_3 (Int32.toInt64 5) ns.toInt64 (Int32.toInt64 (nI k))))))) b7 b8 b9 (vp_updL b10 n 0) (vp_updL og 0 ((nI n).toInt64)) (va_up fo n (some q9)) (va_up ad n q9) eu (va_up es n (.inr (3, [.ref (au k), .int (xs (iv + 2)), .long (lN (sc_n (lj (xs (iv + 3)) (xs (iv + 4))))), .int ck, .int 0, .long (lN 0), .long (lN 0), .long 0, .long 0, .long 0, .long 0, .long (lN (sv_r0 ns (nI k) (xs (iv + 2)) (a1 k) uo uv))])))) H := hP
  have hD : va_D A (lw_W ct hd us op hm qo qa fu au ns (n + 1) ck (n + 1) ck 0 z21126 a1 a2 a3 a4 a5 a6 a7 a8 (upd a9 n 1) (upd b0 n (xs (iv + 2))) (upd b1 n (nI k)) (upd b2 n 0) (upd b3 n ck) (vp_updL b4 n (lN (sc_n (lj (xs (iv + 3)) (xs (iv + 4)))))) b5 (vp_updL b6 n (lN (pw_m 4 (sc_n (dg_3 (Int32.toInt64 5) ns.toInt64 (Int32.toInt64 (nI k))))))) b7 b8 b9 (vp_updL b10 n 0) (vp_updL og 0 ((nI n).toInt64)) (va_up fo n (some q9)) (va_up ad n q9) eu (va_up es n (.inr (3, [.ref (au k), .int (xs (iv + 2)), .long (lN (sc_n (lj (xs (iv + 3)) (xs (iv + 4))))), .int ck, .int 0, .long (lN 0), .long (lN 0), .long 0, .long 0, .long 0, .long 0, .long (lN (sv_r0 ns (nI k) (xs (iv + 2)) (a1 k) uo uv))])))) := hD
  refine lv_istore (lv' := [(6, .int (nI n)), (5, .int 0), (4, .int (nI iv)), (3, .ref qo), (2, .ref hm), (1, .ref hd), (0, .ref b)]) hx hb d_L_law_560 hl (Nat.le_of_ble_eq_true rfl) rfl (fun ls hl => ?_)
  refine lv_aload_n hx hb d_L_law_562 rfl (lv_at hl 4 rfl) ?_
  have hPc : va_P G classes [(hm, .inr (4, [.int 0, .long ns.toInt64, .int ck, .long z21126, .ref (qa 1), .ref (qa 2), .ref (qa 3), .ref (qa 4), .ref (qa 5), .ref (qa 6), .ref (qa 7), .ref (qa 8), .int (nI (n + 1)), .ref (qa 9), .ref (qa 10), .ref (qa 11), .ref (qa 12), .ref (qa 13), .ref (qa 14), .ref (qa 15), .ref (qa 16), .ref (qa 17), .ref (qa 18), .ref (qa 19), .ref (qa 20)]))] H := hP.sub [0] rfl
  have hDc := hD.sub (ws' := [(hm, .inr (4, [.int 0, .long ns.toInt64, .int ck, .long z21126, .ref (qa 1), .ref (qa 2), .ref (qa 3), .ref (qa 4), .ref (qa 5), .ref (qa 6), .ref (qa 7), .ref (qa 8), .int (nI (n + 1)), .ref (qa 9), .ref (qa 10), .ref (qa 11), .ref (qa 12), .ref (qa 13), .ref (qa 14), .ref (qa 15), .ref (qa 16), .ref (qa 17), .ref (qa 18), .ref (qa 19), .ref (qa 20)]))]) [0] (by decide) rfl
  refine vp_callSi (W.runV (As := []) (rest := []) ⟨hx, hb, hml, hown, hts⟩ (c_M_thrown l G ct H.size hm 0 ns.toInt64 ck z21126 (qa 1) (qa 2) (qa 3) (qa 4) (qa 5) (qa 6) (qa 7) (qa 8) (qa 9) (qa 10) (qa 11) (qa 12) (qa 13) (qa 14) (qa 15) (qa 16) (qa 17) (qa 18) (qa 19) (qa 20) (n + 1)) (tb_V hw cy_M_thrown ww_719 ww_720 ww_721 rfl rfl ⟨Nat.le_of_ble_eq_true rfl, Nat.le_of_ble_eq_true rfl⟩) (wk_preV (ci := 4) (q0 := 0) hPc hK hDc rfl rfl) rfl rfl hl.1 rfl (lv_room (Nat.le_of_ble_eq_true rfl)) d_L_law_563 ⟨by omega, by omega⟩) (fun r1128 er1128 => ?_)
  subst er1128
  refine lv_iload hx hb d_L_law_566 (lv_at hl 1 rfl) ?_
  refine lv_icmp_eq (tgt := 573) hx hb d_L_law_568 (by decide) (fun h1129 => ?_) (fun h1129 => ?_)
  · refine lv_iload hx hb d_L_law_573 (lv_at hl 1 rfl) ?_
    refine lv_if_ne (tgt := 590) hx hb d_L_law_575 (by decide) (fun h1130 => ?_) (fun h1130 => ?_)
    · exact absurd h1130 (by decide)
    · refine lv_aload_n hx hb d_L_law_578 rfl (lv_at hl 3 rfl) ?_
      refine lv_iconst (v := 0) hx hb d_L_law_579 (by decide) ?_
      refine ra_ll hx hb hK.1 hP 21 1 rfl rfl (k := 0) (by omega) (by decide) d_L_law_580 ?_
      refine tp_l (ul_se _ _ _) ?_
      refine lv_iload hx hb d_L_law_581 (lv_at hl 0 rfl) ?_
      refine lv_i2l (v := (nI n).toInt64) hx hb d_L_law_583 rfl ?_
      refine W.lcmp hx hb d_L_law_584 ?_
      refine lv_if_eq (tgt := 590) hx hb d_L_law_585 (by decide) (fun h1131 => ?_) (fun h1131 => ?_)
      · have h1131 := (lg_cmp_eq _ _).mp h1131
        refine lv_goto (tgt := 1005) hx hb d_L_law_590 (by decide) ?_
        refine W.widen (k := cells + 1) (n := slots + 13) (by omega) (by omega) ?_
        exact kk (n + 1) ck 0 z21126 a1 a2 a3 a4 a5 a6 a7 a8 (upd a9 n 1) (upd b0 n (xs (iv + 2))) (upd b1 n (nI k)) (upd b2 n 0) (upd b3 n ck) (vp_updL b4 n (lN (sc_n (lj (xs (iv + 3)) (xs (iv + 4)))))) b5 (vp_updL b6 n (lN (pw_m 4 (sc_n (dg_3 (Int32.toInt64 5) ns.toInt64 (Int32.toInt64 (nI k))))))) b7 b8 b9 (vp_updL b10 n 0) (vp_updL og 0 ((nI n).toInt64)) (va_up fo n (some q9)) (va_up ad n q9) eu (va_up es n (.inr (3, [.ref (au k), .int (xs (iv + 2)), .long (lN (sc_n (lj (xs (iv + 3)) (xs (iv + 4))))), .int ck, .int 0, .long (lN 0), .long (lN 0), .long 0, .long 0, .long 0, .long 0, .long (lN (sv_r0 ns (nI k) (xs (iv + 2)) (a1 k) uo uv))]))) H locs _ (hnew q9) hP hD hS (lv_sub hl [2, 3, 4, 5, 6] rfl)
      · have h1131 := fun q => h1131 ((lg_cmp_eq _ _).mpr q)
        exact absurd rfl h1131
  · exact absurd h1129 (by decide)
set_option maxHeartbeats 4000000 in
set_option maxRecDepth 100000 in
theorem lq_server0  (C0 : lc_C p l s m meth c b L xs G ct A) (hiv : iv + 7 ≤ L) (hcc : cells + 1 ≤ room_1.cells) (hzz : slots + 13 ≤ room_1.slots)
    (hP : va_P G classes (lw_W ct hd us op hm qo qa fu au ns n ck n ck th hh a1 a2 a3 a4 a5 a6 a7 a8 a9 b0 b1 b2 b3 b4 b5 b6 b7 b8 b9 b10 og fo ad eu es) H) (hD : va_D A (lw_W ct hd us op hm qo qa fu au ns n ck n ck th hh a1 a2 a3 a4 a5 a6 a7 a8 a9 b0 b1 b2 b3 b4 b5 b6 b7 b8 b9 b10 og fo ad eu es)) (hS : va_S A s.heap H locs) (hl : lv_has ls 8 [(4, .int (nI iv)), (3, .ref qo), (2, .ref hm), (1, .ref hd), (0, .ref b)])
    (kk : lc_K p l e s m below meth c b L xs G ct A hd us op hm qo qa fu au ns iv (cells + 1) (slots + 13) Q)
     (d_hno : ¬ us_in (xs (iv + 1))) (m_hno : ¬ (us_in (xs (iv + 1)) ∧ wy_in (xs (iv + 2))))  (hnew : li_R fu au ns n a1 a2 a3 a4 a5 a6 a7 a8 a9 b0 b1 b2 b3 b4 b5 b6 b7 b8 b9 b10 fo ad eu es)  : W p l e room_1 s m #[Value.ref b] below meth c H locs cells slots Q (F0 m 481 ls []) := by
  obtain ⟨hx, hb, hr, hml, hown, hw, hK, hZ, hR, hN, hfl, hA, hbA, hX, hbl, hL, hlocks⟩ := C0
  have hts := hw
  have hP : va_P G classes (lw_W ct hd us op hm qo qa fu au ns n ck n ck th hh a1 a2 a3 a4 a5 a6 a7 a8 a9 b0 b1 b2 b3 b4 b5 b6 b7 b8 b9 b10 og fo ad eu es) H := hP
  have hD : va_D A (lw_W ct hd us op hm qo qa fu au ns n ck n ck th hh a1 a2 a3 a4 a5 a6 a7 a8 a9 b0 b1 b2 b3 b4 b5 b6 b7 b8 b9 b10 og fo ad eu es) := hD
  refine lv_aload_n hx hb d_L_law_481 rfl (lv_at hl 3 rfl) ?_
  refine lv_aload_n hx hb d_L_law_482 rfl (lv_at hl 4 rfl) ?_
  refine lv_iload hx hb d_L_law_483 (lv_at hl 0 rfl) ?_
  refine lv_iconst (v := 1) hx hb d_L_law_485 (by decide) ?_
  refine lv_iadd hx hb d_L_law_486 ?_
  refine sl_ld (j := iv) (d := 1) hx hb hX hbl hbA hS hL (by omega) d_L_law_487 ?_
  refine lv_aload_n hx hb d_L_law_488 rfl (lv_at hl 4 rfl) ?_
  refine lv_iload hx hb d_L_law_489 (lv_at hl 0 rfl) ?_
  refine lv_iconst (v := 2) hx hb d_L_law_491 (by decide) ?_
  refine lv_iadd hx hb d_L_law_492 ?_
  refine sl_ld (j := iv) (d := 2) hx hb hX hbl hbA hS hL (by omega) d_L_law_493 ?_
  refine lv_aload_n hx hb d_L_law_494 rfl (lv_at hl 4 rfl) ?_
  refine lv_iload hx hb d_L_law_495 (lv_at hl 0 rfl) ?_
  refine lv_iconst (v := 3) hx hb d_L_law_497 (by decide) ?_
  refine lv_iadd hx hb d_L_law_498 ?_
  refine sl_ld (j := iv) (d := 3) hx hb hX hbl hbA hS hL (by omega) d_L_law_499 ?_
  refine lv_i2l (v := (xs (iv + 3)).toInt64) hx hb d_L_law_500 rfl ?_
  refine lv_bipush (v := 32) hx hb d_L_law_501 (by decide) ?_
  refine lv_lshl (v := ((xs (iv + 3)).toInt64) <<< ((32 : Int32).toInt64 &&& 63)) hx hb d_L_law_503 rfl ?_
  refine lv_aload_n hx hb d_L_law_504 rfl (lv_at hl 4 rfl) ?_
  refine lv_iload hx hb d_L_law_505 (lv_at hl 0 rfl) ?_
  refine lv_iconst (v := 4) hx hb d_L_law_507 (by decide) ?_
  refine lv_iadd hx hb d_L_law_508 ?_
  refine sl_ld (j := iv) (d := 4) hx hb hX hbl hbA hS hL (by omega) d_L_law_509 ?_
  refine lv_i2l (v := (xs (iv + 4)).toInt64) hx hb d_L_law_510 rfl ?_
  refine lv_ldc2 (v := 4294967295) hx hb hown (hw _ ww_884) d_L_law_511 ?_
  refine lv_land hx hb d_L_law_514 ?_
  refine lv_lor hx hb d_L_law_515 ?_
  refine tp_l (rfl) ?_
  refine lv_aload_n hx hb d_L_law_516 rfl (lv_at hl 1 rfl) ?_
  have hC9 : List.map (fun i => ((lw_W ct hd us op hm qo qa fu au ns n ck n ck th hh a1 a2 a3 a4 a5 a6 a7 a8 a9 b0 b1 b2 b3 b4 b5 b6 b7 b8 b9 b10 og fo ad eu es) : va_W)[i]?) [22, 21] = List.map some ([(hd, .inr (0, [.ref us, .ref op, .int (nI n), .int ck])), (qo, .inl ((ct 1), 1, .inr (.inl og)))] : va_W) := (wc_c rfl (wc_c rfl rfl))
  have hn9 : va_nd [22, 21] = true := by decide
  have hPc : va_P G classes [(hd, .inr (0, [.ref us, .ref op, .int (nI n), .int ck])), (qo, .inl ((ct 1), 1, .inr (.inl og)))] H := lp_sub hP [22, 21] hC9
  have hDc := hD.sub (ws' := [(hd, .inr (0, [.ref us, .ref op, .int (nI n), .int ck])), (qo, .inl ((ct 1), 1, .inr (.inl og)))]) [22, 21] hn9 hC9
  have hW9 : wk_sets ((lw_W ct hd us op hm qo qa fu au ns n ck n ck th hh a1 a2 a3 a4 a5 a6 a7 a8 a9 b0 b1 b2 b3 b4 b5 b6 b7 b8 b9 b10 og fo ad eu es) : va_W) [22, 21] ([(hd, .inr (0, [.ref us, .ref op, .int (nI n), .int ck])), (qo, .inl ((ct 1), 1, .inr (.inl og)))] : va_W) = ((lw_W ct hd us op hm qo qa fu au ns n ck n ck th hh a1 a2 a3 a4 a5 a6 a7 a8 a9 b0 b1 b2 b3 b4 b5 b6 b7 b8 b9 b10 og fo ad eu es) : va_W) := (ws_k rfl (ws_k rfl rfl))
  refine wk_i (sh_run (As := [.ref hd, .int (xs (iv + 1)), .int (xs (iv + 2)), .long (lj (xs (iv + 3)) (xs (iv + 4))), .ref qo]) (rest := []) (hs := [(0, 12, 15, 13), (0, 12, 19, 15)]) ⟨hx, hb, hml, hown, hts⟩ (c_L_server0 l hfl G ct H.size hd us op n ck (xs (iv + 1)) (xs (iv + 2)) (lj (xs (iv + 3)) (xs (iv + 4))) qo og d_hno) wk_ret ⟨hw, ww_378, ww_0, ⟨by decide, by decide⟩, np_L_server, ww_376, ww_377, rfl, rfl, Nat.le_of_ble_eq_true rfl, Nat.le_of_ble_eq_true rfl⟩ (wk_pre5 hPc hK hDc hD hS hA [22, 21] hC9 hZ hR hN) rfl hl.1 rfl (lv_room (Nat.le_of_ble_eq_true rfl)) d_L_law_517 ⟨by omega, by omega⟩) hP hD hS hA [22, 21] hn9 hC9 (fun _ => by simp only [List.map_cons, List.map_nil]) (fun _ H locs _ hP hD hS => ?_)
  have hP : va_P G classes (lw_W ct hd us op hm qo qa fu au ns n ck n ck th hh a1 a2 a3 a4 a5 a6 a7 a8 a9 b0 b1 b2 b3 b4 b5 b6 b7 b8 b9 b10 og fo ad eu es) H := lp_P hW9 hP
  have hD : va_D A (lw_W ct hd us op hm qo qa fu au ns n ck n ck th hh a1 a2 a3 a4 a5 a6 a7 a8 a9 b0 b1 b2 b3 b4 b5 b6 b7 b8 b9 b10 og fo ad eu es) := lp_D hW9 hD
  refine lv_istore (lv' := [(5, .int 1), (4, .int (nI iv)), (3, .ref qo), (2, .ref hm), (1, .ref hd), (0, .ref b)]) hx hb d_L_law_520 hl (Nat.le_of_ble_eq_true rfl) rfl (fun ls hl => ?_)
  refine lv_aload_n hx hb d_L_law_522 rfl (lv_at hl 3 rfl) ?_
  refine lv_aload_n hx hb d_L_law_523 rfl (lv_at hl 5 rfl) ?_
  refine lv_iload hx hb d_L_law_524 (lv_at hl 1 rfl) ?_
  refine lv_iconst (v := 1) hx hb d_L_law_526 (by decide) ?_
  refine lv_iadd hx hb d_L_law_527 ?_
  refine sl_ld (j := iv) (d := 1) hx hb hX hbl hbA hS hL (by omega) d_L_law_528 ?_
  refine lv_aload_n hx hb d_L_law_529 rfl (lv_at hl 5 rfl) ?_
  refine lv_iload hx hb d_L_law_530 (lv_at hl 1 rfl) ?_
  refine lv_iconst (v := 2) hx hb d_L_law_532 (by decide) ?_
  refine lv_iadd hx hb d_L_law_533 ?_
  refine sl_ld (j := iv) (d := 2) hx hb hX hbl hbA hS hL (by omega) d_L_law_534 ?_
  refine lv_aload_n hx hb d_L_law_535 rfl (lv_at hl 5 rfl) ?_
  refine lv_iload hx hb d_L_law_536 (lv_at hl 1 rfl) ?_
  refine lv_iconst (v := 3) hx hb d_L_law_538 (by decide) ?_
  refine lv_iadd hx hb d_L_law_539 ?_
  refine sl_ld (j := iv) (d := 3) hx hb hX hbl hbA hS hL (by omega) d_L_law_540 ?_
  refine lv_i2l (v := (xs (iv + 3)).toInt64) hx hb d_L_law_541 rfl ?_
  refine lv_bipush (v := 32) hx hb d_L_law_542 (by decide) ?_
  refine lv_lshl (v := ((xs (iv + 3)).toInt64) <<< ((32 : Int32).toInt64 &&& 63)) hx hb d_L_law_544 rfl ?_
  refine lv_aload_n hx hb d_L_law_545 rfl (lv_at hl 5 rfl) ?_
  refine lv_iload hx hb d_L_law_546 (lv_at hl 1 rfl) ?_
  refine lv_iconst (v := 4) hx hb d_L_law_548 (by decide) ?_
  refine lv_iadd hx hb d_L_law_549 ?_
  refine sl_ld (j := iv) (d := 4) hx hb hX hbl hbA hS hL (by omega) d_L_law_550 ?_
  refine lv_i2l (v := (xs (iv + 4)).toInt64) hx hb d_L_law_551 rfl ?_
  refine lv_ldc2 (v := 4294967295) hx hb hown (hw _ ww_884) d_L_law_552 ?_
  refine lv_land hx hb d_L_law_555 ?_
  refine lv_lor hx hb d_L_law_556 ?_
  refine tp_l (rfl) ?_
  have hPc : va_P G classes [(hm, .inr (4, [.int th, .long ns.toInt64, .int ck, .long hh, .ref (qa 1), .ref (qa 2), .ref (qa 3), .ref (qa 4), .ref (qa 5), .ref (qa 6), .ref (qa 7), .ref (qa 8), .int (nI n), .ref (qa 9), .ref (qa 10), .ref (qa 11), .ref (qa 12), .ref (qa 13), .ref (qa 14), .ref (qa 15), .ref (qa 16), .ref (qa 17), .ref (qa 18), .ref (qa 19), .ref (qa 20)]))] H := hP.sub [0] rfl
  have hDc := hD.sub (ws' := [(hm, .inr (4, [.int th, .long ns.toInt64, .int ck, .long hh, .ref (qa 1), .ref (qa 2), .ref (qa 3), .ref (qa 4), .ref (qa 5), .ref (qa 6), .ref (qa 7), .ref (qa 8), .int (nI n), .ref (qa 9), .ref (qa 10), .ref (qa 11), .ref (qa 12), .ref (qa 13), .ref (qa 14), .ref (qa 15), .ref (qa 16), .ref (qa 17), .ref (qa 18), .ref (qa 19), .ref (qa 20)]))]) [0] (by decide) rfl
  refine wk_i (va_runV (As := [.int (xs (iv + 1)), .int (xs (iv + 2)), .long (lj (xs (iv + 3)) (xs (iv + 4)))]) (rest := []) ⟨hx, hb, hml, hown, hts⟩ (c_M_server0 l G ct H.size hm th ns.toInt64 ck hh (qa 1) (qa 2) (qa 3) (qa 4) (qa 5) (qa 6) (qa 7) (qa 8) (qa 9) (qa 10) (qa 11) (qa 12) (qa 13) (qa 14) (qa 15) (qa 16) (qa 17) (qa 18) (qa 19) (qa 20) n (xs (iv + 1)) (xs (iv + 2)) (lj (xs (iv + 3)) (xs (iv + 4))) m_hno) (tb_V hw cy_M_server ww_796 ww_797 ww_798 rfl rfl ⟨Nat.le_of_ble_eq_true rfl, Nat.le_of_ble_eq_true rfl⟩) (wk_preV (ci := 4) (q0 := 0) hPc hK hDc rfl rfl) rfl rfl hl.1 rfl (lv_room (Nat.le_of_ble_eq_true rfl)) d_L_law_557 ⟨by omega, by omega⟩) hP hD hS hA [0] (by decide) rfl (fun _ => by simp only [List.map_cons, List.map_nil]) (fun _ H locs ok1132 hP hD hS => ?_)
  have hP : va_P G classes (lw_W ct hd us op hm qo qa fu au ns n ck n ck 1 hh a1 a2 a3 a4 a5 a6 a7 a8 a9 b0 b1 b2 b3 b4 b5 b6 b7 b8 b9 b10 og fo ad eu es) H := hP
  have hD : va_D A (lw_W ct hd us op hm qo qa fu au ns n ck n ck 1 hh a1 a2 a3 a4 a5 a6 a7 a8 a9 b0 b1 b2 b3 b4 b5 b6 b7 b8 b9 b10 og fo ad eu es) := hD
  refine lv_istore (lv' := [(6, .int 0), (5, .int 1), (4, .int (nI iv)), (3, .ref qo), (2, .ref hm), (1, .ref hd), (0, .ref b)]) hx hb d_L_law_560 hl (Nat.le_of_ble_eq_true rfl) rfl (fun ls hl => ?_)
  refine lv_aload_n hx hb d_L_law_562 rfl (lv_at hl 4 rfl) ?_
  have hPc : va_P G classes [(hm, .inr (4, [.int 1, .long ns.toInt64, .int ck, .long hh, .ref (qa 1), .ref (qa 2), .ref (qa 3), .ref (qa 4), .ref (qa 5), .ref (qa 6), .ref (qa 7), .ref (qa 8), .int (nI n), .ref (qa 9), .ref (qa 10), .ref (qa 11), .ref (qa 12), .ref (qa 13), .ref (qa 14), .ref (qa 15), .ref (qa 16), .ref (qa 17), .ref (qa 18), .ref (qa 19), .ref (qa 20)]))] H := hP.sub [0] rfl
  have hDc := hD.sub (ws' := [(hm, .inr (4, [.int 1, .long ns.toInt64, .int ck, .long hh, .ref (qa 1), .ref (qa 2), .ref (qa 3), .ref (qa 4), .ref (qa 5), .ref (qa 6), .ref (qa 7), .ref (qa 8), .int (nI n), .ref (qa 9), .ref (qa 10), .ref (qa 11), .ref (qa 12), .ref (qa 13), .ref (qa 14), .ref (qa 15), .ref (qa 16), .ref (qa 17), .ref (qa 18), .ref (qa 19), .ref (qa 20)]))]) [0] (by decide) rfl
  refine vp_callSi (W.runV (As := []) (rest := []) ⟨hx, hb, hml, hown, hts⟩ (c_M_thrown l G ct H.size hm 1 ns.toInt64 ck hh (qa 1) (qa 2) (qa 3) (qa 4) (qa 5) (qa 6) (qa 7) (qa 8) (qa 9) (qa 10) (qa 11) (qa 12) (qa 13) (qa 14) (qa 15) (qa 16) (qa 17) (qa 18) (qa 19) (qa 20) n) (tb_V hw cy_M_thrown ww_719 ww_720 ww_721 rfl rfl ⟨Nat.le_of_ble_eq_true rfl, Nat.le_of_ble_eq_true rfl⟩) (wk_preV (ci := 4) (q0 := 0) hPc hK hDc rfl rfl) rfl rfl hl.1 rfl (lv_room (Nat.le_of_ble_eq_true rfl)) d_L_law_563 ⟨by omega, by omega⟩) (fun r1133 er1133 => ?_)
  subst er1133
  refine lv_iload hx hb d_L_law_566 (lv_at hl 1 rfl) ?_
  refine lv_icmp_eq (tgt := 573) hx hb d_L_law_568 (by decide) (fun h1134 => ?_) (fun h1134 => ?_)
  · refine lv_iload hx hb d_L_law_573 (lv_at hl 1 rfl) ?_
    refine lv_if_ne (tgt := 590) hx hb d_L_law_575 (by decide) (fun h1135 => ?_) (fun h1135 => ?_)
    · refine lv_goto (tgt := 1005) hx hb d_L_law_590 (by decide) ?_
      refine W.widen (k := cells + 1) (n := slots + 13) (by omega) (by omega) ?_
      exact kk n ck 1 hh a1 a2 a3 a4 a5 a6 a7 a8 a9 b0 b1 b2 b3 b4 b5 b6 b7 b8 b9 b10 og fo ad eu es H locs _ hnew hP hD hS (lv_sub hl [2, 3, 4, 5, 6] rfl)
    · exact absurd h1135 (by decide)
  · exact absurd h1134 (by decide)
set_option maxHeartbeats 4000000 in
set_option maxRecDepth 100000 in
theorem lq_server0b {k : Nat} (C0 : lc_C p l s m meth c b L xs G ct A) (hiv : iv + 7 ≤ L) (hcc : cells + 1 ≤ room_1.cells) (hzz : slots + 13 ≤ room_1.slots)
    (hP : va_P G classes (lw_W ct hd us op hm qo qa fu au ns n ck n ck th hh a1 a2 a3 a4 a5 a6 a7 a8 a9 b0 b1 b2 b3 b4 b5 b6 b7 b8 b9 b10 og fo ad eu es) H) (hD : va_D A (lw_W ct hd us op hm qo qa fu au ns n ck n ck th hh a1 a2 a3 a4 a5 a6 a7 a8 a9 b0 b1 b2 b3 b4 b5 b6 b7 b8 b9 b10 og fo ad eu es)) (hS : va_S A s.heap H locs) (hl : lv_has ls 8 [(4, .int (nI iv)), (3, .ref qo), (2, .ref hm), (1, .ref hd), (0, .ref b)])
    (kk : lc_K p l e s m below meth c b L xs G ct A hd us op hm qo qa fu au ns iv (cells + 1) (slots + 13) Q)
    (hv1 : xs (iv + 1) = nI k) (d_hk : k < 8) (d_hfu : fu k = some (au k)) (d_hwi : ¬ wy_in (xs (iv + 2))) (m_hno : ¬ (us_in (nI k) ∧ wy_in (xs (iv + 2))))  (hnew : li_R fu au ns n a1 a2 a3 a4 a5 a6 a7 a8 a9 b0 b1 b2 b3 b4 b5 b6 b7 b8 b9 b10 fo ad eu es)  : W p l e room_1 s m #[Value.ref b] below meth c H locs cells slots Q (F0 m 481 ls []) := by
  obtain ⟨hx, hb, hr, hml, hown, hw, hK, hZ, hR, hN, hfl, hA, hbA, hX, hbl, hL, hlocks⟩ := C0
  have hts := hw
  have hP : va_P G classes (lw_W ct hd us op hm qo qa fu au ns n ck n ck th hh a1 a2 a3 a4 a5 a6 a7 a8 a9 b0 b1 b2 b3 b4 b5 b6 b7 b8 b9 b10 og fo ad eu es) H := hP
  have hD : va_D A (lw_W ct hd us op hm qo qa fu au ns n ck n ck th hh a1 a2 a3 a4 a5 a6 a7 a8 a9 b0 b1 b2 b3 b4 b5 b6 b7 b8 b9 b10 og fo ad eu es) := hD
  refine lv_aload_n hx hb d_L_law_481 rfl (lv_at hl 3 rfl) ?_
  refine lv_aload_n hx hb d_L_law_482 rfl (lv_at hl 4 rfl) ?_
  refine lv_iload hx hb d_L_law_483 (lv_at hl 0 rfl) ?_
  refine lv_iconst (v := 1) hx hb d_L_law_485 (by decide) ?_
  refine lv_iadd hx hb d_L_law_486 ?_
  refine sl_ld (j := iv) (d := 1) hx hb hX hbl hbA hS hL (by omega) d_L_law_487 ?_
  refine tp_i (hv1) ?_
  refine lv_aload_n hx hb d_L_law_488 rfl (lv_at hl 4 rfl) ?_
  refine lv_iload hx hb d_L_law_489 (lv_at hl 0 rfl) ?_
  refine lv_iconst (v := 2) hx hb d_L_law_491 (by decide) ?_
  refine lv_iadd hx hb d_L_law_492 ?_
  refine sl_ld (j := iv) (d := 2) hx hb hX hbl hbA hS hL (by omega) d_L_law_493 ?_
  refine lv_aload_n hx hb d_L_law_494 rfl (lv_at hl 4 rfl) ?_
  refine lv_iload hx hb d_L_law_495 (lv_at hl 0 rfl) ?_
  refine lv_iconst (v := 3) hx hb d_L_law_497 (by decide) ?_
  refine lv_iadd hx hb d_L_law_498 ?_
  refine sl_ld (j := iv) (d := 3) hx hb hX hbl hbA hS hL (by omega) d_L_law_499 ?_
  refine lv_i2l (v := (xs (iv + 3)).toInt64) hx hb d_L_law_500 rfl ?_
  refine lv_bipush (v := 32) hx hb d_L_law_501 (by decide) ?_
  refine lv_lshl (v := ((xs (iv + 3)).toInt64) <<< ((32 : Int32).toInt64 &&& 63)) hx hb d_L_law_503 rfl ?_
  refine lv_aload_n hx hb d_L_law_504 rfl (lv_at hl 4 rfl) ?_
  refine lv_iload hx hb d_L_law_505 (lv_at hl 0 rfl) ?_
  refine lv_iconst (v := 4) hx hb d_L_law_507 (by decide) ?_
  refine lv_iadd hx hb d_L_law_508 ?_
  refine sl_ld (j := iv) (d := 4) hx hb hX hbl hbA hS hL (by omega) d_L_law_509 ?_
  refine lv_i2l (v := (xs (iv + 4)).toInt64) hx hb d_L_law_510 rfl ?_
  refine lv_ldc2 (v := 4294967295) hx hb hown (hw _ ww_884) d_L_law_511 ?_
  refine lv_land hx hb d_L_law_514 ?_
  refine lv_lor hx hb d_L_law_515 ?_
  refine tp_l (rfl) ?_
  refine lv_aload_n hx hb d_L_law_516 rfl (lv_at hl 1 rfl) ?_
  have hC9 : List.map (fun i => ((lw_W ct hd us op hm qo qa fu au ns n ck n ck th hh a1 a2 a3 a4 a5 a6 a7 a8 a9 b0 b1 b2 b3 b4 b5 b6 b7 b8 b9 b10 og fo ad eu es) : va_W)[i]?) [22, 23, 21] = List.map some ([(hd, .inr (0, [.ref us, .ref op, .int (nI n), .int ck])), (us, .inl ((ct 3), 8, .inr (.inr (.inr (.inr fu))))), (qo, .inl ((ct 1), 1, .inr (.inl og)))] : va_W) := (wc_c rfl (wc_c rfl (wc_c rfl rfl)))
  have hn9 : va_nd [22, 23, 21] = true := by decide
  have hPc : va_P G classes [(hd, .inr (0, [.ref us, .ref op, .int (nI n), .int ck])), (us, .inl ((ct 3), 8, .inr (.inr (.inr (.inr fu))))), (qo, .inl ((ct 1), 1, .inr (.inl og)))] H := lp_sub hP [22, 23, 21] hC9
  have hDc := hD.sub (ws' := [(hd, .inr (0, [.ref us, .ref op, .int (nI n), .int ck])), (us, .inl ((ct 3), 8, .inr (.inr (.inr (.inr fu))))), (qo, .inl ((ct 1), 1, .inr (.inl og)))]) [22, 23, 21] hn9 hC9
  have hW9 : wk_sets ((lw_W ct hd us op hm qo qa fu au ns n ck n ck th hh a1 a2 a3 a4 a5 a6 a7 a8 a9 b0 b1 b2 b3 b4 b5 b6 b7 b8 b9 b10 og fo ad eu es) : va_W) [22, 23, 21] ([(hd, .inr (0, [.ref us, .ref op, .int (nI n), .int ck])), (us, .inl ((ct 3), 8, .inr (.inr (.inr (.inr fu))))), (qo, .inl ((ct 1), 1, .inr (.inl og)))] : va_W) = ((lw_W ct hd us op hm qo qa fu au ns n ck n ck th hh a1 a2 a3 a4 a5 a6 a7 a8 a9 b0 b1 b2 b3 b4 b5 b6 b7 b8 b9 b10 og fo ad eu es) : va_W) := (ws_k rfl (ws_k rfl (ws_k rfl rfl)))
  refine wk_i (sh_run (As := [.ref hd, .int (nI k), .int (xs (iv + 2)), .long (lj (xs (iv + 3)) (xs (iv + 4))), .ref qo]) (rest := []) (hs := [(0, 12, 15, 13), (0, 12, 19, 15)]) ⟨hx, hb, hml, hown, hts⟩ (c_L_server0b l hfl G ct H.size hd us op n ck fu (au k) k (xs (iv + 2)) (lj (xs (iv + 3)) (xs (iv + 4))) qo og d_hk d_hfu d_hwi) wk_ret ⟨hw, ww_378, ww_0, ⟨by decide, by decide⟩, np_L_server, ww_376, ww_377, rfl, rfl, Nat.le_of_ble_eq_true rfl, Nat.le_of_ble_eq_true rfl⟩ (wk_pre5 hPc hK hDc hD hS hA [22, 23, 21] hC9 hZ hR hN) rfl hl.1 rfl (lv_room (Nat.le_of_ble_eq_true rfl)) d_L_law_517 ⟨by omega, by omega⟩) hP hD hS hA [22, 23, 21] hn9 hC9 (fun _ => by simp only [List.map_cons, List.map_nil]) (fun _ H locs _ hP hD hS => ?_)
  have hP : va_P G classes (lw_W ct hd us op hm qo qa fu au ns n ck n ck th hh a1 a2 a3 a4 a5 a6 a7 a8 a9 b0 b1 b2 b3 b4 b5 b6 b7 b8 b9 b10 og fo ad eu es) H := lp_P hW9 hP
  have hD : va_D A (lw_W ct hd us op hm qo qa fu au ns n ck n ck th hh a1 a2 a3 a4 a5 a6 a7 a8 a9 b0 b1 b2 b3 b4 b5 b6 b7 b8 b9 b10 og fo ad eu es) := lp_D hW9 hD
  refine lv_istore (lv' := [(5, .int 1), (4, .int (nI iv)), (3, .ref qo), (2, .ref hm), (1, .ref hd), (0, .ref b)]) hx hb d_L_law_520 hl (Nat.le_of_ble_eq_true rfl) rfl (fun ls hl => ?_)
  refine lv_aload_n hx hb d_L_law_522 rfl (lv_at hl 3 rfl) ?_
  refine lv_aload_n hx hb d_L_law_523 rfl (lv_at hl 5 rfl) ?_
  refine lv_iload hx hb d_L_law_524 (lv_at hl 1 rfl) ?_
  refine lv_iconst (v := 1) hx hb d_L_law_526 (by decide) ?_
  refine lv_iadd hx hb d_L_law_527 ?_
  refine sl_ld (j := iv) (d := 1) hx hb hX hbl hbA hS hL (by omega) d_L_law_528 ?_
  refine tp_i (hv1) ?_
  refine lv_aload_n hx hb d_L_law_529 rfl (lv_at hl 5 rfl) ?_
  refine lv_iload hx hb d_L_law_530 (lv_at hl 1 rfl) ?_
  refine lv_iconst (v := 2) hx hb d_L_law_532 (by decide) ?_
  refine lv_iadd hx hb d_L_law_533 ?_
  refine sl_ld (j := iv) (d := 2) hx hb hX hbl hbA hS hL (by omega) d_L_law_534 ?_
  refine lv_aload_n hx hb d_L_law_535 rfl (lv_at hl 5 rfl) ?_
  refine lv_iload hx hb d_L_law_536 (lv_at hl 1 rfl) ?_
  refine lv_iconst (v := 3) hx hb d_L_law_538 (by decide) ?_
  refine lv_iadd hx hb d_L_law_539 ?_
  refine sl_ld (j := iv) (d := 3) hx hb hX hbl hbA hS hL (by omega) d_L_law_540 ?_
  refine lv_i2l (v := (xs (iv + 3)).toInt64) hx hb d_L_law_541 rfl ?_
  refine lv_bipush (v := 32) hx hb d_L_law_542 (by decide) ?_
  refine lv_lshl (v := ((xs (iv + 3)).toInt64) <<< ((32 : Int32).toInt64 &&& 63)) hx hb d_L_law_544 rfl ?_
  refine lv_aload_n hx hb d_L_law_545 rfl (lv_at hl 5 rfl) ?_
  refine lv_iload hx hb d_L_law_546 (lv_at hl 1 rfl) ?_
  refine lv_iconst (v := 4) hx hb d_L_law_548 (by decide) ?_
  refine lv_iadd hx hb d_L_law_549 ?_
  refine sl_ld (j := iv) (d := 4) hx hb hX hbl hbA hS hL (by omega) d_L_law_550 ?_
  refine lv_i2l (v := (xs (iv + 4)).toInt64) hx hb d_L_law_551 rfl ?_
  refine lv_ldc2 (v := 4294967295) hx hb hown (hw _ ww_884) d_L_law_552 ?_
  refine lv_land hx hb d_L_law_555 ?_
  refine lv_lor hx hb d_L_law_556 ?_
  refine tp_l (rfl) ?_
  have hPc : va_P G classes [(hm, .inr (4, [.int th, .long ns.toInt64, .int ck, .long hh, .ref (qa 1), .ref (qa 2), .ref (qa 3), .ref (qa 4), .ref (qa 5), .ref (qa 6), .ref (qa 7), .ref (qa 8), .int (nI n), .ref (qa 9), .ref (qa 10), .ref (qa 11), .ref (qa 12), .ref (qa 13), .ref (qa 14), .ref (qa 15), .ref (qa 16), .ref (qa 17), .ref (qa 18), .ref (qa 19), .ref (qa 20)]))] H := hP.sub [0] rfl
  have hDc := hD.sub (ws' := [(hm, .inr (4, [.int th, .long ns.toInt64, .int ck, .long hh, .ref (qa 1), .ref (qa 2), .ref (qa 3), .ref (qa 4), .ref (qa 5), .ref (qa 6), .ref (qa 7), .ref (qa 8), .int (nI n), .ref (qa 9), .ref (qa 10), .ref (qa 11), .ref (qa 12), .ref (qa 13), .ref (qa 14), .ref (qa 15), .ref (qa 16), .ref (qa 17), .ref (qa 18), .ref (qa 19), .ref (qa 20)]))]) [0] (by decide) rfl
  refine wk_i (va_runV (As := [.int (nI k), .int (xs (iv + 2)), .long (lj (xs (iv + 3)) (xs (iv + 4)))]) (rest := []) ⟨hx, hb, hml, hown, hts⟩ (c_M_server0 l G ct H.size hm th ns.toInt64 ck hh (qa 1) (qa 2) (qa 3) (qa 4) (qa 5) (qa 6) (qa 7) (qa 8) (qa 9) (qa 10) (qa 11) (qa 12) (qa 13) (qa 14) (qa 15) (qa 16) (qa 17) (qa 18) (qa 19) (qa 20) n (nI k) (xs (iv + 2)) (lj (xs (iv + 3)) (xs (iv + 4))) m_hno) (tb_V hw cy_M_server ww_796 ww_797 ww_798 rfl rfl ⟨Nat.le_of_ble_eq_true rfl, Nat.le_of_ble_eq_true rfl⟩) (wk_preV (ci := 4) (q0 := 0) hPc hK hDc rfl rfl) rfl rfl hl.1 rfl (lv_room (Nat.le_of_ble_eq_true rfl)) d_L_law_557 ⟨by omega, by omega⟩) hP hD hS hA [0] (by decide) rfl (fun _ => by simp only [List.map_cons, List.map_nil]) (fun _ H locs ok1136 hP hD hS => ?_)
  have hP : va_P G classes (lw_W ct hd us op hm qo qa fu au ns n ck n ck 1 hh a1 a2 a3 a4 a5 a6 a7 a8 a9 b0 b1 b2 b3 b4 b5 b6 b7 b8 b9 b10 og fo ad eu es) H := hP
  have hD : va_D A (lw_W ct hd us op hm qo qa fu au ns n ck n ck 1 hh a1 a2 a3 a4 a5 a6 a7 a8 a9 b0 b1 b2 b3 b4 b5 b6 b7 b8 b9 b10 og fo ad eu es) := hD
  refine lv_istore (lv' := [(6, .int 0), (5, .int 1), (4, .int (nI iv)), (3, .ref qo), (2, .ref hm), (1, .ref hd), (0, .ref b)]) hx hb d_L_law_560 hl (Nat.le_of_ble_eq_true rfl) rfl (fun ls hl => ?_)
  refine lv_aload_n hx hb d_L_law_562 rfl (lv_at hl 4 rfl) ?_
  have hPc : va_P G classes [(hm, .inr (4, [.int 1, .long ns.toInt64, .int ck, .long hh, .ref (qa 1), .ref (qa 2), .ref (qa 3), .ref (qa 4), .ref (qa 5), .ref (qa 6), .ref (qa 7), .ref (qa 8), .int (nI n), .ref (qa 9), .ref (qa 10), .ref (qa 11), .ref (qa 12), .ref (qa 13), .ref (qa 14), .ref (qa 15), .ref (qa 16), .ref (qa 17), .ref (qa 18), .ref (qa 19), .ref (qa 20)]))] H := hP.sub [0] rfl
  have hDc := hD.sub (ws' := [(hm, .inr (4, [.int 1, .long ns.toInt64, .int ck, .long hh, .ref (qa 1), .ref (qa 2), .ref (qa 3), .ref (qa 4), .ref (qa 5), .ref (qa 6), .ref (qa 7), .ref (qa 8), .int (nI n), .ref (qa 9), .ref (qa 10), .ref (qa 11), .ref (qa 12), .ref (qa 13), .ref (qa 14), .ref (qa 15), .ref (qa 16), .ref (qa 17), .ref (qa 18), .ref (qa 19), .ref (qa 20)]))]) [0] (by decide) rfl
  refine vp_callSi (W.runV (As := []) (rest := []) ⟨hx, hb, hml, hown, hts⟩ (c_M_thrown l G ct H.size hm 1 ns.toInt64 ck hh (qa 1) (qa 2) (qa 3) (qa 4) (qa 5) (qa 6) (qa 7) (qa 8) (qa 9) (qa 10) (qa 11) (qa 12) (qa 13) (qa 14) (qa 15) (qa 16) (qa 17) (qa 18) (qa 19) (qa 20) n) (tb_V hw cy_M_thrown ww_719 ww_720 ww_721 rfl rfl ⟨Nat.le_of_ble_eq_true rfl, Nat.le_of_ble_eq_true rfl⟩) (wk_preV (ci := 4) (q0 := 0) hPc hK hDc rfl rfl) rfl rfl hl.1 rfl (lv_room (Nat.le_of_ble_eq_true rfl)) d_L_law_563 ⟨by omega, by omega⟩) (fun r1137 er1137 => ?_)
  subst er1137
  refine lv_iload hx hb d_L_law_566 (lv_at hl 1 rfl) ?_
  refine lv_icmp_eq (tgt := 573) hx hb d_L_law_568 (by decide) (fun h1138 => ?_) (fun h1138 => ?_)
  · refine lv_iload hx hb d_L_law_573 (lv_at hl 1 rfl) ?_
    refine lv_if_ne (tgt := 590) hx hb d_L_law_575 (by decide) (fun h1139 => ?_) (fun h1139 => ?_)
    · refine lv_goto (tgt := 1005) hx hb d_L_law_590 (by decide) ?_
      refine W.widen (k := cells + 1) (n := slots + 13) (by omega) (by omega) ?_
      exact kk n ck 1 hh a1 a2 a3 a4 a5 a6 a7 a8 a9 b0 b1 b2 b3 b4 b5 b6 b7 b8 b9 b10 og fo ad eu es H locs _ hnew hP hD hS (lv_sub hl [2, 3, 4, 5, 6] rfl)
    · exact absurd h1139 (by decide)
  · exact absurd h1138 (by decide)
set_option maxHeartbeats 4000000 in
set_option maxRecDepth 100000 in
theorem lq_server2 {k : Nat} (C0 : lc_C p l s m meth c b L xs G ct A) (hiv : iv + 7 ≤ L) (hcc : cells + 1 ≤ room_1.cells) (hzz : slots + 13 ≤ room_1.slots)
    (hP : va_P G classes (lw_W ct hd us op hm qo qa fu au ns n ck n ck th hh a1 a2 a3 a4 a5 a6 a7 a8 a9 b0 b1 b2 b3 b4 b5 b6 b7 b8 b9 b10 og fo ad eu es) H) (hD : va_D A (lw_W ct hd us op hm qo qa fu au ns n ck n ck th hh a1 a2 a3 a4 a5 a6 a7 a8 a9 b0 b1 b2 b3 b4 b5 b6 b7 b8 b9 b10 og fo ad eu es)) (hS : va_S A s.heap H locs) (hl : lv_has ls 8 [(4, .int (nI iv)), (3, .ref qo), (2, .ref hm), (1, .ref hd), (0, .ref b)])
    (kk : lc_K p l e s m below meth c b L xs G ct A hd us op hm qo qa fu au ns iv (cells + 1) (slots + 13) Q)
    (hv1 : xs (iv + 1) = nI k) (d_hk : k < 8) (d_hfu : fu k = some (au k)) (d_hwi : wy_in (xs (iv + 2))) (d_hn : ¬ nI n < 40) (m_hui : us_in (nI k)) (m_hwi : wy_in (xs (iv + 2))) (m_hn : nI n = 40)  (hnew : li_R fu au ns n a1 a2 a3 a4 a5 a6 a7 a8 a9 b0 b1 b2 b3 b4 b5 b6 b7 b8 b9 b10 fo ad eu es)  : W p l e room_1 s m #[Value.ref b] below meth c H locs cells slots Q (F0 m 481 ls []) := by
  obtain ⟨hx, hb, hr, hml, hown, hw, hK, hZ, hR, hN, hfl, hA, hbA, hX, hbl, hL, hlocks⟩ := C0
  have hts := hw
  have hP : va_P G classes (lw_W ct hd us op hm qo qa fu au ns n ck n ck th hh a1 a2 a3 a4 a5 a6 a7 a8 a9 b0 b1 b2 b3 b4 b5 b6 b7 b8 b9 b10 og fo ad eu es) H := hP
  have hD : va_D A (lw_W ct hd us op hm qo qa fu au ns n ck n ck th hh a1 a2 a3 a4 a5 a6 a7 a8 a9 b0 b1 b2 b3 b4 b5 b6 b7 b8 b9 b10 og fo ad eu es) := hD
  refine lv_aload_n hx hb d_L_law_481 rfl (lv_at hl 3 rfl) ?_
  refine lv_aload_n hx hb d_L_law_482 rfl (lv_at hl 4 rfl) ?_
  refine lv_iload hx hb d_L_law_483 (lv_at hl 0 rfl) ?_
  refine lv_iconst (v := 1) hx hb d_L_law_485 (by decide) ?_
  refine lv_iadd hx hb d_L_law_486 ?_
  refine sl_ld (j := iv) (d := 1) hx hb hX hbl hbA hS hL (by omega) d_L_law_487 ?_
  refine tp_i (hv1) ?_
  refine lv_aload_n hx hb d_L_law_488 rfl (lv_at hl 4 rfl) ?_
  refine lv_iload hx hb d_L_law_489 (lv_at hl 0 rfl) ?_
  refine lv_iconst (v := 2) hx hb d_L_law_491 (by decide) ?_
  refine lv_iadd hx hb d_L_law_492 ?_
  refine sl_ld (j := iv) (d := 2) hx hb hX hbl hbA hS hL (by omega) d_L_law_493 ?_
  refine lv_aload_n hx hb d_L_law_494 rfl (lv_at hl 4 rfl) ?_
  refine lv_iload hx hb d_L_law_495 (lv_at hl 0 rfl) ?_
  refine lv_iconst (v := 3) hx hb d_L_law_497 (by decide) ?_
  refine lv_iadd hx hb d_L_law_498 ?_
  refine sl_ld (j := iv) (d := 3) hx hb hX hbl hbA hS hL (by omega) d_L_law_499 ?_
  refine lv_i2l (v := (xs (iv + 3)).toInt64) hx hb d_L_law_500 rfl ?_
  refine lv_bipush (v := 32) hx hb d_L_law_501 (by decide) ?_
  refine lv_lshl (v := ((xs (iv + 3)).toInt64) <<< ((32 : Int32).toInt64 &&& 63)) hx hb d_L_law_503 rfl ?_
  refine lv_aload_n hx hb d_L_law_504 rfl (lv_at hl 4 rfl) ?_
  refine lv_iload hx hb d_L_law_505 (lv_at hl 0 rfl) ?_
  refine lv_iconst (v := 4) hx hb d_L_law_507 (by decide) ?_
  refine lv_iadd hx hb d_L_law_508 ?_
  refine sl_ld (j := iv) (d := 4) hx hb hX hbl hbA hS hL (by omega) d_L_law_509 ?_
  refine lv_i2l (v := (xs (iv + 4)).toInt64) hx hb d_L_law_510 rfl ?_
  refine lv_ldc2 (v := 4294967295) hx hb hown (hw _ ww_884) d_L_law_511 ?_
  refine lv_land hx hb d_L_law_514 ?_
  refine lv_lor hx hb d_L_law_515 ?_
  refine tp_l (rfl) ?_
  refine lv_aload_n hx hb d_L_law_516 rfl (lv_at hl 1 rfl) ?_
  have hC9 : List.map (fun i => ((lw_W ct hd us op hm qo qa fu au ns n ck n ck th hh a1 a2 a3 a4 a5 a6 a7 a8 a9 b0 b1 b2 b3 b4 b5 b6 b7 b8 b9 b10 og fo ad eu es) : va_W)[i]?) [22, 23, 21] = List.map some ([(hd, .inr (0, [.ref us, .ref op, .int (nI n), .int ck])), (us, .inl ((ct 3), 8, .inr (.inr (.inr (.inr fu))))), (qo, .inl ((ct 1), 1, .inr (.inl og)))] : va_W) := (wc_c rfl (wc_c rfl (wc_c rfl rfl)))
  have hn9 : va_nd [22, 23, 21] = true := by decide
  have hPc : va_P G classes [(hd, .inr (0, [.ref us, .ref op, .int (nI n), .int ck])), (us, .inl ((ct 3), 8, .inr (.inr (.inr (.inr fu))))), (qo, .inl ((ct 1), 1, .inr (.inl og)))] H := lp_sub hP [22, 23, 21] hC9
  have hDc := hD.sub (ws' := [(hd, .inr (0, [.ref us, .ref op, .int (nI n), .int ck])), (us, .inl ((ct 3), 8, .inr (.inr (.inr (.inr fu))))), (qo, .inl ((ct 1), 1, .inr (.inl og)))]) [22, 23, 21] hn9 hC9
  have hW9 : wk_sets ((lw_W ct hd us op hm qo qa fu au ns n ck n ck th hh a1 a2 a3 a4 a5 a6 a7 a8 a9 b0 b1 b2 b3 b4 b5 b6 b7 b8 b9 b10 og fo ad eu es) : va_W) [22, 23, 21] ([(hd, .inr (0, [.ref us, .ref op, .int (nI n), .int ck])), (us, .inl ((ct 3), 8, .inr (.inr (.inr (.inr fu))))), (qo, .inl ((ct 1), 1, .inr (.inl og)))] : va_W) = ((lw_W ct hd us op hm qo qa fu au ns n ck n ck th hh a1 a2 a3 a4 a5 a6 a7 a8 a9 b0 b1 b2 b3 b4 b5 b6 b7 b8 b9 b10 og fo ad eu es) : va_W) := (ws_k rfl (ws_k rfl (ws_k rfl rfl)))
  refine wk_i (sh_run (As := [.ref hd, .int (nI k), .int (xs (iv + 2)), .long (lj (xs (iv + 3)) (xs (iv + 4))), .ref qo]) (rest := []) (hs := [(0, 12, 15, 13), (0, 12, 19, 15)]) ⟨hx, hb, hml, hown, hts⟩ (c_L_server2 l hfl G ct H.size hd us op n ck fu (au k) k (xs (iv + 2)) (lj (xs (iv + 3)) (xs (iv + 4))) qo og d_hk d_hfu d_hwi d_hn) wk_ret ⟨hw, ww_378, ww_0, ⟨by decide, by decide⟩, np_L_server, ww_376, ww_377, rfl, rfl, Nat.le_of_ble_eq_true rfl, Nat.le_of_ble_eq_true rfl⟩ (wk_pre5 hPc hK hDc hD hS hA [22, 23, 21] hC9 hZ hR hN) rfl hl.1 rfl (lv_room (Nat.le_of_ble_eq_true rfl)) d_L_law_517 ⟨by omega, by omega⟩) hP hD hS hA [22, 23, 21] hn9 hC9 (fun _ => by simp only [List.map_cons, List.map_nil]) (fun _ H locs _ hP hD hS => ?_)
  have hP : va_P G classes (lw_W ct hd us op hm qo qa fu au ns n ck n ck th hh a1 a2 a3 a4 a5 a6 a7 a8 a9 b0 b1 b2 b3 b4 b5 b6 b7 b8 b9 b10 og fo ad eu es) H := lp_P hW9 hP
  have hD : va_D A (lw_W ct hd us op hm qo qa fu au ns n ck n ck th hh a1 a2 a3 a4 a5 a6 a7 a8 a9 b0 b1 b2 b3 b4 b5 b6 b7 b8 b9 b10 og fo ad eu es) := lp_D hW9 hD
  refine lv_istore (lv' := [(5, .int 2), (4, .int (nI iv)), (3, .ref qo), (2, .ref hm), (1, .ref hd), (0, .ref b)]) hx hb d_L_law_520 hl (Nat.le_of_ble_eq_true rfl) rfl (fun ls hl => ?_)
  refine lv_aload_n hx hb d_L_law_522 rfl (lv_at hl 3 rfl) ?_
  refine lv_aload_n hx hb d_L_law_523 rfl (lv_at hl 5 rfl) ?_
  refine lv_iload hx hb d_L_law_524 (lv_at hl 1 rfl) ?_
  refine lv_iconst (v := 1) hx hb d_L_law_526 (by decide) ?_
  refine lv_iadd hx hb d_L_law_527 ?_
  refine sl_ld (j := iv) (d := 1) hx hb hX hbl hbA hS hL (by omega) d_L_law_528 ?_
  refine tp_i (hv1) ?_
  refine lv_aload_n hx hb d_L_law_529 rfl (lv_at hl 5 rfl) ?_
  refine lv_iload hx hb d_L_law_530 (lv_at hl 1 rfl) ?_
  refine lv_iconst (v := 2) hx hb d_L_law_532 (by decide) ?_
  refine lv_iadd hx hb d_L_law_533 ?_
  refine sl_ld (j := iv) (d := 2) hx hb hX hbl hbA hS hL (by omega) d_L_law_534 ?_
  refine lv_aload_n hx hb d_L_law_535 rfl (lv_at hl 5 rfl) ?_
  refine lv_iload hx hb d_L_law_536 (lv_at hl 1 rfl) ?_
  refine lv_iconst (v := 3) hx hb d_L_law_538 (by decide) ?_
  refine lv_iadd hx hb d_L_law_539 ?_
  refine sl_ld (j := iv) (d := 3) hx hb hX hbl hbA hS hL (by omega) d_L_law_540 ?_
  refine lv_i2l (v := (xs (iv + 3)).toInt64) hx hb d_L_law_541 rfl ?_
  refine lv_bipush (v := 32) hx hb d_L_law_542 (by decide) ?_
  refine lv_lshl (v := ((xs (iv + 3)).toInt64) <<< ((32 : Int32).toInt64 &&& 63)) hx hb d_L_law_544 rfl ?_
  refine lv_aload_n hx hb d_L_law_545 rfl (lv_at hl 5 rfl) ?_
  refine lv_iload hx hb d_L_law_546 (lv_at hl 1 rfl) ?_
  refine lv_iconst (v := 4) hx hb d_L_law_548 (by decide) ?_
  refine lv_iadd hx hb d_L_law_549 ?_
  refine sl_ld (j := iv) (d := 4) hx hb hX hbl hbA hS hL (by omega) d_L_law_550 ?_
  refine lv_i2l (v := (xs (iv + 4)).toInt64) hx hb d_L_law_551 rfl ?_
  refine lv_ldc2 (v := 4294967295) hx hb hown (hw _ ww_884) d_L_law_552 ?_
  refine lv_land hx hb d_L_law_555 ?_
  refine lv_lor hx hb d_L_law_556 ?_
  refine tp_l (rfl) ?_
  have hPc : va_P G classes [(hm, .inr (4, [.int th, .long ns.toInt64, .int ck, .long hh, .ref (qa 1), .ref (qa 2), .ref (qa 3), .ref (qa 4), .ref (qa 5), .ref (qa 6), .ref (qa 7), .ref (qa 8), .int (nI n), .ref (qa 9), .ref (qa 10), .ref (qa 11), .ref (qa 12), .ref (qa 13), .ref (qa 14), .ref (qa 15), .ref (qa 16), .ref (qa 17), .ref (qa 18), .ref (qa 19), .ref (qa 20)]))] H := hP.sub [0] rfl
  have hDc := hD.sub (ws' := [(hm, .inr (4, [.int th, .long ns.toInt64, .int ck, .long hh, .ref (qa 1), .ref (qa 2), .ref (qa 3), .ref (qa 4), .ref (qa 5), .ref (qa 6), .ref (qa 7), .ref (qa 8), .int (nI n), .ref (qa 9), .ref (qa 10), .ref (qa 11), .ref (qa 12), .ref (qa 13), .ref (qa 14), .ref (qa 15), .ref (qa 16), .ref (qa 17), .ref (qa 18), .ref (qa 19), .ref (qa 20)]))]) [0] (by decide) rfl
  refine wk_i (va_runV (As := [.int (nI k), .int (xs (iv + 2)), .long (lj (xs (iv + 3)) (xs (iv + 4)))]) (rest := []) ⟨hx, hb, hml, hown, hts⟩ (c_M_server2 l G ct H.size hm th ns.toInt64 ck hh (qa 1) (qa 2) (qa 3) (qa 4) (qa 5) (qa 6) (qa 7) (qa 8) (qa 9) (qa 10) (qa 11) (qa 12) (qa 13) (qa 14) (qa 15) (qa 16) (qa 17) (qa 18) (qa 19) (qa 20) n (nI k) (xs (iv + 2)) (lj (xs (iv + 3)) (xs (iv + 4))) m_hui m_hwi m_hn) (tb_V hw cy_M_server ww_796 ww_797 ww_798 rfl rfl ⟨Nat.le_of_ble_eq_true rfl, Nat.le_of_ble_eq_true rfl⟩) (wk_preV (ci := 4) (q0 := 0) hPc hK hDc rfl rfl) rfl rfl hl.1 rfl (lv_room (Nat.le_of_ble_eq_true rfl)) d_L_law_557 ⟨by omega, by omega⟩) hP hD hS hA [0] (by decide) rfl (fun _ => by simp only [List.map_cons, List.map_nil]) (fun _ H locs ok1140 hP hD hS => ?_)
  have hP : va_P G classes (lw_W ct hd us op hm qo qa fu au ns n ck n ck 2 hh a1 a2 a3 a4 a5 a6 a7 a8 a9 b0 b1 b2 b3 b4 b5 b6 b7 b8 b9 b10 og fo ad eu es) H := hP
  have hD : va_D A (lw_W ct hd us op hm qo qa fu au ns n ck n ck 2 hh a1 a2 a3 a4 a5 a6 a7 a8 a9 b0 b1 b2 b3 b4 b5 b6 b7 b8 b9 b10 og fo ad eu es) := hD
  refine lv_istore (lv' := [(6, .int 0), (5, .int 2), (4, .int (nI iv)), (3, .ref qo), (2, .ref hm), (1, .ref hd), (0, .ref b)]) hx hb d_L_law_560 hl (Nat.le_of_ble_eq_true rfl) rfl (fun ls hl => ?_)
  refine lv_aload_n hx hb d_L_law_562 rfl (lv_at hl 4 rfl) ?_
  have hPc : va_P G classes [(hm, .inr (4, [.int 2, .long ns.toInt64, .int ck, .long hh, .ref (qa 1), .ref (qa 2), .ref (qa 3), .ref (qa 4), .ref (qa 5), .ref (qa 6), .ref (qa 7), .ref (qa 8), .int (nI n), .ref (qa 9), .ref (qa 10), .ref (qa 11), .ref (qa 12), .ref (qa 13), .ref (qa 14), .ref (qa 15), .ref (qa 16), .ref (qa 17), .ref (qa 18), .ref (qa 19), .ref (qa 20)]))] H := hP.sub [0] rfl
  have hDc := hD.sub (ws' := [(hm, .inr (4, [.int 2, .long ns.toInt64, .int ck, .long hh, .ref (qa 1), .ref (qa 2), .ref (qa 3), .ref (qa 4), .ref (qa 5), .ref (qa 6), .ref (qa 7), .ref (qa 8), .int (nI n), .ref (qa 9), .ref (qa 10), .ref (qa 11), .ref (qa 12), .ref (qa 13), .ref (qa 14), .ref (qa 15), .ref (qa 16), .ref (qa 17), .ref (qa 18), .ref (qa 19), .ref (qa 20)]))]) [0] (by decide) rfl
  refine vp_callSi (W.runV (As := []) (rest := []) ⟨hx, hb, hml, hown, hts⟩ (c_M_thrown l G ct H.size hm 2 ns.toInt64 ck hh (qa 1) (qa 2) (qa 3) (qa 4) (qa 5) (qa 6) (qa 7) (qa 8) (qa 9) (qa 10) (qa 11) (qa 12) (qa 13) (qa 14) (qa 15) (qa 16) (qa 17) (qa 18) (qa 19) (qa 20) n) (tb_V hw cy_M_thrown ww_719 ww_720 ww_721 rfl rfl ⟨Nat.le_of_ble_eq_true rfl, Nat.le_of_ble_eq_true rfl⟩) (wk_preV (ci := 4) (q0 := 0) hPc hK hDc rfl rfl) rfl rfl hl.1 rfl (lv_room (Nat.le_of_ble_eq_true rfl)) d_L_law_563 ⟨by omega, by omega⟩) (fun r1141 er1141 => ?_)
  subst er1141
  refine lv_iload hx hb d_L_law_566 (lv_at hl 1 rfl) ?_
  refine lv_icmp_eq (tgt := 573) hx hb d_L_law_568 (by decide) (fun h1142 => ?_) (fun h1142 => ?_)
  · refine lv_iload hx hb d_L_law_573 (lv_at hl 1 rfl) ?_
    refine lv_if_ne (tgt := 590) hx hb d_L_law_575 (by decide) (fun h1143 => ?_) (fun h1143 => ?_)
    · refine lv_goto (tgt := 1005) hx hb d_L_law_590 (by decide) ?_
      refine W.widen (k := cells + 1) (n := slots + 13) (by omega) (by omega) ?_
      exact kk n ck 2 hh a1 a2 a3 a4 a5 a6 a7 a8 a9 b0 b1 b2 b3 b4 b5 b6 b7 b8 b9 b10 og fo ad eu es H locs _ hnew hP hD hS (lv_sub hl [2, 3, 4, 5, 6] rfl)
    · exact absurd h1143 (by decide)
  · exact absurd h1142 (by decide)
set_option maxHeartbeats 4000000 in
set_option maxRecDepth 100000 in
theorem lq_server3 {k : Nat} {uo : Nat} {ul : Int64} {uv : Nat} (C0 : lc_C p l s m meth c b L xs G ct A) (hiv : iv + 7 ≤ L) (hcc : cells + 1 ≤ room_1.cells) (hzz : slots + 13 ≤ room_1.slots)
    (hP : va_P G classes (lw_W ct hd us op hm qo qa fu au ns n ck n ck th hh a1 a2 a3 a4 a5 a6 a7 a8 a9 b0 b1 b2 b3 b4 b5 b6 b7 b8 b9 b10 og fo ad eu es) H) (hD : va_D A (lw_W ct hd us op hm qo qa fu au ns n ck n ck th hh a1 a2 a3 a4 a5 a6 a7 a8 a9 b0 b1 b2 b3 b4 b5 b6 b7 b8 b9 b10 og fo ad eu es)) (hS : va_S A s.heap H locs) (hl : lv_has ls 8 [(4, .int (nI iv)), (3, .ref qo), (2, .ref hm), (1, .ref hd), (0, .ref b)])
    (kk : lc_K p l e s m below meth c b L xs G ct A hd us op hm qo qa fu au ns iv (cells + 1) (slots + 13) Q)
    (hv1 : xs (iv + 1) = nI k) (hk8 : k < 8) (heu : eu k = .inr (1, [.int (nI k), .int ns, .int (a1 k), .long (lN uo), .long ul, .long (lN uv), .int (a5 k), .int (a6 k), .int (a7 k), .int (a8 k)])) (d_hk : k < 8) (d_hfu : fu k = some (au k)) (d_hwi : wy_in (xs (iv + 2))) (d_hn : nI n < 40) (d_hbl : us_bl (a5 k) (a8 k) ck) (m_hk : k < 8) (m_hwi : wy_in (xs (iv + 2))) (m_hn : n < 40) (m_hbl : sm_bl (a5 k) (a8 k) ck)  (hnew : li_R fu au ns n a1 a2 a3 a4 a5 a6 a7 a8 a9 b0 b1 b2 b3 b4 b5 b6 b7 b8 b9 b10 fo ad eu es)  : W p l e room_1 s m #[Value.ref b] below meth c H locs cells slots Q (F0 m 481 ls []) := by
  obtain ⟨hx, hb, hr, hml, hown, hw, hK, hZ, hR, hN, hfl, hA, hbA, hX, hbl, hL, hlocks⟩ := C0
  have hts := hw
  have hP : va_P G classes (lw_W ct hd us op hm qo qa fu au ns n ck n ck th hh a1 a2 a3 a4 a5 a6 a7 a8 a9 b0 b1 b2 b3 b4 b5 b6 b7 b8 b9 b10 og fo ad eu es) H := hP
  have hD : va_D A (lw_W ct hd us op hm qo qa fu au ns n ck n ck th hh a1 a2 a3 a4 a5 a6 a7 a8 a9 b0 b1 b2 b3 b4 b5 b6 b7 b8 b9 b10 og fo ad eu es) := hD
  refine lv_aload_n hx hb d_L_law_481 rfl (lv_at hl 3 rfl) ?_
  refine lv_aload_n hx hb d_L_law_482 rfl (lv_at hl 4 rfl) ?_
  refine lv_iload hx hb d_L_law_483 (lv_at hl 0 rfl) ?_
  refine lv_iconst (v := 1) hx hb d_L_law_485 (by decide) ?_
  refine lv_iadd hx hb d_L_law_486 ?_
  refine sl_ld (j := iv) (d := 1) hx hb hX hbl hbA hS hL (by omega) d_L_law_487 ?_
  refine tp_i (hv1) ?_
  refine lv_aload_n hx hb d_L_law_488 rfl (lv_at hl 4 rfl) ?_
  refine lv_iload hx hb d_L_law_489 (lv_at hl 0 rfl) ?_
  refine lv_iconst (v := 2) hx hb d_L_law_491 (by decide) ?_
  refine lv_iadd hx hb d_L_law_492 ?_
  refine sl_ld (j := iv) (d := 2) hx hb hX hbl hbA hS hL (by omega) d_L_law_493 ?_
  refine lv_aload_n hx hb d_L_law_494 rfl (lv_at hl 4 rfl) ?_
  refine lv_iload hx hb d_L_law_495 (lv_at hl 0 rfl) ?_
  refine lv_iconst (v := 3) hx hb d_L_law_497 (by decide) ?_
  refine lv_iadd hx hb d_L_law_498 ?_
  refine sl_ld (j := iv) (d := 3) hx hb hX hbl hbA hS hL (by omega) d_L_law_499 ?_
  refine lv_i2l (v := (xs (iv + 3)).toInt64) hx hb d_L_law_500 rfl ?_
  refine lv_bipush (v := 32) hx hb d_L_law_501 (by decide) ?_
  refine lv_lshl (v := ((xs (iv + 3)).toInt64) <<< ((32 : Int32).toInt64 &&& 63)) hx hb d_L_law_503 rfl ?_
  refine lv_aload_n hx hb d_L_law_504 rfl (lv_at hl 4 rfl) ?_
  refine lv_iload hx hb d_L_law_505 (lv_at hl 0 rfl) ?_
  refine lv_iconst (v := 4) hx hb d_L_law_507 (by decide) ?_
  refine lv_iadd hx hb d_L_law_508 ?_
  refine sl_ld (j := iv) (d := 4) hx hb hX hbl hbA hS hL (by omega) d_L_law_509 ?_
  refine lv_i2l (v := (xs (iv + 4)).toInt64) hx hb d_L_law_510 rfl ?_
  refine lv_ldc2 (v := 4294967295) hx hb hown (hw _ ww_884) d_L_law_511 ?_
  refine lv_land hx hb d_L_law_514 ?_
  refine lv_lor hx hb d_L_law_515 ?_
  refine tp_l (rfl) ?_
  refine lv_aload_n hx hb d_L_law_516 rfl (lv_at hl 1 rfl) ?_
  have hC9 : List.map (fun i => ((lw_W ct hd us op hm qo qa fu au ns n ck n ck th hh a1 a2 a3 a4 a5 a6 a7 a8 a9 b0 b1 b2 b3 b4 b5 b6 b7 b8 b9 b10 og fo ad eu es) : va_W)[i]?) [22, 23, 25 + k, 21] = List.map some ([(hd, .inr (0, [.ref us, .ref op, .int (nI n), .int ck])), (us, .inl ((ct 3), 8, .inr (.inr (.inr (.inr fu))))), ((au k), .inr (1, [.int (nI k), .int ns, .int (a1 k), .long (lN uo), .long ul, .long (lN uv), .int (a5 k), .int (a6 k), .int (a7 k), .int (a8 k)])), (qo, .inl ((ct 1), 1, .inr (.inl og)))] : va_W) := (wc_c rfl (wc_c rfl (wc_c (lw_u rfl hk8 heu) (wc_c rfl rfl))))
  have hn9 : va_nd [22, 23, 25 + k, 21] = true := (nd_c (by simp only [List.mem_cons, List.not_mem_nil, or_false]; omega) (nd_c (by simp only [List.mem_cons, List.not_mem_nil, or_false]; omega) (nd_c (by simp only [List.mem_cons, List.not_mem_nil, or_false]; omega) (nd_c List.not_mem_nil rfl))))
  have hPc : va_P G classes [(hd, .inr (0, [.ref us, .ref op, .int (nI n), .int ck])), (us, .inl ((ct 3), 8, .inr (.inr (.inr (.inr fu))))), ((au k), .inr (1, [.int (nI k), .int ns, .int (a1 k), .long (lN uo), .long ul, .long (lN uv), .int (a5 k), .int (a6 k), .int (a7 k), .int (a8 k)])), (qo, .inl ((ct 1), 1, .inr (.inl og)))] H := lp_sub hP [22, 23, 25 + k, 21] hC9
  have hDc := hD.sub (ws' := [(hd, .inr (0, [.ref us, .ref op, .int (nI n), .int ck])), (us, .inl ((ct 3), 8, .inr (.inr (.inr (.inr fu))))), ((au k), .inr (1, [.int (nI k), .int ns, .int (a1 k), .long (lN uo), .long ul, .long (lN uv), .int (a5 k), .int (a6 k), .int (a7 k), .int (a8 k)])), (qo, .inl ((ct 1), 1, .inr (.inl og)))]) [22, 23, 25 + k, 21] hn9 hC9
  have hW9 : wk_sets ((lw_W ct hd us op hm qo qa fu au ns n ck n ck th hh a1 a2 a3 a4 a5 a6 a7 a8 a9 b0 b1 b2 b3 b4 b5 b6 b7 b8 b9 b10 og fo ad eu es) : va_W) [22, 23, 25 + k, 21] ([(hd, .inr (0, [.ref us, .ref op, .int (nI n), .int ck])), (us, .inl ((ct 3), 8, .inr (.inr (.inr (.inr fu))))), ((au k), .inr (1, [.int (nI k), .int ns, .int (a1 k), .long (lN uo), .long ul, .long (lN uv), .int (a5 k), .int (a6 k), .int (a7 k), .int (a8 k)])), (qo, .inl ((ct 1), 1, .inr (.inl og)))] : va_W) = ((lw_W ct hd us op hm qo qa fu au ns n ck n ck th hh a1 a2 a3 a4 a5 a6 a7 a8 a9 b0 b1 b2 b3 b4 b5 b6 b7 b8 b9 b10 og fo ad eu es) : va_W) := (ws_k rfl (ws_k rfl (ws_k (lw_u rfl hk8 heu) (ws_k rfl rfl))))
  refine wk_i (sh_run (As := [.ref hd, .int (nI k), .int (xs (iv + 2)), .long (lj (xs (iv + 3)) (xs (iv + 4))), .ref qo]) (rest := []) (hs := [(0, 12, 15, 13), (0, 12, 19, 15)]) ⟨hx, hb, hml, hown, hts⟩ (c_L_server3 l hfl G ct H.size hd us op n ck fu (au k) k (nI k) ns (a1 k) uo ul uv (a5 k) (a6 k) (a7 k) (a8 k) (xs (iv + 2)) (lj (xs (iv + 3)) (xs (iv + 4))) qo og d_hk d_hfu d_hwi d_hn d_hbl) wk_ret ⟨hw, ww_378, ww_0, ⟨by decide, by decide⟩, np_L_server, ww_376, ww_377, rfl, rfl, Nat.le_of_ble_eq_true rfl, Nat.le_of_ble_eq_true rfl⟩ (wk_pre5 hPc hK hDc hD hS hA [22, 23, 25 + k, 21] hC9 hZ hR hN) rfl hl.1 rfl (lv_room (Nat.le_of_ble_eq_true rfl)) d_L_law_517 ⟨by omega, by omega⟩) hP hD hS hA [22, 23, 25 + k, 21] hn9 hC9 (fun _ => by simp only [List.map_cons, List.map_nil]) (fun _ H locs _ hP hD hS => ?_)
  have hP : va_P G classes (lw_W ct hd us op hm qo qa fu au ns n ck n ck th hh a1 a2 a3 a4 a5 a6 a7 a8 a9 b0 b1 b2 b3 b4 b5 b6 b7 b8 b9 b10 og fo ad eu es) H := lp_P hW9 hP
  have hD : va_D A (lw_W ct hd us op hm qo qa fu au ns n ck n ck th hh a1 a2 a3 a4 a5 a6 a7 a8 a9 b0 b1 b2 b3 b4 b5 b6 b7 b8 b9 b10 og fo ad eu es) := lp_D hW9 hD
  refine lv_istore (lv' := [(5, .int 2), (4, .int (nI iv)), (3, .ref qo), (2, .ref hm), (1, .ref hd), (0, .ref b)]) hx hb d_L_law_520 hl (Nat.le_of_ble_eq_true rfl) rfl (fun ls hl => ?_)
  refine lv_aload_n hx hb d_L_law_522 rfl (lv_at hl 3 rfl) ?_
  refine lv_aload_n hx hb d_L_law_523 rfl (lv_at hl 5 rfl) ?_
  refine lv_iload hx hb d_L_law_524 (lv_at hl 1 rfl) ?_
  refine lv_iconst (v := 1) hx hb d_L_law_526 (by decide) ?_
  refine lv_iadd hx hb d_L_law_527 ?_
  refine sl_ld (j := iv) (d := 1) hx hb hX hbl hbA hS hL (by omega) d_L_law_528 ?_
  refine tp_i (hv1) ?_
  refine lv_aload_n hx hb d_L_law_529 rfl (lv_at hl 5 rfl) ?_
  refine lv_iload hx hb d_L_law_530 (lv_at hl 1 rfl) ?_
  refine lv_iconst (v := 2) hx hb d_L_law_532 (by decide) ?_
  refine lv_iadd hx hb d_L_law_533 ?_
  refine sl_ld (j := iv) (d := 2) hx hb hX hbl hbA hS hL (by omega) d_L_law_534 ?_
  refine lv_aload_n hx hb d_L_law_535 rfl (lv_at hl 5 rfl) ?_
  refine lv_iload hx hb d_L_law_536 (lv_at hl 1 rfl) ?_
  refine lv_iconst (v := 3) hx hb d_L_law_538 (by decide) ?_
  refine lv_iadd hx hb d_L_law_539 ?_
  refine sl_ld (j := iv) (d := 3) hx hb hX hbl hbA hS hL (by omega) d_L_law_540 ?_
  refine lv_i2l (v := (xs (iv + 3)).toInt64) hx hb d_L_law_541 rfl ?_
  refine lv_bipush (v := 32) hx hb d_L_law_542 (by decide) ?_
  refine lv_lshl (v := ((xs (iv + 3)).toInt64) <<< ((32 : Int32).toInt64 &&& 63)) hx hb d_L_law_544 rfl ?_
  refine lv_aload_n hx hb d_L_law_545 rfl (lv_at hl 5 rfl) ?_
  refine lv_iload hx hb d_L_law_546 (lv_at hl 1 rfl) ?_
  refine lv_iconst (v := 4) hx hb d_L_law_548 (by decide) ?_
  refine lv_iadd hx hb d_L_law_549 ?_
  refine sl_ld (j := iv) (d := 4) hx hb hX hbl hbA hS hL (by omega) d_L_law_550 ?_
  refine lv_i2l (v := (xs (iv + 4)).toInt64) hx hb d_L_law_551 rfl ?_
  refine lv_ldc2 (v := 4294967295) hx hb hown (hw _ ww_884) d_L_law_552 ?_
  refine lv_land hx hb d_L_law_555 ?_
  refine lv_lor hx hb d_L_law_556 ?_
  refine tp_l (rfl) ?_
  have hPc : va_P G classes [(hm, .inr (4, [.int th, .long ns.toInt64, .int ck, .long hh, .ref (qa 1), .ref (qa 2), .ref (qa 3), .ref (qa 4), .ref (qa 5), .ref (qa 6), .ref (qa 7), .ref (qa 8), .int (nI n), .ref (qa 9), .ref (qa 10), .ref (qa 11), .ref (qa 12), .ref (qa 13), .ref (qa 14), .ref (qa 15), .ref (qa 16), .ref (qa 17), .ref (qa 18), .ref (qa 19), .ref (qa 20)])), ((qa 5), .inl ((ct 0), 8, .inl a5)), ((qa 8), .inl ((ct 0), 8, .inl a8))] H := hP.sub [0, 5, 8] rfl
  have hDc := hD.sub (ws' := [(hm, .inr (4, [.int th, .long ns.toInt64, .int ck, .long hh, .ref (qa 1), .ref (qa 2), .ref (qa 3), .ref (qa 4), .ref (qa 5), .ref (qa 6), .ref (qa 7), .ref (qa 8), .int (nI n), .ref (qa 9), .ref (qa 10), .ref (qa 11), .ref (qa 12), .ref (qa 13), .ref (qa 14), .ref (qa 15), .ref (qa 16), .ref (qa 17), .ref (qa 18), .ref (qa 19), .ref (qa 20)])), ((qa 5), .inl ((ct 0), 8, .inl a5)), ((qa 8), .inl ((ct 0), 8, .inl a8))]) [0, 5, 8] (by decide) rfl
  refine wk_i (va_runV (As := [.int (nI k), .int (xs (iv + 2)), .long (lj (xs (iv + 3)) (xs (iv + 4)))]) (rest := []) ⟨hx, hb, hml, hown, hts⟩ (c_M_server3 l G ct H.size hm th ns.toInt64 ck hh (qa 1) (qa 2) (qa 3) (qa 4) (qa 5) (qa 6) (qa 7) (qa 8) (qa 9) (qa 10) (qa 11) (qa 12) (qa 13) (qa 14) (qa 15) (qa 16) (qa 17) (qa 18) (qa 19) (qa 20) n a5 a8 k (xs (iv + 2)) (lj (xs (iv + 3)) (xs (iv + 4))) m_hk m_hwi m_hn m_hbl) (tb_V hw cy_M_server ww_796 ww_797 ww_798 rfl rfl ⟨Nat.le_of_ble_eq_true rfl, Nat.le_of_ble_eq_true rfl⟩) (wk_preV (ci := 4) (q0 := 0) hPc hK hDc rfl rfl) rfl rfl hl.1 rfl (lv_room (Nat.le_of_ble_eq_true rfl)) d_L_law_557 ⟨by omega, by omega⟩) hP hD hS hA [0, 5, 8] (by decide) rfl (fun _ => by simp only [List.map_cons, List.map_nil]) (fun _ H locs ok1144 hP hD hS => ?_)
  have hP : va_P G classes (lw_W ct hd us op hm qo qa fu au ns n ck n ck 2 hh a1 a2 a3 a4 a5 a6 a7 a8 a9 b0 b1 b2 b3 b4 b5 b6 b7 b8 b9 b10 og fo ad eu es) H := hP
  have hD : va_D A (lw_W ct hd us op hm qo qa fu au ns n ck n ck 2 hh a1 a2 a3 a4 a5 a6 a7 a8 a9 b0 b1 b2 b3 b4 b5 b6 b7 b8 b9 b10 og fo ad eu es) := hD
  refine lv_istore (lv' := [(6, .int 0), (5, .int 2), (4, .int (nI iv)), (3, .ref qo), (2, .ref hm), (1, .ref hd), (0, .ref b)]) hx hb d_L_law_560 hl (Nat.le_of_ble_eq_true rfl) rfl (fun ls hl => ?_)
  refine lv_aload_n hx hb d_L_law_562 rfl (lv_at hl 4 rfl) ?_
  have hPc : va_P G classes [(hm, .inr (4, [.int 2, .long ns.toInt64, .int ck, .long hh, .ref (qa 1), .ref (qa 2), .ref (qa 3), .ref (qa 4), .ref (qa 5), .ref (qa 6), .ref (qa 7), .ref (qa 8), .int (nI n), .ref (qa 9), .ref (qa 10), .ref (qa 11), .ref (qa 12), .ref (qa 13), .ref (qa 14), .ref (qa 15), .ref (qa 16), .ref (qa 17), .ref (qa 18), .ref (qa 19), .ref (qa 20)]))] H := hP.sub [0] rfl
  have hDc := hD.sub (ws' := [(hm, .inr (4, [.int 2, .long ns.toInt64, .int ck, .long hh, .ref (qa 1), .ref (qa 2), .ref (qa 3), .ref (qa 4), .ref (qa 5), .ref (qa 6), .ref (qa 7), .ref (qa 8), .int (nI n), .ref (qa 9), .ref (qa 10), .ref (qa 11), .ref (qa 12), .ref (qa 13), .ref (qa 14), .ref (qa 15), .ref (qa 16), .ref (qa 17), .ref (qa 18), .ref (qa 19), .ref (qa 20)]))]) [0] (by decide) rfl
  refine vp_callSi (W.runV (As := []) (rest := []) ⟨hx, hb, hml, hown, hts⟩ (c_M_thrown l G ct H.size hm 2 ns.toInt64 ck hh (qa 1) (qa 2) (qa 3) (qa 4) (qa 5) (qa 6) (qa 7) (qa 8) (qa 9) (qa 10) (qa 11) (qa 12) (qa 13) (qa 14) (qa 15) (qa 16) (qa 17) (qa 18) (qa 19) (qa 20) n) (tb_V hw cy_M_thrown ww_719 ww_720 ww_721 rfl rfl ⟨Nat.le_of_ble_eq_true rfl, Nat.le_of_ble_eq_true rfl⟩) (wk_preV (ci := 4) (q0 := 0) hPc hK hDc rfl rfl) rfl rfl hl.1 rfl (lv_room (Nat.le_of_ble_eq_true rfl)) d_L_law_563 ⟨by omega, by omega⟩) (fun r1145 er1145 => ?_)
  subst er1145
  refine lv_iload hx hb d_L_law_566 (lv_at hl 1 rfl) ?_
  refine lv_icmp_eq (tgt := 573) hx hb d_L_law_568 (by decide) (fun h1146 => ?_) (fun h1146 => ?_)
  · refine lv_iload hx hb d_L_law_573 (lv_at hl 1 rfl) ?_
    refine lv_if_ne (tgt := 590) hx hb d_L_law_575 (by decide) (fun h1147 => ?_) (fun h1147 => ?_)
    · refine lv_goto (tgt := 1005) hx hb d_L_law_590 (by decide) ?_
      refine W.widen (k := cells + 1) (n := slots + 13) (by omega) (by omega) ?_
      exact kk n ck 2 hh a1 a2 a3 a4 a5 a6 a7 a8 a9 b0 b1 b2 b3 b4 b5 b6 b7 b8 b9 b10 og fo ad eu es H locs _ hnew hP hD hS (lv_sub hl [2, 3, 4, 5, 6] rfl)
    · exact absurd h1147 (by decide)
  · exact absurd h1146 (by decide)
end LQ
