theorem ww_415 : (Jvm.Cond.methodLink "PakeDeskLaw" (84 : Nat) ({ cls := "PakeDeskLaw", name := "receive", desc := "(LPakeDesk;IJ[J)I" } : Jvm.MethodName)) ∈ gt_tbl := gt_m (List.mem_append_right _ (List.mem_append_right _ (List.mem_append_left _ (List.mem_of_getElem? (i := 175) (by decide +kernel))))) (by decide)
theorem ww_416 : (Jvm.Cond.static ({ cls := "PakeDeskLaw", name := "receive", desc := "(LPakeDesk;IJ[J)I" } : Jvm.MethodName)) ∈ gt_tbl := gt_m (List.mem_append_right _ (List.mem_append_right _ (List.mem_append_left _ (List.mem_of_getElem? (i := 176) (by decide +kernel))))) (by decide)
theorem ww_417 : (Jvm.Cond.codeWith ({ cls := "PakeDeskLaw", name := "receive", desc := "(LPakeDesk;IJ[J)I" } : Jvm.MethodName) method_5_code (6 : Nat) (Option.some Jvm.ClassFile.FieldType.int) [((0 : Nat), (11 : Nat), (14 : Nat), (25 : Nat)), ((0 : Nat), (11 : Nat), (18 : Nat), (15 : Nat)), ((0 : Nat), (11 : Nat), (22 : Nat), (13 : Nat)), ((0 : Nat), (11 : Nat), (26 : Nat), (27 : Nat))]) ∈ gt_tbl := gt_m (List.mem_append_right _ (List.mem_append_right _ (List.mem_append_left _ (List.mem_of_getElem? (i := 177) (by decide +kernel))))) (by decide)
theorem ww_804 : (Jvm.Cond.methodLink "PakeDeskLaw" (87 : Nat) ({ cls := "PakeDeskModel", name := "receive", desc := "(IJ)I" } : Jvm.MethodName)) ∈ gt_tbl := gt_m (List.mem_append_right _ (List.mem_append_right _ (List.mem_append_right _ (List.mem_append_right _ (List.mem_of_getElem? (i := 84) (by decide +kernel)))))) (by decide)
theorem ww_805 : (Jvm.Cond.instanceMethod ({ cls := "PakeDeskModel", name := "receive", desc := "(IJ)I" } : Jvm.MethodName)) ∈ gt_tbl := gt_m (List.mem_append_right _ (List.mem_append_right _ (List.mem_append_right _ (List.mem_append_right _ (List.mem_of_getElem? (i := 85) (by decide +kernel)))))) (by decide)
theorem ww_806 : (Jvm.Cond.selects "PakeDeskModel" ({ cls := "PakeDeskModel", name := "receive", desc := "(IJ)I" } : Jvm.MethodName) ({ cls := "PakeDeskModel", name := "receive", desc := "(IJ)I" } : Jvm.MethodName)) ∈ gt_tbl := gt_m (List.mem_append_right _ (List.mem_append_right _ (List.mem_append_right _ (List.mem_append_right _ (List.mem_of_getElem? (i := 86) (by decide +kernel)))))) (by decide)
theorem ww_807 : (Jvm.Cond.code ({ cls := "PakeDeskModel", name := "receive", desc := "(IJ)I" } : Jvm.MethodName) prog_9_method_32_code (4 : Nat) (Option.some Jvm.ClassFile.FieldType.int)) ∈ gt_tbl := gt_m (List.mem_append_right _ (List.mem_append_right _ (List.mem_append_right _ (List.mem_append_right _ (List.mem_of_getElem? (i := 87) (by decide +kernel)))))) (by decide)
theorem cy_M_receive : tb_C my_M_receive mb_M_receive 4 (some .int) 2 := ⟨ww_807, ww_3, by decide, by decide, by decide +kernel⟩
section LQ
variable {p : Program} {l : Launch} {e : Env} {s : State} {m : MethodId} {below : List Frame} {meth : Method} {c : Code} {b : Nat} {L : Nat} {xs : Nat → Int32} {G : va_G} {ct : Nat → ClassId} {A : Nat → Prop} {hd : Nat} {us : Nat} {op : Nat} {hm : Nat} {qo : Nat} {qa : Nat → Nat} {fu : Nat → Option Nat} {au : Nat → Nat} {ns : Int32} {iv cells slots : Nat} {Q : State → Prop} {H : Heap} {locs : List Loc} {ls : Array Slot} {n : Nat} {ck : Int32} {th : Int32} {hh : Int64} {a1 : Nat → Int32} {a2 : Nat → Int64} {a3 : Nat → Int64} {a4 : Nat → Int64} {a5 : Nat → Int32} {a6 : Nat → Int32} {a7 : Nat → Int32} {a8 : Nat → Int32} {a9 : Nat → Int32} {b0 : Nat → Int32} {b1 : Nat → Int32} {b2 : Nat → Int32} {b3 : Nat → Int32} {b4 : Nat → Int64} {b5 : Nat → Int64} {b6 : Nat → Int64} {b7 : Nat → Int64} {b8 : Nat → Int64} {b9 : Nat → Int64} {b10 : Nat → Int64} {og : Nat → Int64} {fo : Nat → Option Nat} {ad : Nat → Nat} {eu : Nat → va_E} {es : Nat → va_E}
set_option maxHeartbeats 4000000 in
set_option maxRecDepth 100000 in
theorem lq_receiveFC_MWC {k : Nat} {u : Nat} {sec : Nat} {x : Nat} {y : Nat} {rc : Nat} {c1 : Int64} {c2 : Int64} {uo : Nat} {ul : Int64} {uv : Nat} {f : Nat} (C0 : lc_C p l s m meth c b L xs G ct A) (hiv : iv + 7 ≤ L) (hcc : cells + 1 ≤ room_1.cells) (hzz : slots + 13 ≤ room_1.slots)
    (hP : va_P G classes (lw_W ct hd us op hm qo qa fu au ns n ck n ck th hh a1 a2 a3 a4 a5 a6 a7 a8 a9 b0 b1 b2 b3 b4 b5 b6 b7 b8 b9 b10 og fo ad eu es) H) (hD : va_D A (lw_W ct hd us op hm qo qa fu au ns n ck n ck th hh a1 a2 a3 a4 a5 a6 a7 a8 a9 b0 b1 b2 b3 b4 b5 b6 b7 b8 b9 b10 og fo ad eu es)) (hS : va_S A s.heap H locs) (hl : lv_has ls 8 [(4, .int (nI iv)), (3, .ref qo), (2, .ref hm), (1, .ref hd), (0, .ref b)])
    (kk : lc_K p l e s m below meth c b L xs G ct A hd us op hm qo qa fu au ns iv (cells + 1) (slots + 13) Q)
    (hv1 : xs (iv + 1) = nI k) (hv2 : lj (xs (iv + 2)) (xs (iv + 3)) = lN f) (hkn : k < n) (hes : es k = .inr (2, [.ref (au u), .int (b0 k), .long (lN sec), .int (b3 k), .int (b2 k), .long (lN x), .long (lN y), .long (b9 k), .long c1, .long c2, .long (b10 k), .long (b5 k), .long (lN rc)])) (hu8 : u < 8) (heu : eu u = .inr (1, [.int (nI u), .int ns, .int (a1 u), .long (lN uo), .long ul, .long (lN uv), .int (a5 u), .int (a6 u), .int (a7 u), .int (a8 u)])) (d_hn : n ≤ 40) (d_hkn : k < n) (d_hfo : fo k = some (ad k)) (d_hst : se_at (b2 k) (b3 k) ck = 0) (d_hs1 : sec < pq_Q) (d_hr0 : 1 ≤ rc) (d_hr1 : rc < pq_Q) (d_hn1 : f < pq_P) (d_hrt : rt_c (b0 k) rc (lN f)) (m_hn : n ≤ 40) (m_hkn : k < n) (m_hst : sm_at (b2 k) (b3 k) ck = 0) (m_hsv : a9 k = 0) (m_hrc : b6 k = lN rc) (m_hse : b4 k = lN sec) (m_hs1 : sec < pq_Q) (m_hu : b1 k = nI u) (m_hx1 : b7 k = lN x) (m_hf1 : f < pq_P) (m_hr0 : 1 ≤ rc) (m_hr1 : rc < pq_Q) (m_hw0 : b0 k = 0) (m_hrt : rt_c (b0 k) rc (lN f))  (hnew : li_R fu au ns n a1 a2 a3 a4 a5 a6 a7 a8 a9 b0 b1 (upd b2 k 1) b3 b4 b5 b6 b7 (vp_updL b8 k (lN f)) (vp_updL b9 k (ky_w (nI u) x f (pw_m (cl_um rc f) sec) rc)) (vp_updL b10 k (cf_c (ky_w (nI u) x f (pw_m (cl_um rc f) sec) rc) x f)) fo ad eu (va_up es k (.inr (2, [.ref (au u), .int (b0 k), .long (lN sec), .int (b3 k), .int 1, .long (lN x), .long (lN f), .long (cl_ky ns (nI u) (b0 k) sec x f rc (b5 k) (a1 u) ul), .long (cf_c (cl_ky ns (nI u) (b0 k) sec x f rc (b5 k) (a1 u) ul) x f), .long (cf_s (cl_ky ns (nI u) (b0 k) sec x f rc (b5 k) (a1 u) ul) (cf_c (cl_ky ns (nI u) (b0 k) sec x f rc (b5 k) (a1 u) ul) x f)), .long (cf_c (cl_ky ns (nI u) (b0 k) sec x f rc (b5 k) (a1 u) ul) x f), .long (b5 k), .long (lN rc)]))))  : W p l e room_1 s m #[Value.ref b] below meth c H locs cells slots Q (F0 m 593 ls []) := by
  obtain ⟨hx, hb, hr, hml, hown, hw, hK, hZ, hR, hN, hfl, hA, hbA, hX, hbl, hL, hlocks⟩ := C0
  have hts := hw
  have hP : va_P G classes (lw_W ct hd us op hm qo qa fu au ns n ck n ck th hh a1 a2 a3 a4 a5 a6 a7 a8 a9 b0 b1 b2 b3 b4 b5 b6 b7 b8 b9 b10 og fo ad eu es) H := hP
  have hD : va_D A (lw_W ct hd us op hm qo qa fu au ns n ck n ck th hh a1 a2 a3 a4 a5 a6 a7 a8 a9 b0 b1 b2 b3 b4 b5 b6 b7 b8 b9 b10 og fo ad eu es) := hD
  refine lv_aload_n hx hb d_L_law_593 rfl (lv_at hl 3 rfl) ?_
  refine lv_aload_n hx hb d_L_law_594 rfl (lv_at hl 4 rfl) ?_
  refine lv_iload hx hb d_L_law_595 (lv_at hl 0 rfl) ?_
  refine lv_iconst (v := 1) hx hb d_L_law_597 (by decide) ?_
  refine lv_iadd hx hb d_L_law_598 ?_
  refine sl_ld (j := iv) (d := 1) hx hb hX hbl hbA hS hL (by omega) d_L_law_599 ?_
  refine tp_i (hv1) ?_
  refine lv_aload_n hx hb d_L_law_600 rfl (lv_at hl 4 rfl) ?_
  refine lv_iload hx hb d_L_law_601 (lv_at hl 0 rfl) ?_
  refine lv_iconst (v := 2) hx hb d_L_law_603 (by decide) ?_
  refine lv_iadd hx hb d_L_law_604 ?_
  refine sl_ld (j := iv) (d := 2) hx hb hX hbl hbA hS hL (by omega) d_L_law_605 ?_
  refine lv_i2l (v := (xs (iv + 2)).toInt64) hx hb d_L_law_606 rfl ?_
  refine lv_bipush (v := 32) hx hb d_L_law_607 (by decide) ?_
  refine lv_lshl (v := ((xs (iv + 2)).toInt64) <<< ((32 : Int32).toInt64 &&& 63)) hx hb d_L_law_609 rfl ?_
  refine lv_aload_n hx hb d_L_law_610 rfl (lv_at hl 4 rfl) ?_
  refine lv_iload hx hb d_L_law_611 (lv_at hl 0 rfl) ?_
  refine lv_iconst (v := 3) hx hb d_L_law_613 (by decide) ?_
  refine lv_iadd hx hb d_L_law_614 ?_
  refine sl_ld (j := iv) (d := 3) hx hb hX hbl hbA hS hL (by omega) d_L_law_615 ?_
  refine lv_i2l (v := (xs (iv + 3)).toInt64) hx hb d_L_law_616 rfl ?_
  refine lv_ldc2 (v := 4294967295) hx hb hown (hw _ ww_884) d_L_law_617 ?_
  refine lv_land hx hb d_L_law_620 ?_
  refine lv_lor hx hb d_L_law_621 ?_
  refine tp_l (rfl) ?_
  refine tp_l (hv2) ?_
  refine lv_aload_n hx hb d_L_law_622 rfl (lv_at hl 1 rfl) ?_
  have hC9 : List.map (fun i => ((lw_W ct hd us op hm qo qa fu au ns n ck n ck th hh a1 a2 a3 a4 a5 a6 a7 a8 a9 b0 b1 b2 b3 b4 b5 b6 b7 b8 b9 b10 og fo ad eu es) : va_W)[i]?) [22, 24, 25 + (8 + k), 25 + u, 21] = List.map some ([(hd, .inr (0, [.ref us, .ref op, .int (nI n), .int ck])), (op, .inl ((ct 4), 40, .inr (.inr (.inr (.inr fo))))), ((ad k), .inr (2, [.ref (au u), .int (b0 k), .long (lN sec), .int (b3 k), .int (b2 k), .long (lN x), .long (lN y), .long (b9 k), .long c1, .long c2, .long (b10 k), .long (b5 k), .long (lN rc)])), ((au u), .inr (1, [.int (nI u), .int ns, .int (a1 u), .long (lN uo), .long ul, .long (lN uv), .int (a5 u), .int (a6 u), .int (a7 u), .int (a8 u)])), (qo, .inl ((ct 1), 1, .inr (.inl og)))] : va_W) := (wc_c rfl (wc_c rfl (wc_c (lw_s rfl hkn hes) (wc_c (lw_u rfl hu8 heu) (wc_c rfl rfl)))))
  have hn9 : va_nd [22, 24, 25 + (8 + k), 25 + u, 21] = true := (nd_c (by simp only [List.mem_cons, List.not_mem_nil, or_false]; omega) (nd_c (by simp only [List.mem_cons, List.not_mem_nil, or_false]; omega) (nd_c (by simp only [List.mem_cons, List.not_mem_nil, or_false]; omega) (nd_c (by simp only [List.mem_cons, List.not_mem_nil, or_false]; omega) (nd_c List.not_mem_nil rfl)))))
  have hPc : va_P G classes [(hd, .inr (0, [.ref us, .ref op, .int (nI n), .int ck])), (op, .inl ((ct 4), 40, .inr (.inr (.inr (.inr fo))))), ((ad k), .inr (2, [.ref (au u), .int (b0 k), .long (lN sec), .int (b3 k), .int (b2 k), .long (lN x), .long (lN y), .long (b9 k), .long c1, .long c2, .long (b10 k), .long (b5 k), .long (lN rc)])), ((au u), .inr (1, [.int (nI u), .int ns, .int (a1 u), .long (lN uo), .long ul, .long (lN uv), .int (a5 u), .int (a6 u), .int (a7 u), .int (a8 u)])), (qo, .inl ((ct 1), 1, .inr (.inl og)))] H := lp_sub hP [22, 24, 25 + (8 + k), 25 + u, 21] hC9
  have hDc := hD.sub (ws' := [(hd, .inr (0, [.ref us, .ref op, .int (nI n), .int ck])), (op, .inl ((ct 4), 40, .inr (.inr (.inr (.inr fo))))), ((ad k), .inr (2, [.ref (au u), .int (b0 k), .long (lN sec), .int (b3 k), .int (b2 k), .long (lN x), .long (lN y), .long (b9 k), .long c1, .long c2, .long (b10 k), .long (b5 k), .long (lN rc)])), ((au u), .inr (1, [.int (nI u), .int ns, .int (a1 u), .long (lN uo), .long ul, .long (lN uv), .int (a5 u), .int (a6 u), .int (a7 u), .int (a8 u)])), (qo, .inl ((ct 1), 1, .inr (.inl og)))]) [22, 24, 25 + (8 + k), 25 + u, 21] hn9 hC9
  have hW9 : wk_sets ((lw_W ct hd us op hm qo qa fu au ns n ck n ck th hh a1 a2 a3 a4 a5 a6 a7 a8 a9 b0 b1 b2 b3 b4 b5 b6 b7 b8 b9 b10 og fo ad eu es) : va_W) [22, 24, 25 + (8 + k), 25 + u, 21] ([(hd, .inr (0, [.ref us, .ref op, .int (nI n), .int ck])), (op, .inl ((ct 4), 40, .inr (.inr (.inr (.inr fo))))), ((ad k), .inr (2, [.ref (au u), .int (b0 k), .long (lN sec), .int (b3 k), .int 1, .long (lN x), .long (lN f), .long (cl_ky ns (nI u) (b0 k) sec x f rc (b5 k) (a1 u) ul), .long (cf_c (cl_ky ns (nI u) (b0 k) sec x f rc (b5 k) (a1 u) ul) x f), .long (cf_s (cl_ky ns (nI u) (b0 k) sec x f rc (b5 k) (a1 u) ul) (cf_c (cl_ky ns (nI u) (b0 k) sec x f rc (b5 k) (a1 u) ul) x f)), .long (cf_c (cl_ky ns (nI u) (b0 k) sec x f rc (b5 k) (a1 u) ul) x f), .long (b5 k), .long (lN rc)])), ((au u), .inr (1, [.int (nI u), .int ns, .int (a1 u), .long (lN uo), .long ul, .long (lN uv), .int (a5 u), .int (a6 u), .int (a7 u), .int (a8 u)])), (qo, .inl ((ct 1), 1, .inr (.inl (vp_updL og 0 ((1 : Int32).toInt64)))))] : va_W) = ((lw_W ct hd us op hm qo qa fu au ns n ck n ck th hh a1 a2 a3 a4 a5 a6 a7 a8 a9 b0 b1 b2 b3 b4 b5 b6 b7 b8 b9 b10 (vp_updL og 0 ((1 : Int32).toInt64)) fo ad eu (va_up es k (.inr (2, [.ref (au u), .int (b0 k), .long (lN sec), .int (b3 k), .int 1, .long (lN x), .long (lN f), .long (cl_ky ns (nI u) (b0 k) sec x f rc (b5 k) (a1 u) ul), .long (cf_c (cl_ky ns (nI u) (b0 k) sec x f rc (b5 k) (a1 u) ul) x f), .long (cf_s (cl_ky ns (nI u) (b0 k) sec x f rc (b5 k) (a1 u) ul) (cf_c (cl_ky ns (nI u) (b0 k) sec x f rc (b5 k) (a1 u) ul) x f)), .long (cf_c (cl_ky ns (nI u) (b0 k) sec x f rc (b5 k) (a1 u) ul) x f), .long (b5 k), .long (lN rc)])))) : va_W) := (ws_k rfl (ws_k rfl (ws_c (lw_ss rfl) (ws_k (lw_u rfl hu8 heu) (ws_c (ws' := ([(hm, .inr (4, [.int th, .long ns.toInt64, .int ck, .long hh, .ref (qa 1), .ref (qa 2), .ref (qa 3), .ref (qa 4), .ref (qa 5), .ref (qa 6), .ref (qa 7), .ref (qa 8), .int (nI n), .ref (qa 9), .ref (qa 10), .ref (qa 11), .ref (qa 12), .ref (qa 13), .ref (qa 14), .ref (qa 15), .ref (qa 16), .ref (qa 17), .ref (qa 18), .ref (qa 19), .ref (qa 20)])), ((qa 1), .inl ((ct 0), 8, .inl a1)), ((qa 2), .inl ((ct 1), 8, .inr (.inl a2))), ((qa 3), .inl ((ct 1), 8, .inr (.inl a3))), ((qa 4), .inl ((ct 1), 8, .inr (.inl a4))), ((qa 5), .inl ((ct 0), 8, .inl a5)), ((qa 6), .inl ((ct 0), 8, .inl a6)), ((qa 7), .inl ((ct 0), 8, .inl a7)), ((qa 8), .inl ((ct 0), 8, .inl a8)), ((qa 9), .inl ((ct 2), 40, .inl a9)), ((qa 10), .inl ((ct 0), 40, .inl b0)), ((qa 11), .inl ((ct 0), 40, .inl b1)), ((qa 12), .inl ((ct 0), 40, .inl b2)), ((qa 13), .inl ((ct 0), 40, .inl b3)), ((qa 14), .inl ((ct 1), 40, .inr (.inl b4))), ((qa 15), .inl ((ct 1), 40, .inr (.inl b5))), ((qa 16), .inl ((ct 1), 40, .inr (.inl b6))), ((qa 17), .inl ((ct 1), 40, .inr (.inl b7))), ((qa 18), .inl ((ct 1), 40, .inr (.inl b8))), ((qa 19), .inl ((ct 1), 40, .inr (.inl b9))), ((qa 20), .inl ((ct 1), 40, .inr (.inl b10))), (qo, .inl ((ct 1), 1, .inr (.inl (vp_updL og 0 ((1 : Int32).toInt64))))), (hd, .inr (0, [.ref us, .ref op, .int (nI n), .int ck])), (us, .inl ((ct 3), 8, .inr (.inr (.inr (.inr fu))))), (op, .inl ((ct 4), 40, .inr (.inr (.inr (.inr fo)))))] ++ (ix_w 8 au eu ++ ix_w n ad (va_up es k (.inr (2, [.ref (au u), .int (b0 k), .long (lN sec), .int (b3 k), .int 1, .long (lN x), .long (lN f), .long (cl_ky ns (nI u) (b0 k) sec x f rc (b5 k) (a1 u) ul), .long (cf_c (cl_ky ns (nI u) (b0 k) sec x f rc (b5 k) (a1 u) ul) x f), .long (cf_s (cl_ky ns (nI u) (b0 k) sec x f rc (b5 k) (a1 u) ul) (cf_c (cl_ky ns (nI u) (b0 k) sec x f rc (b5 k) (a1 u) ul) x f)), .long (cf_c (cl_ky ns (nI u) (b0 k) sec x f rc (b5 k) (a1 u) ul) x f), .long (b5 k), .long (lN rc)])))))) rfl rfl)))))
  refine wk_i (sh_run (As := [.ref hd, .int (nI k), .long (lN f), .ref qo]) (rest := []) (hs := [(0, 11, 14, 25), (0, 11, 18, 15), (0, 11, 22, 13), (0, 11, 26, 27)]) ⟨hx, hb, hml, hown, hts⟩ (c_L_receiveFC l G ct H.size hd us op n ck fo k (ad k) (au u) (b0 k) sec (b3 k) (b2 k) x y (b9 k) c1 c2 (b10 k) (b5 k) rc (nI u) ns (a1 u) uo ul uv (a5 u) (a6 u) (a7 u) (a8 u) f qo og d_hn d_hkn d_hfo d_hst d_hs1 d_hr0 d_hr1 d_hn1 d_hrt) wk_ret ⟨hw, ww_417, ww_0, ⟨by decide, by decide⟩, np_L_receive, ww_415, ww_416, rfl, rfl, Nat.le_of_ble_eq_true rfl, Nat.le_of_ble_eq_true rfl⟩ (wk_pre hPc hK hDc) rfl hl.1 rfl (lv_room (Nat.le_of_ble_eq_true rfl)) d_L_law_623 ⟨by omega, by omega⟩) hP hD hS hA [22, 24, 25 + (8 + k), 25 + u, 21] hn9 hC9 (fun _ => by simp only [List.map_cons, List.map_nil]) (fun _ H locs _ hP hD hS => ?_)
  have hP : va_P G classes (lw_W ct hd us op hm qo qa fu au ns n ck n ck th hh a1 a2 a3 a4 a5 a6 a7 a8 a9 b0 b1 b2 b3 b4 b5 b6 b7 b8 b9 b10 (vp_updL og 0 ((1 : Int32).toInt64)) fo ad eu (va_up es k (.inr (2, [.ref (au u), .int (b0 k), .long (lN sec), .int (b3 k), .int 1, .long (lN x), .long (lN f), .long (cl_ky ns (nI u) (b0 k) sec x f rc (b5 k) (a1 u) ul), .long (cf_c (cl_ky ns (nI u) (b0 k) sec x f rc (b5 k) (a1 u) ul) x f), .long (cf_s (cl_ky ns (nI u) (b0 k) sec x f rc (b5 k) (a1 u) ul) (cf_c (cl_ky ns (nI u) (b0 k) sec x f rc (b5 k) (a1 u) ul) x f)), .long (cf_c (cl_ky ns (nI u) (b0 k) sec x f rc (b5 k) (a1 u) ul) x f), .long (b5 k), .long (lN rc)])))) H := lp_P hW9 hP
  have hD : va_D A (lw_W ct hd us op hm qo qa fu au ns n ck n ck th hh a1 a2 a3 a4 a5 a6 a7 a8 a9 b0 b1 b2 b3 b4 b5 b6 b7 b8 b9 b10 (vp_updL og 0 ((1 : Int32).toInt64)) fo ad eu (va_up es k (.inr (2, [.ref (au u), .int (b0 k), .long (lN sec), .int (b3 k), .int 1, .long (lN x), .long (lN f), .long (cl_ky ns (nI u) (b0 k) sec x f rc (b5 k) (a1 u) ul), .long (cf_c (cl_ky ns (nI u) (b0 k) sec x f rc (b5 k) (a1 u) ul) x f), .long (cf_s (cl_ky ns (nI u) (b0 k) sec x f rc (b5 k) (a1 u) ul) (cf_c (cl_ky ns (nI u) (b0 k) sec x f rc (b5 k) (a1 u) ul) x f)), .long (cf_c (cl_ky ns (nI u) (b0 k) sec x f rc (b5 k) (a1 u) ul) x f), .long (b5 k), .long (lN rc)])))) := lp_D hW9 hD
  refine lv_istore (lv' := [(5, .int 0), (4, .int (nI iv)), (3, .ref qo), (2, .ref hm), (1, .ref hd), (0, .ref b)]) hx hb d_L_law_626 hl (Nat.le_of_ble_eq_true rfl) rfl (fun ls hl => ?_)
  refine lv_aload_n hx hb d_L_law_628 rfl (lv_at hl 3 rfl) ?_
  refine lv_aload_n hx hb d_L_law_629 rfl (lv_at hl 5 rfl) ?_
  refine lv_iload hx hb d_L_law_630 (lv_at hl 1 rfl) ?_
  refine lv_iconst (v := 1) hx hb d_L_law_632 (by decide) ?_
  refine lv_iadd hx hb d_L_law_633 ?_
  refine sl_ld (j := iv) (d := 1) hx hb hX hbl hbA hS hL (by omega) d_L_law_634 ?_
  refine tp_i (hv1) ?_
  refine lv_aload_n hx hb d_L_law_635 rfl (lv_at hl 5 rfl) ?_
  refine lv_iload hx hb d_L_law_636 (lv_at hl 1 rfl) ?_
  refine lv_iconst (v := 2) hx hb d_L_law_638 (by decide) ?_
  refine lv_iadd hx hb d_L_law_639 ?_
  refine sl_ld (j := iv) (d := 2) hx hb hX hbl hbA hS hL (by omega) d_L_law_640 ?_
  refine lv_i2l (v := (xs (iv + 2)).toInt64) hx hb d_L_law_641 rfl ?_
  refine lv_bipush (v := 32) hx hb d_L_law_642 (by decide) ?_
  refine lv_lshl (v := ((xs (iv + 2)).toInt64) <<< ((32 : Int32).toInt64 &&& 63)) hx hb d_L_law_644 rfl ?_
  refine lv_aload_n hx hb d_L_law_645 rfl (lv_at hl 5 rfl) ?_
  refine lv_iload hx hb d_L_law_646 (lv_at hl 1 rfl) ?_
  refine lv_iconst (v := 3) hx hb d_L_law_648 (by decide) ?_
  refine lv_iadd hx hb d_L_law_649 ?_
  refine sl_ld (j := iv) (d := 3) hx hb hX hbl hbA hS hL (by omega) d_L_law_650 ?_
  refine lv_i2l (v := (xs (iv + 3)).toInt64) hx hb d_L_law_651 rfl ?_
  refine lv_ldc2 (v := 4294967295) hx hb hown (hw _ ww_884) d_L_law_652 ?_
  refine lv_land hx hb d_L_law_655 ?_
  refine lv_lor hx hb d_L_law_656 ?_
  refine tp_l (rfl) ?_
  refine tp_l (hv2) ?_
  have hPc : va_P G classes [(hm, .inr (4, [.int th, .long ns.toInt64, .int ck, .long hh, .ref (qa 1), .ref (qa 2), .ref (qa 3), .ref (qa 4), .ref (qa 5), .ref (qa 6), .ref (qa 7), .ref (qa 8), .int (nI n), .ref (qa 9), .ref (qa 10), .ref (qa 11), .ref (qa 12), .ref (qa 13), .ref (qa 14), .ref (qa 15), .ref (qa 16), .ref (qa 17), .ref (qa 18), .ref (qa 19), .ref (qa 20)])), ((qa 1), .inl ((ct 0), 8, .inl a1)), ((qa 3), .inl ((ct 1), 8, .inr (.inl a3))), ((qa 9), .inl ((ct 2), 40, .inl a9)), ((qa 10), .inl ((ct 0), 40, .inl b0)), ((qa 11), .inl ((ct 0), 40, .inl b1)), ((qa 12), .inl ((ct 0), 40, .inl b2)), ((qa 13), .inl ((ct 0), 40, .inl b3)), ((qa 14), .inl ((ct 1), 40, .inr (.inl b4))), ((qa 15), .inl ((ct 1), 40, .inr (.inl b5))), ((qa 16), .inl ((ct 1), 40, .inr (.inl b6))), ((qa 17), .inl ((ct 1), 40, .inr (.inl b7))), ((qa 18), .inl ((ct 1), 40, .inr (.inl b8))), ((qa 19), .inl ((ct 1), 40, .inr (.inl b9))), ((qa 20), .inl ((ct 1), 40, .inr (.inl b10)))] H := hP.sub [0, 1, 3, 9, 10, 11, 12, 13, 14, 15, 16, 17, 18, 19, 20] rfl
  have hDc := hD.sub (ws' := [(hm, .inr (4, [.int th, .long ns.toInt64, .int ck, .long hh, .ref (qa 1), .ref (qa 2), .ref (qa 3), .ref (qa 4), .ref (qa 5), .ref (qa 6), .ref (qa 7), .ref (qa 8), .int (nI n), .ref (qa 9), .ref (qa 10), .ref (qa 11), .ref (qa 12), .ref (qa 13), .ref (qa 14), .ref (qa 15), .ref (qa 16), .ref (qa 17), .ref (qa 18), .ref (qa 19), .ref (qa 20)])), ((qa 1), .inl ((ct 0), 8, .inl a1)), ((qa 3), .inl ((ct 1), 8, .inr (.inl a3))), ((qa 9), .inl ((ct 2), 40, .inl a9)), ((qa 10), .inl ((ct 0), 40, .inl b0)), ((qa 11), .inl ((ct 0), 40, .inl b1)), ((qa 12), .inl ((ct 0), 40, .inl b2)), ((qa 13), .inl ((ct 0), 40, .inl b3)), ((qa 14), .inl ((ct 1), 40, .inr (.inl b4))), ((qa 15), .inl ((ct 1), 40, .inr (.inl b5))), ((qa 16), .inl ((ct 1), 40, .inr (.inl b6))), ((qa 17), .inl ((ct 1), 40, .inr (.inl b7))), ((qa 18), .inl ((ct 1), 40, .inr (.inl b8))), ((qa 19), .inl ((ct 1), 40, .inr (.inl b9))), ((qa 20), .inl ((ct 1), 40, .inr (.inl b10)))]) [0, 1, 3, 9, 10, 11, 12, 13, 14, 15, 16, 17, 18, 19, 20] (by decide) rfl
  refine wk_i (va_runV (As := [.int (nI k), .long (lN f)]) (rest := []) ⟨hx, hb, hml, hown, hts⟩ (c_M_receive_MWC l G ct H.size hm th ns.toInt64 ck hh (qa 1) (qa 2) (qa 3) (qa 4) (qa 5) (qa 6) (qa 7) (qa 8) (qa 9) (qa 10) (qa 11) (qa 12) (qa 13) (qa 14) (qa 15) (qa 16) (qa 17) (qa 18) (qa 19) (qa 20) n a1 a3 a9 b0 b1 b2 b3 b4 b5 b6 b7 b8 b9 b10 k rc u sec x f m_hn m_hkn m_hst m_hsv m_hrc m_hse m_hs1 m_hu m_hx1 m_hf1 m_hr0 m_hr1 m_hw0 m_hrt) (tb_V hw cy_M_receive ww_804 ww_805 ww_806 rfl rfl ⟨Nat.le_of_ble_eq_true rfl, Nat.le_of_ble_eq_true rfl⟩) (wk_preV (ci := 4) (q0 := 0) hPc hK hDc rfl rfl) rfl rfl hl.1 rfl (lv_room (Nat.le_of_ble_eq_true rfl)) d_L_law_657 ⟨by omega, by omega⟩) hP hD hS hA [0, 1, 3, 9, 10, 11, 12, 13, 14, 15, 16, 17, 18, 19, 20] (by decide) rfl (fun _ => by simp only [List.map_cons, List.map_nil]) (fun z21148 H locs ok1149 hP hD hS => ?_)
  have hP : va_P G classes (lw_W ct hd us op hm qo qa fu au ns n ck n ck 0 z21148 a1 a2 a3 a4 a5 a6 a7 a8 a9 b0 b1 (upd b2 k 1) b3 b4 b5 b6 b7 (vp_updL b8 k (lN f)) (vp_updL b9 k (ky_w (nI u) x f (pw_m (cl_um rc f) sec) rc)) (vp_updL b10 k (cf_c (ky_w (nI u) x f (pw_m (cl_um rc f) sec) rc) x f)) (vp_updL og 0 ((1 : Int32).toInt64)) fo ad eu (va_up es k (.inr (2, [.ref (au u), .int (b0 k), .long (lN sec), .int (b3 k), .int 1, .long (lN x), .long (lN f), .long (cl_ky ns (nI u) (b0 k) sec x f rc (b5 k) (a1 u) ul), .long (cf_c (cl_ky ns (nI u) (b0 k) sec x f rc (b5 k) (a1 u) ul) x f), .long (cf_s (cl_ky ns (nI u) (b0 k) sec x f rc (b5 k) (a1 u) ul) (cf_c (cl_ky ns (nI u) (b0 k) sec x f rc (b5 k) (a1 u) ul) x f)), .long (cf_c (cl_ky ns (nI u) (b0 k) sec x f rc (b5 k) (a1 u) ul) x f), .long (b5 k), .long (lN rc)])))) H := hP
  have hD : va_D A (lw_W ct hd us op hm qo qa fu au ns n ck n ck 0 z21148 a1 a2 a3 a4 a5 a6 a7 a8 a9 b0 b1 (upd b2 k 1) b3 b4 b5 b6 b7 (vp_updL b8 k (lN f)) (vp_updL b9 k (ky_w (nI u) x f (pw_m (cl_um rc f) sec) rc)) (vp_updL b10 k (cf_c (ky_w (nI u) x f (pw_m (cl_um rc f) sec) rc) x f)) (vp_updL og 0 ((1 : Int32).toInt64)) fo ad eu (va_up es k (.inr (2, [.ref (au u), .int (b0 k), .long (lN sec), .int (b3 k), .int 1, .long (lN x), .long (lN f), .long (cl_ky ns (nI u) (b0 k) sec x f rc (b5 k) (a1 u) ul), .long (cf_c (cl_ky ns (nI u) (b0 k) sec x f rc (b5 k) (a1 u) ul) x f), .long (cf_s (cl_ky ns (nI u) (b0 k) sec x f rc (b5 k) (a1 u) ul) (cf_c (cl_ky ns (nI u) (b0 k) sec x f rc (b5 k) (a1 u) ul) x f)), .long (cf_c (cl_ky ns (nI u) (b0 k) sec x f rc (b5 k) (a1 u) ul) x f), .long (b5 k), .long (lN rc)])))) := hD
  refine lv_istore (lv' := [(6, .int 1), (5, .int 0), (4, .int (nI iv)), (3, .ref qo), (2, .ref hm), (1, .ref hd), (0, .ref b)]) hx hb d_L_law_660 hl (Nat.le_of_ble_eq_true rfl) rfl (fun ls hl => ?_)
  refine lv_aload_n hx hb d_L_law_662 rfl (lv_at hl 4 rfl) ?_
  have hPc : va_P G classes [(hm, .inr (4, [.int 0, .long ns.toInt64, .int ck, .long z21148, .ref (qa 1), .ref (qa 2), .ref (qa 3), .ref (qa 4), .ref (qa 5), .ref (qa 6), .ref (qa 7), .ref (qa 8), .int (nI n), .ref (qa 9), .ref (qa 10), .ref (qa 11), .ref (qa 12), .ref (qa 13), .ref (qa 14), .ref (qa 15), .ref (qa 16), .ref (qa 17), .ref (qa 18), .ref (qa 19), .ref (qa 20)]))] H := hP.sub [0] rfl
  have hDc := hD.sub (ws' := [(hm, .inr (4, [.int 0, .long ns.toInt64, .int ck, .long z21148, .ref (qa 1), .ref (qa 2), .ref (qa 3), .ref (qa 4), .ref (qa 5), .ref (qa 6), .ref (qa 7), .ref (qa 8), .int (nI n), .ref (qa 9), .ref (qa 10), .ref (qa 11), .ref (qa 12), .ref (qa 13), .ref (qa 14), .ref (qa 15), .ref (qa 16), .ref (qa 17), .ref (qa 18), .ref (qa 19), .ref (qa 20)]))]) [0] (by decide) rfl
  refine vp_callSi (W.runV (As := []) (rest := []) ⟨hx, hb, hml, hown, hts⟩ (c_M_thrown l G ct H.size hm 0 ns.toInt64 ck z21148 (qa 1) (qa 2) (qa 3) (qa 4) (qa 5) (qa 6) (qa 7) (qa 8) (qa 9) (qa 10) (qa 11) (qa 12) (qa 13) (qa 14) (qa 15) (qa 16) (qa 17) (qa 18) (qa 19) (qa 20) n) (tb_V hw cy_M_thrown ww_719 ww_720 ww_721 rfl rfl ⟨Nat.le_of_ble_eq_true rfl, Nat.le_of_ble_eq_true rfl⟩) (wk_preV (ci := 4) (q0 := 0) hPc hK hDc rfl rfl) rfl rfl hl.1 rfl (lv_room (Nat.le_of_ble_eq_true rfl)) d_L_law_663 ⟨by omega, by omega⟩) (fun r1150 er1150 => ?_)
  subst er1150
  refine lv_iload hx hb d_L_law_666 (lv_at hl 1 rfl) ?_
  refine lv_icmp_eq (tgt := 673) hx hb d_L_law_668 (by decide) (fun h1151 => ?_) (fun h1151 => ?_)
  · refine lv_iload hx hb d_L_law_673 (lv_at hl 1 rfl) ?_
    refine lv_if_ne (tgt := 690) hx hb d_L_law_675 (by decide) (fun h1152 => ?_) (fun h1152 => ?_)
    · exact absurd h1152 (by decide)
    · refine lv_aload_n hx hb d_L_law_678 rfl (lv_at hl 3 rfl) ?_
      refine lv_iconst (v := 0) hx hb d_L_law_679 (by decide) ?_
      refine ra_ll hx hb hK.1 hP 21 1 rfl rfl (k := 0) (by omega) (by decide) d_L_law_680 ?_
      refine tp_l (ul_se _ _ _) ?_
      refine lv_iload hx hb d_L_law_681 (lv_at hl 0 rfl) ?_
      refine lv_i2l (v := (1 : Int32).toInt64) hx hb d_L_law_683 rfl ?_
      refine W.lcmp hx hb d_L_law_684 ?_
      refine lv_if_eq (tgt := 690) hx hb d_L_law_685 (by decide) (fun h1153 => ?_) (fun h1153 => ?_)
      · have h1153 := (lg_cmp_eq _ _).mp h1153
        refine lv_goto (tgt := 1005) hx hb d_L_law_690 (by decide) ?_
        refine W.widen (k := cells + 1) (n := slots + 13) (by omega) (by omega) ?_
        exact kk n ck 0 z21148 a1 a2 a3 a4 a5 a6 a7 a8 a9 b0 b1 (upd b2 k 1) b3 b4 b5 b6 b7 (vp_updL b8 k (lN f)) (vp_updL b9 k (ky_w (nI u) x f (pw_m (cl_um rc f) sec) rc)) (vp_updL b10 k (cf_c (ky_w (nI u) x f (pw_m (cl_um rc f) sec) rc) x f)) (vp_updL og 0 ((1 : Int32).toInt64)) fo ad eu (va_up es k (.inr (2, [.ref (au u), .int (b0 k), .long (lN sec), .int (b3 k), .int 1, .long (lN x), .long (lN f), .long (cl_ky ns (nI u) (b0 k) sec x f rc (b5 k) (a1 u) ul), .long (cf_c (cl_ky ns (nI u) (b0 k) sec x f rc (b5 k) (a1 u) ul) x f), .long (cf_s (cl_ky ns (nI u) (b0 k) sec x f rc (b5 k) (a1 u) ul) (cf_c (cl_ky ns (nI u) (b0 k) sec x f rc (b5 k) (a1 u) ul) x f)), .long (cf_c (cl_ky ns (nI u) (b0 k) sec x f rc (b5 k) (a1 u) ul) x f), .long (b5 k), .long (lN rc)]))) H locs _ hnew hP hD hS (lv_sub hl [2, 3, 4, 5, 6] rfl)
      · have h1153 := fun q => h1153 ((lg_cmp_eq _ _).mpr q)
        exact absurd rfl h1153
  · exact absurd h1151 (by decide)
set_option maxHeartbeats 4000000 in
set_option maxRecDepth 100000 in
theorem lq_receiveFC_MSC {k : Nat} {u : Nat} {sec : Nat} {x : Nat} {y : Nat} {rc : Nat} {c1 : Int64} {c2 : Int64} {uo : Nat} {ul : Int64} {uv : Nat} {f : Nat} (C0 : lc_C p l s m meth c b L xs G ct A) (hiv : iv + 7 ≤ L) (hcc : cells + 1 ≤ room_1.cells) (hzz : slots + 13 ≤ room_1.slots)
    (hP : va_P G classes (lw_W ct hd us op hm qo qa fu au ns n ck n ck th hh a1 a2 a3 a4 a5 a6 a7 a8 a9 b0 b1 b2 b3 b4 b5 b6 b7 b8 b9 b10 og fo ad eu es) H) (hD : va_D A (lw_W ct hd us op hm qo qa fu au ns n ck n ck th hh a1 a2 a3 a4 a5 a6 a7 a8 a9 b0 b1 b2 b3 b4 b5 b6 b7 b8 b9 b10 og fo ad eu es)) (hS : va_S A s.heap H locs) (hl : lv_has ls 8 [(4, .int (nI iv)), (3, .ref qo), (2, .ref hm), (1, .ref hd), (0, .ref b)])
    (kk : lc_K p l e s m below meth c b L xs G ct A hd us op hm qo qa fu au ns iv (cells + 1) (slots + 13) Q)
    (hv1 : xs (iv + 1) = nI k) (hv2 : lj (xs (iv + 2)) (xs (iv + 3)) = lN f) (hkn : k < n) (hes : es k = .inr (2, [.ref (au u), .int (b0 k), .long (lN sec), .int (b3 k), .int (b2 k), .long (lN x), .long (lN y), .long (b9 k), .long c1, .long c2, .long (b10 k), .long (b5 k), .long (lN rc)])) (hu8 : u < 8) (heu : eu u = .inr (1, [.int (nI u), .int ns, .int (a1 u), .long (lN uo), .long ul, .long (lN uv), .int (a5 u), .int (a6 u), .int (a7 u), .int (a8 u)])) (d_hn : n ≤ 40) (d_hkn : k < n) (d_hfo : fo k = some (ad k)) (d_hst : se_at (b2 k) (b3 k) ck = 0) (d_hs1 : sec < pq_Q) (d_hr0 : 1 ≤ rc) (d_hr1 : rc < pq_Q) (d_hn1 : f < pq_P) (d_hrt : rt_c (b0 k) rc (lN f)) (m_hn : n ≤ 40) (m_hkn : k < n) (m_hst : sm_at (b2 k) (b3 k) ck = 0) (m_hsv : a9 k = 0) (m_hrc : b6 k = lN rc) (m_hse : b4 k = lN sec) (m_hs1 : sec < pq_Q) (m_hu : b1 k = nI u) (m_hx1 : b7 k = lN x) (m_hf1 : f < pq_P) (m_hw1 : b0 k = 1) (m_hu8 : u < 8) (m_hrt : rt_c (b0 k) rc (lN f))  (hnew : li_R fu au ns n a1 a2 a3 a4 a5 a6 a7 a8 a9 b0 b1 (upd b2 k 1) b3 b4 b5 b6 b7 (vp_updL b8 k (lN f)) (vp_updL b9 k (ky_s (nI u) x f (cl_cm sec (ex_n (sm_sa ns.toInt64 (nI u) (a1 u) (a3 u)) (nI u) (b5 k)) f (bl_n x f)))) (vp_updL b10 k (cf_c (ky_s (nI u) x f (cl_cm sec (ex_n (sm_sa ns.toInt64 (nI u) (a1 u) (a3 u)) (nI u) (b5 k)) f (bl_n x f))) x f)) fo ad eu (va_up es k (.inr (2, [.ref (au u), .int (b0 k), .long (lN sec), .int (b3 k), .int 1, .long (lN x), .long (lN f), .long (cl_ky ns (nI u) (b0 k) sec x f rc (b5 k) (a1 u) ul), .long (cf_c (cl_ky ns (nI u) (b0 k) sec x f rc (b5 k) (a1 u) ul) x f), .long (cf_s (cl_ky ns (nI u) (b0 k) sec x f rc (b5 k) (a1 u) ul) (cf_c (cl_ky ns (nI u) (b0 k) sec x f rc (b5 k) (a1 u) ul) x f)), .long (cf_c (cl_ky ns (nI u) (b0 k) sec x f rc (b5 k) (a1 u) ul) x f), .long (b5 k), .long (lN rc)]))))  : W p l e room_1 s m #[Value.ref b] below meth c H locs cells slots Q (F0 m 593 ls []) := by
  obtain ⟨hx, hb, hr, hml, hown, hw, hK, hZ, hR, hN, hfl, hA, hbA, hX, hbl, hL, hlocks⟩ := C0
  have hts := hw
  have hP : va_P G classes (lw_W ct hd us op hm qo qa fu au ns n ck n ck th hh a1 a2 a3 a4 a5 a6 a7 a8 a9 b0 b1 b2 b3 b4 b5 b6 b7 b8 b9 b10 og fo ad eu es) H := hP
  have hD : va_D A (lw_W ct hd us op hm qo qa fu au ns n ck n ck th hh a1 a2 a3 a4 a5 a6 a7 a8 a9 b0 b1 b2 b3 b4 b5 b6 b7 b8 b9 b10 og fo ad eu es) := hD
  refine lv_aload_n hx hb d_L_law_593 rfl (lv_at hl 3 rfl) ?_
  refine lv_aload_n hx hb d_L_law_594 rfl (lv_at hl 4 rfl) ?_
  refine lv_iload hx hb d_L_law_595 (lv_at hl 0 rfl) ?_
  refine lv_iconst (v := 1) hx hb d_L_law_597 (by decide) ?_
  refine lv_iadd hx hb d_L_law_598 ?_
  refine sl_ld (j := iv) (d := 1) hx hb hX hbl hbA hS hL (by omega) d_L_law_599 ?_
  refine tp_i (hv1) ?_
  refine lv_aload_n hx hb d_L_law_600 rfl (lv_at hl 4 rfl) ?_
  refine lv_iload hx hb d_L_law_601 (lv_at hl 0 rfl) ?_
  refine lv_iconst (v := 2) hx hb d_L_law_603 (by decide) ?_
  refine lv_iadd hx hb d_L_law_604 ?_
  refine sl_ld (j := iv) (d := 2) hx hb hX hbl hbA hS hL (by omega) d_L_law_605 ?_
  refine lv_i2l (v := (xs (iv + 2)).toInt64) hx hb d_L_law_606 rfl ?_
  refine lv_bipush (v := 32) hx hb d_L_law_607 (by decide) ?_
  refine lv_lshl (v := ((xs (iv + 2)).toInt64) <<< ((32 : Int32).toInt64 &&& 63)) hx hb d_L_law_609 rfl ?_
  refine lv_aload_n hx hb d_L_law_610 rfl (lv_at hl 4 rfl) ?_
  refine lv_iload hx hb d_L_law_611 (lv_at hl 0 rfl) ?_
  refine lv_iconst (v := 3) hx hb d_L_law_613 (by decide) ?_
  refine lv_iadd hx hb d_L_law_614 ?_
  refine sl_ld (j := iv) (d := 3) hx hb hX hbl hbA hS hL (by omega) d_L_law_615 ?_
  refine lv_i2l (v := (xs (iv + 3)).toInt64) hx hb d_L_law_616 rfl ?_
  refine lv_ldc2 (v := 4294967295) hx hb hown (hw _ ww_884) d_L_law_617 ?_
  refine lv_land hx hb d_L_law_620 ?_
  refine lv_lor hx hb d_L_law_621 ?_
  refine tp_l (rfl) ?_
  refine tp_l (hv2) ?_
  refine lv_aload_n hx hb d_L_law_622 rfl (lv_at hl 1 rfl) ?_
  have hC9 : List.map (fun i => ((lw_W ct hd us op hm qo qa fu au ns n ck n ck th hh a1 a2 a3 a4 a5 a6 a7 a8 a9 b0 b1 b2 b3 b4 b5 b6 b7 b8 b9 b10 og fo ad eu es) : va_W)[i]?) [22, 24, 25 + (8 + k), 25 + u, 21] = List.map some ([(hd, .inr (0, [.ref us, .ref op, .int (nI n), .int ck])), (op, .inl ((ct 4), 40, .inr (.inr (.inr (.inr fo))))), ((ad k), .inr (2, [.ref (au u), .int (b0 k), .long (lN sec), .int (b3 k), .int (b2 k), .long (lN x), .long (lN y), .long (b9 k), .long c1, .long c2, .long (b10 k), .long (b5 k), .long (lN rc)])), ((au u), .inr (1, [.int (nI u), .int ns, .int (a1 u), .long (lN uo), .long ul, .long (lN uv), .int (a5 u), .int (a6 u), .int (a7 u), .int (a8 u)])), (qo, .inl ((ct 1), 1, .inr (.inl og)))] : va_W) := (wc_c rfl (wc_c rfl (wc_c (lw_s rfl hkn hes) (wc_c (lw_u rfl hu8 heu) (wc_c rfl rfl)))))
  have hn9 : va_nd [22, 24, 25 + (8 + k), 25 + u, 21] = true := (nd_c (by simp only [List.mem_cons, List.not_mem_nil, or_false]; omega) (nd_c (by simp only [List.mem_cons, List.not_mem_nil, or_false]; omega) (nd_c (by simp only [List.mem_cons, List.not_mem_nil, or_false]; omega) (nd_c (by simp only [List.mem_cons, List.not_mem_nil, or_false]; omega) (nd_c List.not_mem_nil rfl)))))
  have hPc : va_P G classes [(hd, .inr (0, [.ref us, .ref op, .int (nI n), .int ck])), (op, .inl ((ct 4), 40, .inr (.inr (.inr (.inr fo))))), ((ad k), .inr (2, [.ref (au u), .int (b0 k), .long (lN sec), .int (b3 k), .int (b2 k), .long (lN x), .long (lN y), .long (b9 k), .long c1, .long c2, .long (b10 k), .long (b5 k), .long (lN rc)])), ((au u), .inr (1, [.int (nI u), .int ns, .int (a1 u), .long (lN uo), .long ul, .long (lN uv), .int (a5 u), .int (a6 u), .int (a7 u), .int (a8 u)])), (qo, .inl ((ct 1), 1, .inr (.inl og)))] H := lp_sub hP [22, 24, 25 + (8 + k), 25 + u, 21] hC9
  have hDc := hD.sub (ws' := [(hd, .inr (0, [.ref us, .ref op, .int (nI n), .int ck])), (op, .inl ((ct 4), 40, .inr (.inr (.inr (.inr fo))))), ((ad k), .inr (2, [.ref (au u), .int (b0 k), .long (lN sec), .int (b3 k), .int (b2 k), .long (lN x), .long (lN y), .long (b9 k), .long c1, .long c2, .long (b10 k), .long (b5 k), .long (lN rc)])), ((au u), .inr (1, [.int (nI u), .int ns, .int (a1 u), .long (lN uo), .long ul, .long (lN uv), .int (a5 u), .int (a6 u), .int (a7 u), .int (a8 u)])), (qo, .inl ((ct 1), 1, .inr (.inl og)))]) [22, 24, 25 + (8 + k), 25 + u, 21] hn9 hC9
  have hW9 : wk_sets ((lw_W ct hd us op hm qo qa fu au ns n ck n ck th hh a1 a2 a3 a4 a5 a6 a7 a8 a9 b0 b1 b2 b3 b4 b5 b6 b7 b8 b9 b10 og fo ad eu es) : va_W) [22, 24, 25 + (8 + k), 25 + u, 21] ([(hd, .inr (0, [.ref us, .ref op, .int (nI n), .int ck])), (op, .inl ((ct 4), 40, .inr (.inr (.inr (.inr fo))))), ((ad k), .inr (2, [.ref (au u), .int (b0 k), .long (lN sec), .int (b3 k), .int 1, .long (lN x), .long (lN f), .long (cl_ky ns (nI u) (b0 k) sec x f rc (b5 k) (a1 u) ul), .long (cf_c (cl_ky ns (nI u) (b0 k) sec x f rc (b5 k) (a1 u) ul) x f), .long (cf_s (cl_ky ns (nI u) (b0 k) sec x f rc (b5 k) (a1 u) ul) (cf_c (cl_ky ns (nI u) (b0 k) sec x f rc (b5 k) (a1 u) ul) x f)), .long (cf_c (cl_ky ns (nI u) (b0 k) sec x f rc (b5 k) (a1 u) ul) x f), .long (b5 k), .long (lN rc)])), ((au u), .inr (1, [.int (nI u), .int ns, .int (a1 u), .long (lN uo), .long ul, .long (lN uv), .int (a5 u), .int (a6 u), .int (a7 u), .int (a8 u)])), (qo, .inl ((ct 1), 1, .inr (.inl (vp_updL og 0 ((1 : Int32).toInt64)))))] : va_W) = ((lw_W ct hd us op hm qo qa fu au ns n ck n ck th hh a1 a2 a3 a4 a5 a6 a7 a8 a9 b0 b1 b2 b3 b4 b5 b6 b7 b8 b9 b10 (vp_updL og 0 ((1 : Int32).toInt64)) fo ad eu (va_up es k (.inr (2, [.ref (au u), .int (b0 k), .long (lN sec), .int (b3 k), .int 1, .long (lN x), .long (lN f), .long (cl_ky ns (nI u) (b0 k) sec x f rc (b5 k) (a1 u) ul), .long (cf_c (cl_ky ns (nI u) (b0 k) sec x f rc (b5 k) (a1 u) ul) x f), .long (cf_s (cl_ky ns (nI u) (b0 k) sec x f rc (b5 k) (a1 u) ul) (cf_c (cl_ky ns (nI u) (b0 k) sec x f rc (b5 k) (a1 u) ul) x f)), .long (cf_c (cl_ky ns (nI u) (b0 k) sec x f rc (b5 k) (a1 u) ul) x f), .long (b5 k), .long (lN rc)])))) : va_W) := (ws_k rfl (ws_k rfl (ws_c (lw_ss rfl) (ws_k (lw_u rfl hu8 heu) (ws_c (ws' := ([(hm, .inr (4, [.int th, .long ns.toInt64, .int ck, .long hh, .ref (qa 1), .ref (qa 2), .ref (qa 3), .ref (qa 4), .ref (qa 5), .ref (qa 6), .ref (qa 7), .ref (qa 8), .int (nI n), .ref (qa 9), .ref (qa 10), .ref (qa 11), .ref (qa 12), .ref (qa 13), .ref (qa 14), .ref (qa 15), .ref (qa 16), .ref (qa 17), .ref (qa 18), .ref (qa 19), .ref (qa 20)])), ((qa 1), .inl ((ct 0), 8, .inl a1)), ((qa 2), .inl ((ct 1), 8, .inr (.inl a2))), ((qa 3), .inl ((ct 1), 8, .inr (.inl a3))), ((qa 4), .inl ((ct 1), 8, .inr (.inl a4))), ((qa 5), .inl ((ct 0), 8, .inl a5)), ((qa 6), .inl ((ct 0), 8, .inl a6)), ((qa 7), .inl ((ct 0), 8, .inl a7)), ((qa 8), .inl ((ct 0), 8, .inl a8)), ((qa 9), .inl ((ct 2), 40, .inl a9)), ((qa 10), .inl ((ct 0), 40, .inl b0)), ((qa 11), .inl ((ct 0), 40, .inl b1)), ((qa 12), .inl ((ct 0), 40, .inl b2)), ((qa 13), .inl ((ct 0), 40, .inl b3)), ((qa 14), .inl ((ct 1), 40, .inr (.inl b4))), ((qa 15), .inl ((ct 1), 40, .inr (.inl b5))), ((qa 16), .inl ((ct 1), 40, .inr (.inl b6))), ((qa 17), .inl ((ct 1), 40, .inr (.inl b7))), ((qa 18), .inl ((ct 1), 40, .inr (.inl b8))), ((qa 19), .inl ((ct 1), 40, .inr (.inl b9))), ((qa 20), .inl ((ct 1), 40, .inr (.inl b10))), (qo, .inl ((ct 1), 1, .inr (.inl (vp_updL og 0 ((1 : Int32).toInt64))))), (hd, .inr (0, [.ref us, .ref op, .int (nI n), .int ck])), (us, .inl ((ct 3), 8, .inr (.inr (.inr (.inr fu))))), (op, .inl ((ct 4), 40, .inr (.inr (.inr (.inr fo)))))] ++ (ix_w 8 au eu ++ ix_w n ad (va_up es k (.inr (2, [.ref (au u), .int (b0 k), .long (lN sec), .int (b3 k), .int 1, .long (lN x), .long (lN f), .long (cl_ky ns (nI u) (b0 k) sec x f rc (b5 k) (a1 u) ul), .long (cf_c (cl_ky ns (nI u) (b0 k) sec x f rc (b5 k) (a1 u) ul) x f), .long (cf_s (cl_ky ns (nI u) (b0 k) sec x f rc (b5 k) (a1 u) ul) (cf_c (cl_ky ns (nI u) (b0 k) sec x f rc (b5 k) (a1 u) ul) x f)), .long (cf_c (cl_ky ns (nI u) (b0 k) sec x f rc (b5 k) (a1 u) ul) x f), .long (b5 k), .long (lN rc)])))))) rfl rfl)))))
  refine wk_i (sh_run (As := [.ref hd, .int (nI k), .long (lN f), .ref qo]) (rest := []) (hs := [(0, 11, 14, 25), (0, 11, 18, 15), (0, 11, 22, 13), (0, 11, 26, 27)]) ⟨hx, hb, hml, hown, hts⟩ (c_L_receiveFC l G ct H.size hd us op n ck fo k (ad k) (au u) (b0 k) sec (b3 k) (b2 k) x y (b9 k) c1 c2 (b10 k) (b5 k) rc (nI u) ns (a1 u) uo ul uv (a5 u) (a6 u) (a7 u) (a8 u) f qo og d_hn d_hkn d_hfo d_hst d_hs1 d_hr0 d_hr1 d_hn1 d_hrt) wk_ret ⟨hw, ww_417, ww_0, ⟨by decide, by decide⟩, np_L_receive, ww_415, ww_416, rfl, rfl, Nat.le_of_ble_eq_true rfl, Nat.le_of_ble_eq_true rfl⟩ (wk_pre hPc hK hDc) rfl hl.1 rfl (lv_room (Nat.le_of_ble_eq_true rfl)) d_L_law_623 ⟨by omega, by omega⟩) hP hD hS hA [22, 24, 25 + (8 + k), 25 + u, 21] hn9 hC9 (fun _ => by simp only [List.map_cons, List.map_nil]) (fun _ H locs _ hP hD hS => ?_)
  have hP : va_P G classes (lw_W ct hd us op hm qo qa fu au ns n ck n ck th hh a1 a2 a3 a4 a5 a6 a7 a8 a9 b0 b1 b2 b3 b4 b5 b6 b7 b8 b9 b10 (vp_updL og 0 ((1 : Int32).toInt64)) fo ad eu (va_up es k (.inr (2, [.ref (au u), .int (b0 k), .long (lN sec), .int (b3 k), .int 1, .long (lN x), .long (lN f), .long (cl_ky ns (nI u) (b0 k) sec x f rc (b5 k) (a1 u) ul), .long (cf_c (cl_ky ns (nI u) (b0 k) sec x f rc (b5 k) (a1 u) ul) x f), .long (cf_s (cl_ky ns (nI u) (b0 k) sec x f rc (b5 k) (a1 u) ul) (cf_c (cl_ky ns (nI u) (b0 k) sec x f rc (b5 k) (a1 u) ul) x f)), .long (cf_c (cl_ky ns (nI u) (b0 k) sec x f rc (b5 k) (a1 u) ul) x f), .long (b5 k), .long (lN rc)])))) H := lp_P hW9 hP
  have hD : va_D A (lw_W ct hd us op hm qo qa fu au ns n ck n ck th hh a1 a2 a3 a4 a5 a6 a7 a8 a9 b0 b1 b2 b3 b4 b5 b6 b7 b8 b9 b10 (vp_updL og 0 ((1 : Int32).toInt64)) fo ad eu (va_up es k (.inr (2, [.ref (au u), .int (b0 k), .long (lN sec), .int (b3 k), .int 1, .long (lN x), .long (lN f), .long (cl_ky ns (nI u) (b0 k) sec x f rc (b5 k) (a1 u) ul), .long (cf_c (cl_ky ns (nI u) (b0 k) sec x f rc (b5 k) (a1 u) ul) x f), .long (cf_s (cl_ky ns (nI u) (b0 k) sec x f rc (b5 k) (a1 u) ul) (cf_c (cl_ky ns (nI u) (b0 k) sec x f rc (b5 k) (a1 u) ul) x f)), .long (cf_c (cl_ky ns (nI u) (b0 k) sec x f rc (b5 k) (a1 u) ul) x f), .long (b5 k), .long (lN rc)])))) := lp_D hW9 hD
  refine lv_istore (lv' := [(5, .int 0), (4, .int (nI iv)), (3, .ref qo), (2, .ref hm), (1, .ref hd), (0, .ref b)]) hx hb d_L_law_626 hl (Nat.le_of_ble_eq_true rfl) rfl (fun ls hl => ?_)
  refine lv_aload_n hx hb d_L_law_628 rfl (lv_at hl 3 rfl) ?_
  refine lv_aload_n hx hb d_L_law_629 rfl (lv_at hl 5 rfl) ?_
  refine lv_iload hx hb d_L_law_630 (lv_at hl 1 rfl) ?_
  refine lv_iconst (v := 1) hx hb d_L_law_632 (by decide) ?_
  refine lv_iadd hx hb d_L_law_633 ?_
  refine sl_ld (j := iv) (d := 1) hx hb hX hbl hbA hS hL (by omega) d_L_law_634 ?_
  refine tp_i (hv1) ?_
  refine lv_aload_n hx hb d_L_law_635 rfl (lv_at hl 5 rfl) ?_
  refine lv_iload hx hb d_L_law_636 (lv_at hl 1 rfl) ?_
  refine lv_iconst (v := 2) hx hb d_L_law_638 (by decide) ?_
  refine lv_iadd hx hb d_L_law_639 ?_
  refine sl_ld (j := iv) (d := 2) hx hb hX hbl hbA hS hL (by omega) d_L_law_640 ?_
  refine lv_i2l (v := (xs (iv + 2)).toInt64) hx hb d_L_law_641 rfl ?_
  refine lv_bipush (v := 32) hx hb d_L_law_642 (by decide) ?_
  refine lv_lshl (v := ((xs (iv + 2)).toInt64) <<< ((32 : Int32).toInt64 &&& 63)) hx hb d_L_law_644 rfl ?_
  refine lv_aload_n hx hb d_L_law_645 rfl (lv_at hl 5 rfl) ?_
  refine lv_iload hx hb d_L_law_646 (lv_at hl 1 rfl) ?_
  refine lv_iconst (v := 3) hx hb d_L_law_648 (by decide) ?_
  refine lv_iadd hx hb d_L_law_649 ?_
  refine sl_ld (j := iv) (d := 3) hx hb hX hbl hbA hS hL (by omega) d_L_law_650 ?_
  refine lv_i2l (v := (xs (iv + 3)).toInt64) hx hb d_L_law_651 rfl ?_
  refine lv_ldc2 (v := 4294967295) hx hb hown (hw _ ww_884) d_L_law_652 ?_
  refine lv_land hx hb d_L_law_655 ?_
  refine lv_lor hx hb d_L_law_656 ?_
  refine tp_l (rfl) ?_
  refine tp_l (hv2) ?_
  have hPc : va_P G classes [(hm, .inr (4, [.int th, .long ns.toInt64, .int ck, .long hh, .ref (qa 1), .ref (qa 2), .ref (qa 3), .ref (qa 4), .ref (qa 5), .ref (qa 6), .ref (qa 7), .ref (qa 8), .int (nI n), .ref (qa 9), .ref (qa 10), .ref (qa 11), .ref (qa 12), .ref (qa 13), .ref (qa 14), .ref (qa 15), .ref (qa 16), .ref (qa 17), .ref (qa 18), .ref (qa 19), .ref (qa 20)])), ((qa 1), .inl ((ct 0), 8, .inl a1)), ((qa 3), .inl ((ct 1), 8, .inr (.inl a3))), ((qa 9), .inl ((ct 2), 40, .inl a9)), ((qa 10), .inl ((ct 0), 40, .inl b0)), ((qa 11), .inl ((ct 0), 40, .inl b1)), ((qa 12), .inl ((ct 0), 40, .inl b2)), ((qa 13), .inl ((ct 0), 40, .inl b3)), ((qa 14), .inl ((ct 1), 40, .inr (.inl b4))), ((qa 15), .inl ((ct 1), 40, .inr (.inl b5))), ((qa 16), .inl ((ct 1), 40, .inr (.inl b6))), ((qa 17), .inl ((ct 1), 40, .inr (.inl b7))), ((qa 18), .inl ((ct 1), 40, .inr (.inl b8))), ((qa 19), .inl ((ct 1), 40, .inr (.inl b9))), ((qa 20), .inl ((ct 1), 40, .inr (.inl b10)))] H := hP.sub [0, 1, 3, 9, 10, 11, 12, 13, 14, 15, 16, 17, 18, 19, 20] rfl
  have hDc := hD.sub (ws' := [(hm, .inr (4, [.int th, .long ns.toInt64, .int ck, .long hh, .ref (qa 1), .ref (qa 2), .ref (qa 3), .ref (qa 4), .ref (qa 5), .ref (qa 6), .ref (qa 7), .ref (qa 8), .int (nI n), .ref (qa 9), .ref (qa 10), .ref (qa 11), .ref (qa 12), .ref (qa 13), .ref (qa 14), .ref (qa 15), .ref (qa 16), .ref (qa 17), .ref (qa 18), .ref (qa 19), .ref (qa 20)])), ((qa 1), .inl ((ct 0), 8, .inl a1)), ((qa 3), .inl ((ct 1), 8, .inr (.inl a3))), ((qa 9), .inl ((ct 2), 40, .inl a9)), ((qa 10), .inl ((ct 0), 40, .inl b0)), ((qa 11), .inl ((ct 0), 40, .inl b1)), ((qa 12), .inl ((ct 0), 40, .inl b2)), ((qa 13), .inl ((ct 0), 40, .inl b3)), ((qa 14), .inl ((ct 1), 40, .inr (.inl b4))), ((qa 15), .inl ((ct 1), 40, .inr (.inl b5))), ((qa 16), .inl ((ct 1), 40, .inr (.inl b6))), ((qa 17), .inl ((ct 1), 40, .inr (.inl b7))), ((qa 18), .inl ((ct 1), 40, .inr (.inl b8))), ((qa 19), .inl ((ct 1), 40, .inr (.inl b9))), ((qa 20), .inl ((ct 1), 40, .inr (.inl b10)))]) [0, 1, 3, 9, 10, 11, 12, 13, 14, 15, 16, 17, 18, 19, 20] (by decide) rfl
  refine wk_i (va_runV (As := [.int (nI k), .long (lN f)]) (rest := []) ⟨hx, hb, hml, hown, hts⟩ (c_M_receive_MSC l G ct H.size hm th ns.toInt64 ck hh (qa 1) (qa 2) (qa 3) (qa 4) (qa 5) (qa 6) (qa 7) (qa 8) (qa 9) (qa 10) (qa 11) (qa 12) (qa 13) (qa 14) (qa 15) (qa 16) (qa 17) (qa 18) (qa 19) (qa 20) n a1 a3 a9 b0 b1 b2 b3 b4 b5 b6 b7 b8 b9 b10 k rc u sec x f m_hn m_hkn m_hst m_hsv m_hrc m_hse m_hs1 m_hu m_hx1 m_hf1 m_hw1 m_hu8 m_hrt) (tb_V hw cy_M_receive ww_804 ww_805 ww_806 rfl rfl ⟨Nat.le_of_ble_eq_true rfl, Nat.le_of_ble_eq_true rfl⟩) (wk_preV (ci := 4) (q0 := 0) hPc hK hDc rfl rfl) rfl rfl hl.1 rfl (lv_room (Nat.le_of_ble_eq_true rfl)) d_L_law_657 ⟨by omega, by omega⟩) hP hD hS hA [0, 1, 3, 9, 10, 11, 12, 13, 14, 15, 16, 17, 18, 19, 20] (by decide) rfl (fun _ => by simp only [List.map_cons, List.map_nil]) (fun z21154 H locs ok1155 hP hD hS => ?_)
  have hP : va_P G classes (lw_W ct hd us op hm qo qa fu au ns n ck n ck 0 z21154 a1 a2 a3 a4 a5 a6 a7 a8 a9 b0 b1 (upd b2 k 1) b3 b4 b5 b6 b7 (vp_updL b8 k (lN f)) (vp_updL b9 k (ky_s (nI u) x f (cl_cm sec (ex_n (sm_sa ns.toInt64 (nI u) (a1 u) (a3 u)) (nI u) (b5 k)) f (bl_n x f)))) (vp_updL b10 k (cf_c (ky_s (nI u) x f (cl_cm sec (ex_n (sm_sa ns.toInt64 (nI u) (a1 u) (a3 u)) (nI u) (b5 k)) f (bl_n x f))) x f)) (vp_updL og 0 ((1 : Int32).toInt64)) fo ad eu (va_up es k (.inr (2, [.ref (au u), .int (b0 k), .long (lN sec), .int (b3 k), .int 1, .long (lN x), .long (lN f), .long (cl_ky ns (nI u) (b0 k) sec x f rc (b5 k) (a1 u) ul), .long (cf_c (cl_ky ns (nI u) (b0 k) sec x f rc (b5 k) (a1 u) ul) x f), .long (cf_s (cl_ky ns (nI u) (b0 k) sec x f rc (b5 k) (a1 u) ul) (cf_c (cl_ky ns (nI u) (b0 k) sec x f rc (b5 k) (a1 u) ul) x f)), .long (cf_c (cl_ky ns (nI u) (b0 k) sec x f rc (b5 k) (a1 u) ul) x f), .long (b5 k), .long (lN rc)])))) H := hP
  have hD : va_D A (lw_W ct hd us op hm qo qa fu au ns n ck n ck 0 z21154 a1 a2 a3 a4 a5 a6 a7 a8 a9 b0 b1 (upd b2 k 1) b3 b4 b5 b6 b7 (vp_updL b8 k (lN f)) (vp_updL b9 k (ky_s (nI u) x f (cl_cm sec (ex_n (sm_sa ns.toInt64 (nI u) (a1 u) (a3 u)) (nI u) (b5 k)) f (bl_n x f)))) (vp_updL b10 k (cf_c (ky_s (nI u) x f (cl_cm sec (ex_n (sm_sa ns.toInt64 (nI u) (a1 u) (a3 u)) (nI u) (b5 k)) f (bl_n x f))) x f)) (vp_updL og 0 ((1 : Int32).toInt64)) fo ad eu (va_up es k (.inr (2, [.ref (au u), .int (b0 k), .long (lN sec), .int (b3 k), .int 1, .long (lN x), .long (lN f), .long (cl_ky ns (nI u) (b0 k) sec x f rc (b5 k) (a1 u) ul), .long (cf_c (cl_ky ns (nI u) (b0 k) sec x f rc (b5 k) (a1 u) ul) x f), .long (cf_s (cl_ky ns (nI u) (b0 k) sec x f rc (b5 k) (a1 u) ul) (cf_c (cl_ky ns (nI u) (b0 k) sec x f rc (b5 k) (a1 u) ul) x f)), .long (cf_c (cl_ky ns (nI u) (b0 k) sec x f rc (b5 k) (a1 u) ul) x f), .long (b5 k), .long (lN rc)])))) := hD
  refine lv_istore (lv' := [(6, .int 1), (5, .int 0), (4, .int (nI iv)), (3, .ref qo), (2, .ref hm), (1, .ref hd), (0, .ref b)]) hx hb d_L_law_660 hl (Nat.le_of_ble_eq_true rfl) rfl (fun ls hl => ?_)
  refine lv_aload_n hx hb d_L_law_662 rfl (lv_at hl 4 rfl) ?_
  have hPc : va_P G classes [(hm, .inr (4, [.int 0, .long ns.toInt64, .int ck, .long z21154, .ref (qa 1), .ref (qa 2), .ref (qa 3), .ref (qa 4), .ref (qa 5), .ref (qa 6), .ref (qa 7), .ref (qa 8), .int (nI n), .ref (qa 9), .ref (qa 10), .ref (qa 11), .ref (qa 12), .ref (qa 13), .ref (qa 14), .ref (qa 15), .ref (qa 16), .ref (qa 17), .ref (qa 18), .ref (qa 19), .ref (qa 20)]))] H := hP.sub [0] rfl
  have hDc := hD.sub (ws' := [(hm, .inr (4, [.int 0, .long ns.toInt64, .int ck, .long z21154, .ref (qa 1), .ref (qa 2), .ref (qa 3), .ref (qa 4), .ref (qa 5), .ref (qa 6), .ref (qa 7), .ref (qa 8), .int (nI n), .ref (qa 9), .ref (qa 10), .ref (qa 11), .ref (qa 12), .ref (qa 13), .ref (qa 14), .ref (qa 15), .ref (qa 16), .ref (qa 17), .ref (qa 18), .ref (qa 19), .ref (qa 20)]))]) [0] (by decide) rfl
  refine vp_callSi (W.runV (As := []) (rest := []) ⟨hx, hb, hml, hown, hts⟩ (c_M_thrown l G ct H.size hm 0 ns.toInt64 ck z21154 (qa 1) (qa 2) (qa 3) (qa 4) (qa 5) (qa 6) (qa 7) (qa 8) (qa 9) (qa 10) (qa 11) (qa 12) (qa 13) (qa 14) (qa 15) (qa 16) (qa 17) (qa 18) (qa 19) (qa 20) n) (tb_V hw cy_M_thrown ww_719 ww_720 ww_721 rfl rfl ⟨Nat.le_of_ble_eq_true rfl, Nat.le_of_ble_eq_true rfl⟩) (wk_preV (ci := 4) (q0 := 0) hPc hK hDc rfl rfl) rfl rfl hl.1 rfl (lv_room (Nat.le_of_ble_eq_true rfl)) d_L_law_663 ⟨by omega, by omega⟩) (fun r1156 er1156 => ?_)
  subst er1156
  refine lv_iload hx hb d_L_law_666 (lv_at hl 1 rfl) ?_
  refine lv_icmp_eq (tgt := 673) hx hb d_L_law_668 (by decide) (fun h1157 => ?_) (fun h1157 => ?_)
  · refine lv_iload hx hb d_L_law_673 (lv_at hl 1 rfl) ?_
    refine lv_if_ne (tgt := 690) hx hb d_L_law_675 (by decide) (fun h1158 => ?_) (fun h1158 => ?_)
    · exact absurd h1158 (by decide)
    · refine lv_aload_n hx hb d_L_law_678 rfl (lv_at hl 3 rfl) ?_
      refine lv_iconst (v := 0) hx hb d_L_law_679 (by decide) ?_
      refine ra_ll hx hb hK.1 hP 21 1 rfl rfl (k := 0) (by omega) (by decide) d_L_law_680 ?_
      refine tp_l (ul_se _ _ _) ?_
      refine lv_iload hx hb d_L_law_681 (lv_at hl 0 rfl) ?_
      refine lv_i2l (v := (1 : Int32).toInt64) hx hb d_L_law_683 rfl ?_
      refine W.lcmp hx hb d_L_law_684 ?_
      refine lv_if_eq (tgt := 690) hx hb d_L_law_685 (by decide) (fun h1159 => ?_) (fun h1159 => ?_)
      · have h1159 := (lg_cmp_eq _ _).mp h1159
        refine lv_goto (tgt := 1005) hx hb d_L_law_690 (by decide) ?_
        refine W.widen (k := cells + 1) (n := slots + 13) (by omega) (by omega) ?_
        exact kk n ck 0 z21154 a1 a2 a3 a4 a5 a6 a7 a8 a9 b0 b1 (upd b2 k 1) b3 b4 b5 b6 b7 (vp_updL b8 k (lN f)) (vp_updL b9 k (ky_s (nI u) x f (cl_cm sec (ex_n (sm_sa ns.toInt64 (nI u) (a1 u) (a3 u)) (nI u) (b5 k)) f (bl_n x f)))) (vp_updL b10 k (cf_c (ky_s (nI u) x f (cl_cm sec (ex_n (sm_sa ns.toInt64 (nI u) (a1 u) (a3 u)) (nI u) (b5 k)) f (bl_n x f))) x f)) (vp_updL og 0 ((1 : Int32).toInt64)) fo ad eu (va_up es k (.inr (2, [.ref (au u), .int (b0 k), .long (lN sec), .int (b3 k), .int 1, .long (lN x), .long (lN f), .long (cl_ky ns (nI u) (b0 k) sec x f rc (b5 k) (a1 u) ul), .long (cf_c (cl_ky ns (nI u) (b0 k) sec x f rc (b5 k) (a1 u) ul) x f), .long (cf_s (cl_ky ns (nI u) (b0 k) sec x f rc (b5 k) (a1 u) ul) (cf_c (cl_ky ns (nI u) (b0 k) sec x f rc (b5 k) (a1 u) ul) x f)), .long (cf_c (cl_ky ns (nI u) (b0 k) sec x f rc (b5 k) (a1 u) ul) x f), .long (b5 k), .long (lN rc)]))) H locs _ hnew hP hD hS (lv_sub hl [2, 3, 4, 5, 6] rfl)
      · have h1159 := fun q => h1159 ((lg_cmp_eq _ _).mpr q)
        exact absurd rfl h1159
  · exact absurd h1157 (by decide)
set_option maxHeartbeats 4000000 in
set_option maxRecDepth 100000 in
theorem lq_receiveFV_MWV {k : Nat} {u : Nat} {sec : Nat} {x : Nat} {y : Nat} {rc : Nat} {c1 : Int64} {c2 : Int64} {uo : Nat} {ul : Int64} {uv : Nat} {f : Nat} (C0 : lc_C p l s m meth c b L xs G ct A) (hiv : iv + 7 ≤ L) (hcc : cells + 1 ≤ room_1.cells) (hzz : slots + 13 ≤ room_1.slots)
    (hP : va_P G classes (lw_W ct hd us op hm qo qa fu au ns n ck n ck th hh a1 a2 a3 a4 a5 a6 a7 a8 a9 b0 b1 b2 b3 b4 b5 b6 b7 b8 b9 b10 og fo ad eu es) H) (hD : va_D A (lw_W ct hd us op hm qo qa fu au ns n ck n ck th hh a1 a2 a3 a4 a5 a6 a7 a8 a9 b0 b1 b2 b3 b4 b5 b6 b7 b8 b9 b10 og fo ad eu es)) (hS : va_S A s.heap H locs) (hl : lv_has ls 8 [(4, .int (nI iv)), (3, .ref qo), (2, .ref hm), (1, .ref hd), (0, .ref b)])
    (kk : lc_K p l e s m below meth c b L xs G ct A hd us op hm qo qa fu au ns iv (cells + 1) (slots + 13) Q)
    (hv1 : xs (iv + 1) = nI k) (hv2 : lj (xs (iv + 2)) (xs (iv + 3)) = lN f) (hkn : k < n) (hes : es k = .inr (3, [.ref (au u), .int (b0 k), .long (lN sec), .int (b3 k), .int (b2 k), .long (lN x), .long (lN y), .long (b9 k), .long c1, .long c2, .long (b10 k), .long (lN rc)])) (hu8 : u < 8) (heu : eu u = .inr (1, [.int (nI u), .int ns, .int (a1 u), .long (lN uo), .long ul, .long (lN uv), .int (a5 u), .int (a6 u), .int (a7 u), .int (a8 u)])) (d_hn : n ≤ 40) (d_hkn : k < n) (d_hfo : fo k = some (ad k)) (d_hst : se_at (b2 k) (b3 k) ck = 0) (d_hs1 : sec < pq_Q) (d_hq1 : ¬ (b0 k) = 1 → 1 ≤ rc ∧ rc < pq_Q) (d_hp1 : rc < pq_P) (d_hn1 : f < pq_P) (d_hrt : rt_v (b0 k) rc (lN f)) (m_hn : n ≤ 40) (m_hkn : k < n) (m_hst : sm_at (b2 k) (b3 k) ck = 0) (m_hsv : a9 k = 1) (m_hrc : b6 k = lN rc) (m_hse : b4 k = lN sec) (m_hs1 : sec < pq_Q) (m_hu : b1 k = nI u) (m_hf1 : f < pq_P) (m_hr0 : 1 ≤ rc) (m_hr1 : rc < pq_Q) (m_hw0 : b0 k = 0) (m_hrt : rt_v (b0 k) rc (lN f))  (hnew : li_R fu au ns n a1 a2 a3 a4 a5 a6 a7 a8 a9 b0 b1 (upd b2 k 1) b3 b4 b5 b6 (vp_updL b7 k (lN f)) (vp_updL b8 k (lN (pw_m 4 sec * pw_m 25 rc % pq_P))) (vp_updL b9 k (ky_w (nI u) f (pw_m 4 sec * pw_m 25 rc % pq_P) (pw_m (sv_um rc f) sec) rc)) (vp_updL b10 k (lN (pw_m 4 sec * pw_m 25 rc % pq_P))) fo ad eu (va_up es k (.inr (3, [.ref (au u), .int (b0 k), .long (lN sec), .int (b3 k), .int 1, .long (lN f), .long (lN (sv_ny (b0 k) sec rc)), .long (sv_ky (nI u) (b0 k) sec f (sv_ny (b0 k) sec rc) rc), .long (cf_c (sv_ky (nI u) (b0 k) sec f (sv_ny (b0 k) sec rc) rc) f (sv_ny (b0 k) sec rc)), .long (cf_s (sv_ky (nI u) (b0 k) sec f (sv_ny (b0 k) sec rc) rc) (cf_c (sv_ky (nI u) (b0 k) sec f (sv_ny (b0 k) sec rc) rc) f (sv_ny (b0 k) sec rc))), .long (lN (sv_ny (b0 k) sec rc)), .long (lN rc)]))))  : W p l e room_1 s m #[Value.ref b] below meth c H locs cells slots Q (F0 m 593 ls []) := by
  obtain ⟨hx, hb, hr, hml, hown, hw, hK, hZ, hR, hN, hfl, hA, hbA, hX, hbl, hL, hlocks⟩ := C0
  have hts := hw
  have hP : va_P G classes (lw_W ct hd us op hm qo qa fu au ns n ck n ck th hh a1 a2 a3 a4 a5 a6 a7 a8 a9 b0 b1 b2 b3 b4 b5 b6 b7 b8 b9 b10 og fo ad eu es) H := hP
  have hD : va_D A (lw_W ct hd us op hm qo qa fu au ns n ck n ck th hh a1 a2 a3 a4 a5 a6 a7 a8 a9 b0 b1 b2 b3 b4 b5 b6 b7 b8 b9 b10 og fo ad eu es) := hD
  refine lv_aload_n hx hb d_L_law_593 rfl (lv_at hl 3 rfl) ?_
  refine lv_aload_n hx hb d_L_law_594 rfl (lv_at hl 4 rfl) ?_
  refine lv_iload hx hb d_L_law_595 (lv_at hl 0 rfl) ?_
  refine lv_iconst (v := 1) hx hb d_L_law_597 (by decide) ?_
  refine lv_iadd hx hb d_L_law_598 ?_
  refine sl_ld (j := iv) (d := 1) hx hb hX hbl hbA hS hL (by omega) d_L_law_599 ?_
  refine tp_i (hv1) ?_
  refine lv_aload_n hx hb d_L_law_600 rfl (lv_at hl 4 rfl) ?_
  refine lv_iload hx hb d_L_law_601 (lv_at hl 0 rfl) ?_
  refine lv_iconst (v := 2) hx hb d_L_law_603 (by decide) ?_
  refine lv_iadd hx hb d_L_law_604 ?_
  refine sl_ld (j := iv) (d := 2) hx hb hX hbl hbA hS hL (by omega) d_L_law_605 ?_
  refine lv_i2l (v := (xs (iv + 2)).toInt64) hx hb d_L_law_606 rfl ?_
  refine lv_bipush (v := 32) hx hb d_L_law_607 (by decide) ?_
  refine lv_lshl (v := ((xs (iv + 2)).toInt64) <<< ((32 : Int32).toInt64 &&& 63)) hx hb d_L_law_609 rfl ?_
  refine lv_aload_n hx hb d_L_law_610 rfl (lv_at hl 4 rfl) ?_
  refine lv_iload hx hb d_L_law_611 (lv_at hl 0 rfl) ?_
  refine lv_iconst (v := 3) hx hb d_L_law_613 (by decide) ?_
  refine lv_iadd hx hb d_L_law_614 ?_
  refine sl_ld (j := iv) (d := 3) hx hb hX hbl hbA hS hL (by omega) d_L_law_615 ?_
  refine lv_i2l (v := (xs (iv + 3)).toInt64) hx hb d_L_law_616 rfl ?_
  refine lv_ldc2 (v := 4294967295) hx hb hown (hw _ ww_884) d_L_law_617 ?_
  refine lv_land hx hb d_L_law_620 ?_
  refine lv_lor hx hb d_L_law_621 ?_
  refine tp_l (rfl) ?_
  refine tp_l (hv2) ?_
  refine lv_aload_n hx hb d_L_law_622 rfl (lv_at hl 1 rfl) ?_
  have hC9 : List.map (fun i => ((lw_W ct hd us op hm qo qa fu au ns n ck n ck th hh a1 a2 a3 a4 a5 a6 a7 a8 a9 b0 b1 b2 b3 b4 b5 b6 b7 b8 b9 b10 og fo ad eu es) : va_W)[i]?) [22, 24, 25 + (8 + k), 25 + u, 21] = List.map some ([(hd, .inr (0, [.ref us, .ref op, .int (nI n), .int ck])), (op, .inl ((ct 4), 40, .inr (.inr (.inr (.inr fo))))), ((ad k), .inr (3, [.ref (au u), .int (b0 k), .long (lN sec), .int (b3 k), .int (b2 k), .long (lN x), .long (lN y), .long (b9 k), .long c1, .long c2, .long (b10 k), .long (lN rc)])), ((au u), .inr (1, [.int (nI u), .int ns, .int (a1 u), .long (lN uo), .long ul, .long (lN uv), .int (a5 u), .int (a6 u), .int (a7 u), .int (a8 u)])), (qo, .inl ((ct 1), 1, .inr (.inl og)))] : va_W) := (wc_c rfl (wc_c rfl (wc_c (lw_s rfl hkn hes) (wc_c (lw_u rfl hu8 heu) (wc_c rfl rfl)))))
  have hn9 : va_nd [22, 24, 25 + (8 + k), 25 + u, 21] = true := (nd_c (by simp only [List.mem_cons, List.not_mem_nil, or_false]; omega) (nd_c (by simp only [List.mem_cons, List.not_mem_nil, or_false]; omega) (nd_c (by simp only [List.mem_cons, List.not_mem_nil, or_false]; omega) (nd_c (by simp only [List.mem_cons, List.not_mem_nil, or_false]; omega) (nd_c List.not_mem_nil rfl)))))
  have hPc : va_P G classes [(hd, .inr (0, [.ref us, .ref op, .int (nI n), .int ck])), (op, .inl ((ct 4), 40, .inr (.inr (.inr (.inr fo))))), ((ad k), .inr (3, [.ref (au u), .int (b0 k), .long (lN sec), .int (b3 k), .int (b2 k), .long (lN x), .long (lN y), .long (b9 k), .long c1, .long c2, .long (b10 k), .long (lN rc)])), ((au u), .inr (1, [.int (nI u), .int ns, .int (a1 u), .long (lN uo), .long ul, .long (lN uv), .int (a5 u), .int (a6 u), .int (a7 u), .int (a8 u)])), (qo, .inl ((ct 1), 1, .inr (.inl og)))] H := lp_sub hP [22, 24, 25 + (8 + k), 25 + u, 21] hC9
  have hDc := hD.sub (ws' := [(hd, .inr (0, [.ref us, .ref op, .int (nI n), .int ck])), (op, .inl ((ct 4), 40, .inr (.inr (.inr (.inr fo))))), ((ad k), .inr (3, [.ref (au u), .int (b0 k), .long (lN sec), .int (b3 k), .int (b2 k), .long (lN x), .long (lN y), .long (b9 k), .long c1, .long c2, .long (b10 k), .long (lN rc)])), ((au u), .inr (1, [.int (nI u), .int ns, .int (a1 u), .long (lN uo), .long ul, .long (lN uv), .int (a5 u), .int (a6 u), .int (a7 u), .int (a8 u)])), (qo, .inl ((ct 1), 1, .inr (.inl og)))]) [22, 24, 25 + (8 + k), 25 + u, 21] hn9 hC9
  have hW9 : wk_sets ((lw_W ct hd us op hm qo qa fu au ns n ck n ck th hh a1 a2 a3 a4 a5 a6 a7 a8 a9 b0 b1 b2 b3 b4 b5 b6 b7 b8 b9 b10 og fo ad eu es) : va_W) [22, 24, 25 + (8 + k), 25 + u, 21] ([(hd, .inr (0, [.ref us, .ref op, .int (nI n), .int ck])), (op, .inl ((ct 4), 40, .inr (.inr (.inr (.inr fo))))), ((ad k), .inr (3, [.ref (au u), .int (b0 k), .long (lN sec), .int (b3 k), .int 1, .long (lN f), .long (lN (sv_ny (b0 k) sec rc)), .long (sv_ky (nI u) (b0 k) sec f (sv_ny (b0 k) sec rc) rc), .long (cf_c (sv_ky (nI u) (b0 k) sec f (sv_ny (b0 k) sec rc) rc) f (sv_ny (b0 k) sec rc)), .long (cf_s (sv_ky (nI u) (b0 k) sec f (sv_ny (b0 k) sec rc) rc) (cf_c (sv_ky (nI u) (b0 k) sec f (sv_ny (b0 k) sec rc) rc) f (sv_ny (b0 k) sec rc))), .long (lN (sv_ny (b0 k) sec rc)), .long (lN rc)])), ((au u), .inr (1, [.int (nI u), .int ns, .int (a1 u), .long (lN uo), .long ul, .long (lN uv), .int (a5 u), .int (a6 u), .int (a7 u), .int (a8 u)])), (qo, .inl ((ct 1), 1, .inr (.inl (vp_updL og 0 ((1 : Int32).toInt64)))))] : va_W) = ((lw_W ct hd us op hm qo qa fu au ns n ck n ck th hh a1 a2 a3 a4 a5 a6 a7 a8 a9 b0 b1 b2 b3 b4 b5 b6 b7 b8 b9 b10 (vp_updL og 0 ((1 : Int32).toInt64)) fo ad eu (va_up es k (.inr (3, [.ref (au u), .int (b0 k), .long (lN sec), .int (b3 k), .int 1, .long (lN f), .long (lN (sv_ny (b0 k) sec rc)), .long (sv_ky (nI u) (b0 k) sec f (sv_ny (b0 k) sec rc) rc), .long (cf_c (sv_ky (nI u) (b0 k) sec f (sv_ny (b0 k) sec rc) rc) f (sv_ny (b0 k) sec rc)), .long (cf_s (sv_ky (nI u) (b0 k) sec f (sv_ny (b0 k) sec rc) rc) (cf_c (sv_ky (nI u) (b0 k) sec f (sv_ny (b0 k) sec rc) rc) f (sv_ny (b0 k) sec rc))), .long (lN (sv_ny (b0 k) sec rc)), .long (lN rc)])))) : va_W) := (ws_k rfl (ws_k rfl (ws_c (lw_ss rfl) (ws_k (lw_u rfl hu8 heu) (ws_c (ws' := ([(hm, .inr (4, [.int th, .long ns.toInt64, .int ck, .long hh, .ref (qa 1), .ref (qa 2), .ref (qa 3), .ref (qa 4), .ref (qa 5), .ref (qa 6), .ref (qa 7), .ref (qa 8), .int (nI n), .ref (qa 9), .ref (qa 10), .ref (qa 11), .ref (qa 12), .ref (qa 13), .ref (qa 14), .ref (qa 15), .ref (qa 16), .ref (qa 17), .ref (qa 18), .ref (qa 19), .ref (qa 20)])), ((qa 1), .inl ((ct 0), 8, .inl a1)), ((qa 2), .inl ((ct 1), 8, .inr (.inl a2))), ((qa 3), .inl ((ct 1), 8, .inr (.inl a3))), ((qa 4), .inl ((ct 1), 8, .inr (.inl a4))), ((qa 5), .inl ((ct 0), 8, .inl a5)), ((qa 6), .inl ((ct 0), 8, .inl a6)), ((qa 7), .inl ((ct 0), 8, .inl a7)), ((qa 8), .inl ((ct 0), 8, .inl a8)), ((qa 9), .inl ((ct 2), 40, .inl a9)), ((qa 10), .inl ((ct 0), 40, .inl b0)), ((qa 11), .inl ((ct 0), 40, .inl b1)), ((qa 12), .inl ((ct 0), 40, .inl b2)), ((qa 13), .inl ((ct 0), 40, .inl b3)), ((qa 14), .inl ((ct 1), 40, .inr (.inl b4))), ((qa 15), .inl ((ct 1), 40, .inr (.inl b5))), ((qa 16), .inl ((ct 1), 40, .inr (.inl b6))), ((qa 17), .inl ((ct 1), 40, .inr (.inl b7))), ((qa 18), .inl ((ct 1), 40, .inr (.inl b8))), ((qa 19), .inl ((ct 1), 40, .inr (.inl b9))), ((qa 20), .inl ((ct 1), 40, .inr (.inl b10))), (qo, .inl ((ct 1), 1, .inr (.inl (vp_updL og 0 ((1 : Int32).toInt64))))), (hd, .inr (0, [.ref us, .ref op, .int (nI n), .int ck])), (us, .inl ((ct 3), 8, .inr (.inr (.inr (.inr fu))))), (op, .inl ((ct 4), 40, .inr (.inr (.inr (.inr fo)))))] ++ (ix_w 8 au eu ++ ix_w n ad (va_up es k (.inr (3, [.ref (au u), .int (b0 k), .long (lN sec), .int (b3 k), .int 1, .long (lN f), .long (lN (sv_ny (b0 k) sec rc)), .long (sv_ky (nI u) (b0 k) sec f (sv_ny (b0 k) sec rc) rc), .long (cf_c (sv_ky (nI u) (b0 k) sec f (sv_ny (b0 k) sec rc) rc) f (sv_ny (b0 k) sec rc)), .long (cf_s (sv_ky (nI u) (b0 k) sec f (sv_ny (b0 k) sec rc) rc) (cf_c (sv_ky (nI u) (b0 k) sec f (sv_ny (b0 k) sec rc) rc) f (sv_ny (b0 k) sec rc))), .long (lN (sv_ny (b0 k) sec rc)), .long (lN rc)])))))) rfl rfl)))))
  refine wk_i (sh_run (As := [.ref hd, .int (nI k), .long (lN f), .ref qo]) (rest := []) (hs := [(0, 11, 14, 25), (0, 11, 18, 15), (0, 11, 22, 13), (0, 11, 26, 27)]) ⟨hx, hb, hml, hown, hts⟩ (c_L_receiveFV l G ct H.size hd us op n ck fo k (ad k) (au u) (b0 k) sec (b3 k) (b2 k) x y (b9 k) c1 c2 (b10 k) rc (nI u) ns (a1 u) uo ul uv (a5 u) (a6 u) (a7 u) (a8 u) f qo og d_hn d_hkn d_hfo d_hst d_hs1 d_hq1 d_hp1 d_hn1 d_hrt) wk_ret ⟨hw, ww_417, ww_0, ⟨by decide, by decide⟩, np_L_receive, ww_415, ww_416, rfl, rfl, Nat.le_of_ble_eq_true rfl, Nat.le_of_ble_eq_true rfl⟩ (wk_pre hPc hK hDc) rfl hl.1 rfl (lv_room (Nat.le_of_ble_eq_true rfl)) d_L_law_623 ⟨by omega, by omega⟩) hP hD hS hA [22, 24, 25 + (8 + k), 25 + u, 21] hn9 hC9 (fun _ => by simp only [List.map_cons, List.map_nil]) (fun _ H locs _ hP hD hS => ?_)
  have hP : va_P G classes (lw_W ct hd us op hm qo qa fu au ns n ck n ck th hh a1 a2 a3 a4 a5 a6 a7 a8 a9 b0 b1 b2 b3 b4 b5 b6 b7 b8 b9 b10 (vp_updL og 0 ((1 : Int32).toInt64)) fo ad eu (va_up es k (.inr (3, [.ref (au u), .int (b0 k), .long (lN sec), .int (b3 k), .int 1, .long (lN f), .long (lN (sv_ny (b0 k) sec rc)), .long (sv_ky (nI u) (b0 k) sec f (sv_ny (b0 k) sec rc) rc), .long (cf_c (sv_ky (nI u) (b0 k) sec f (sv_ny (b0 k) sec rc) rc) f (sv_ny (b0 k) sec rc)), .long (cf_s (sv_ky (nI u) (b0 k) sec f (sv_ny (b0 k) sec rc) rc) (cf_c (sv_ky (nI u) (b0 k) sec f (sv_ny (b0 k) sec rc) rc) f (sv_ny (b0 k) sec rc))), .long (lN (sv_ny (b0 k) sec rc)), .long (lN rc)])))) H := lp_P hW9 hP
  have hD : va_D A (lw_W ct hd us op hm qo qa fu au ns n ck n ck th hh a1 a2 a3 a4 a5 a6 a7 a8 a9 b0 b1 b2 b3 b4 b5 b6 b7 b8 b9 b10 (vp_updL og 0 ((1 : Int32).toInt64)) fo ad eu (va_up es k (.inr (3, [.ref (au u), .int (b0 k), .long (lN sec), .int (b3 k), .int 1, .long (lN f), .long (lN (sv_ny (b0 k) sec rc)), .long (sv_ky (nI u) (b0 k) sec f (sv_ny (b0 k) sec rc) rc), .long (cf_c (sv_ky (nI u) (b0 k) sec f (sv_ny (b0 k) sec rc) rc) f (sv_ny (b0 k) sec rc)), .long (cf_s (sv_ky (nI u) (b0 k) sec f (sv_ny (b0 k) sec rc) rc) (cf_c (sv_ky (nI u) (b0 k) sec f (sv_ny (b0 k) sec rc) rc) f (sv_ny (b0 k) sec rc))), .long (lN (sv_ny (b0 k) sec rc)), .long (lN rc)])))) := lp_D hW9 hD
  refine lv_istore (lv' := [(5, .int 0), (4, .int (nI iv)), (3, .ref qo), (2, .ref hm), (1, .ref hd), (0, .ref b)]) hx hb d_L_law_626 hl (Nat.le_of_ble_eq_true rfl) rfl (fun ls hl => ?_)
  refine lv_aload_n hx hb d_L_law_628 rfl (lv_at hl 3 rfl) ?_
  refine lv_aload_n hx hb d_L_law_629 rfl (lv_at hl 5 rfl) ?_
  refine lv_iload hx hb d_L_law_630 (lv_at hl 1 rfl) ?_
  refine lv_iconst (v := 1) hx hb d_L_law_632 (by decide) ?_
  refine lv_iadd hx hb d_L_law_633 ?_
  refine sl_ld (j := iv) (d := 1) hx hb hX hbl hbA hS hL (by omega) d_L_law_634 ?_
  refine tp_i (hv1) ?_
  refine lv_aload_n hx hb d_L_law_635 rfl (lv_at hl 5 rfl) ?_
  refine lv_iload hx hb d_L_law_636 (lv_at hl 1 rfl) ?_
  refine lv_iconst (v := 2) hx hb d_L_law_638 (by decide) ?_
  refine lv_iadd hx hb d_L_law_639 ?_
  refine sl_ld (j := iv) (d := 2) hx hb hX hbl hbA hS hL (by omega) d_L_law_640 ?_
  refine lv_i2l (v := (xs (iv + 2)).toInt64) hx hb d_L_law_641 rfl ?_
  refine lv_bipush (v := 32) hx hb d_L_law_642 (by decide) ?_
  refine lv_lshl (v := ((xs (iv + 2)).toInt64) <<< ((32 : Int32).toInt64 &&& 63)) hx hb d_L_law_644 rfl ?_
  refine lv_aload_n hx hb d_L_law_645 rfl (lv_at hl 5 rfl) ?_
  refine lv_iload hx hb d_L_law_646 (lv_at hl 1 rfl) ?_
  refine lv_iconst (v := 3) hx hb d_L_law_648 (by decide) ?_
  refine lv_iadd hx hb d_L_law_649 ?_
  refine sl_ld (j := iv) (d := 3) hx hb hX hbl hbA hS hL (by omega) d_L_law_650 ?_
  refine lv_i2l (v := (xs (iv + 3)).toInt64) hx hb d_L_law_651 rfl ?_
  refine lv_ldc2 (v := 4294967295) hx hb hown (hw _ ww_884) d_L_law_652 ?_
  refine lv_land hx hb d_L_law_655 ?_
  refine lv_lor hx hb d_L_law_656 ?_
  refine tp_l (rfl) ?_
  refine tp_l (hv2) ?_
  have hPc : va_P G classes [(hm, .inr (4, [.int th, .long ns.toInt64, .int ck, .long hh, .ref (qa 1), .ref (qa 2), .ref (qa 3), .ref (qa 4), .ref (qa 5), .ref (qa 6), .ref (qa 7), .ref (qa 8), .int (nI n), .ref (qa 9), .ref (qa 10), .ref (qa 11), .ref (qa 12), .ref (qa 13), .ref (qa 14), .ref (qa 15), .ref (qa 16), .ref (qa 17), .ref (qa 18), .ref (qa 19), .ref (qa 20)])), ((qa 1), .inl ((ct 0), 8, .inl a1)), ((qa 3), .inl ((ct 1), 8, .inr (.inl a3))), ((qa 9), .inl ((ct 2), 40, .inl a9)), ((qa 10), .inl ((ct 0), 40, .inl b0)), ((qa 11), .inl ((ct 0), 40, .inl b1)), ((qa 12), .inl ((ct 0), 40, .inl b2)), ((qa 13), .inl ((ct 0), 40, .inl b3)), ((qa 14), .inl ((ct 1), 40, .inr (.inl b4))), ((qa 15), .inl ((ct 1), 40, .inr (.inl b5))), ((qa 16), .inl ((ct 1), 40, .inr (.inl b6))), ((qa 17), .inl ((ct 1), 40, .inr (.inl b7))), ((qa 18), .inl ((ct 1), 40, .inr (.inl b8))), ((qa 19), .inl ((ct 1), 40, .inr (.inl b9))), ((qa 20), .inl ((ct 1), 40, .inr (.inl b10)))] H := hP.sub [0, 1, 3, 9, 10, 11, 12, 13, 14, 15, 16, 17, 18, 19, 20] rfl
  have hDc := hD.sub (ws' := [(hm, .inr (4, [.int th, .long ns.toInt64, .int ck, .long hh, .ref (qa 1), .ref (qa 2), .ref (qa 3), .ref (qa 4), .ref (qa 5), .ref (qa 6), .ref (qa 7), .ref (qa 8), .int (nI n), .ref (qa 9), .ref (qa 10), .ref (qa 11), .ref (qa 12), .ref (qa 13), .ref (qa 14), .ref (qa 15), .ref (qa 16), .ref (qa 17), .ref (qa 18), .ref (qa 19), .ref (qa 20)])), ((qa 1), .inl ((ct 0), 8, .inl a1)), ((qa 3), .inl ((ct 1), 8, .inr (.inl a3))), ((qa 9), .inl ((ct 2), 40, .inl a9)), ((qa 10), .inl ((ct 0), 40, .inl b0)), ((qa 11), .inl ((ct 0), 40, .inl b1)), ((qa 12), .inl ((ct 0), 40, .inl b2)), ((qa 13), .inl ((ct 0), 40, .inl b3)), ((qa 14), .inl ((ct 1), 40, .inr (.inl b4))), ((qa 15), .inl ((ct 1), 40, .inr (.inl b5))), ((qa 16), .inl ((ct 1), 40, .inr (.inl b6))), ((qa 17), .inl ((ct 1), 40, .inr (.inl b7))), ((qa 18), .inl ((ct 1), 40, .inr (.inl b8))), ((qa 19), .inl ((ct 1), 40, .inr (.inl b9))), ((qa 20), .inl ((ct 1), 40, .inr (.inl b10)))]) [0, 1, 3, 9, 10, 11, 12, 13, 14, 15, 16, 17, 18, 19, 20] (by decide) rfl
  refine wk_i (va_runV (As := [.int (nI k), .long (lN f)]) (rest := []) ⟨hx, hb, hml, hown, hts⟩ (c_M_receive_MWV l G ct H.size hm th ns.toInt64 ck hh (qa 1) (qa 2) (qa 3) (qa 4) (qa 5) (qa 6) (qa 7) (qa 8) (qa 9) (qa 10) (qa 11) (qa 12) (qa 13) (qa 14) (qa 15) (qa 16) (qa 17) (qa 18) (qa 19) (qa 20) n a1 a3 a9 b0 b1 b2 b3 b4 b5 b6 b7 b8 b9 b10 k rc u sec f m_hn m_hkn m_hst m_hsv m_hrc m_hse m_hs1 m_hu m_hf1 m_hr0 m_hr1 m_hw0 m_hrt) (tb_V hw cy_M_receive ww_804 ww_805 ww_806 rfl rfl ⟨Nat.le_of_ble_eq_true rfl, Nat.le_of_ble_eq_true rfl⟩) (wk_preV (ci := 4) (q0 := 0) hPc hK hDc rfl rfl) rfl rfl hl.1 rfl (lv_room (Nat.le_of_ble_eq_true rfl)) d_L_law_657 ⟨by omega, by omega⟩) hP hD hS hA [0, 1, 3, 9, 10, 11, 12, 13, 14, 15, 16, 17, 18, 19, 20] (by decide) rfl (fun _ => by simp only [List.map_cons, List.map_nil]) (fun z21160 H locs ok1161 hP hD hS => ?_)
  have hP : va_P G classes (lw_W ct hd us op hm qo qa fu au ns n ck n ck 0 z21160 a1 a2 a3 a4 a5 a6 a7 a8 a9 b0 b1 (upd b2 k 1) b3 b4 b5 b6 (vp_updL b7 k (lN f)) (vp_updL b8 k (lN (pw_m 4 sec * pw_m 25 rc % pq_P))) (vp_updL b9 k (ky_w (nI u) f (pw_m 4 sec * pw_m 25 rc % pq_P) (pw_m (sv_um rc f) sec) rc)) (vp_updL b10 k (lN (pw_m 4 sec * pw_m 25 rc % pq_P))) (vp_updL og 0 ((1 : Int32).toInt64)) fo ad eu (va_up es k (.inr (3, [.ref (au u), .int (b0 k), .long (lN sec), .int (b3 k), .int 1, .long (lN f), .long (lN (sv_ny (b0 k) sec rc)), .long (sv_ky (nI u) (b0 k) sec f (sv_ny (b0 k) sec rc) rc), .long (cf_c (sv_ky (nI u) (b0 k) sec f (sv_ny (b0 k) sec rc) rc) f (sv_ny (b0 k) sec rc)), .long (cf_s (sv_ky (nI u) (b0 k) sec f (sv_ny (b0 k) sec rc) rc) (cf_c (sv_ky (nI u) (b0 k) sec f (sv_ny (b0 k) sec rc) rc) f (sv_ny (b0 k) sec rc))), .long (lN (sv_ny (b0 k) sec rc)), .long (lN rc)])))) H := hP
  have hD : va_D A (lw_W ct hd us op hm qo qa fu au ns n ck n ck 0 z21160 a1 a2 a3 a4 a5 a6 a7 a8 a9 b0 b1 (upd b2 k 1) b3 b4 b5 b6 (vp_updL b7 k (lN f)) (vp_updL b8 k (lN (pw_m 4 sec * pw_m 25 rc % pq_P))) (vp_updL b9 k (ky_w (nI u) f (pw_m 4 sec * pw_m 25 rc % pq_P) (pw_m (sv_um rc f) sec) rc)) (vp_updL b10 k (lN (pw_m 4 sec * pw_m 25 rc % pq_P))) (vp_updL og 0 ((1 : Int32).toInt64)) fo ad eu (va_up es k (.inr (3, [.ref (au u), .int (b0 k), .long (lN sec), .int (b3 k), .int 1, .long (lN f), .long (lN (sv_ny (b0 k) sec rc)), .long (sv_ky (nI u) (b0 k) sec f (sv_ny (b0 k) sec rc) rc), .long (cf_c (sv_ky (nI u) (b0 k) sec f (sv_ny (b0 k) sec rc) rc) f (sv_ny (b0 k) sec rc)), .long (cf_s (sv_ky (nI u) (b0 k) sec f (sv_ny (b0 k) sec rc) rc) (cf_c (sv_ky (nI u) (b0 k) sec f (sv_ny (b0 k) sec rc) rc) f (sv_ny (b0 k) sec rc))), .long (lN (sv_ny (b0 k) sec rc)), .long (lN rc)])))) := hD
  refine lv_istore (lv' := [(6, .int 1), (5, .int 0), (4, .int (nI iv)), (3, .ref qo), (2, .ref hm), (1, .ref hd), (0, .ref b)]) hx hb d_L_law_660 hl (Nat.le_of_ble_eq_true rfl) rfl (fun ls hl => ?_)
  refine lv_aload_n hx hb d_L_law_662 rfl (lv_at hl 4 rfl) ?_
  have hPc : va_P G classes [(hm, .inr (4, [.int 0, .long ns.toInt64, .int ck, .long z21160, .ref (qa 1), .ref (qa 2), .ref (qa 3), .ref (qa 4), .ref (qa 5), .ref (qa 6), .ref (qa 7), .ref (qa 8), .int (nI n), .ref (qa 9), .ref (qa 10), .ref (qa 11), .ref (qa 12), .ref (qa 13), .ref (qa 14), .ref (qa 15), .ref (qa 16), .ref (qa 17), .ref (qa 18), .ref (qa 19), .ref (qa 20)]))] H := hP.sub [0] rfl
  have hDc := hD.sub (ws' := [(hm, .inr (4, [.int 0, .long ns.toInt64, .int ck, .long z21160, .ref (qa 1), .ref (qa 2), .ref (qa 3), .ref (qa 4), .ref (qa 5), .ref (qa 6), .ref (qa 7), .ref (qa 8), .int (nI n), .ref (qa 9), .ref (qa 10), .ref (qa 11), .ref (qa 12), .ref (qa 13), .ref (qa 14), .ref (qa 15), .ref (qa 16), .ref (qa 17), .ref (qa 18), .ref (qa 19), .ref (qa 20)]))]) [0] (by decide) rfl
  refine vp_callSi (W.runV (As := []) (rest := []) ⟨hx, hb, hml, hown, hts⟩ (c_M_thrown l G ct H.size hm 0 ns.toInt64 ck z21160 (qa 1) (qa 2) (qa 3) (qa 4) (qa 5) (qa 6) (qa 7) (qa 8) (qa 9) (qa 10) (qa 11) (qa 12) (qa 13) (qa 14) (qa 15) (qa 16) (qa 17) (qa 18) (qa 19) (qa 20) n) (tb_V hw cy_M_thrown ww_719 ww_720 ww_721 rfl rfl ⟨Nat.le_of_ble_eq_true rfl, Nat.le_of_ble_eq_true rfl⟩) (wk_preV (ci := 4) (q0 := 0) hPc hK hDc rfl rfl) rfl rfl hl.1 rfl (lv_room (Nat.le_of_ble_eq_true rfl)) d_L_law_663 ⟨by omega, by omega⟩) (fun r1162 er1162 => ?_)
  subst er1162
  refine lv_iload hx hb d_L_law_666 (lv_at hl 1 rfl) ?_
  refine lv_icmp_eq (tgt := 673) hx hb d_L_law_668 (by decide) (fun h1163 => ?_) (fun h1163 => ?_)
  · refine lv_iload hx hb d_L_law_673 (lv_at hl 1 rfl) ?_
    refine lv_if_ne (tgt := 690) hx hb d_L_law_675 (by decide) (fun h1164 => ?_) (fun h1164 => ?_)
    · exact absurd h1164 (by decide)
    · refine lv_aload_n hx hb d_L_law_678 rfl (lv_at hl 3 rfl) ?_
      refine lv_iconst (v := 0) hx hb d_L_law_679 (by decide) ?_
      refine ra_ll hx hb hK.1 hP 21 1 rfl rfl (k := 0) (by omega) (by decide) d_L_law_680 ?_
      refine tp_l (ul_se _ _ _) ?_
      refine lv_iload hx hb d_L_law_681 (lv_at hl 0 rfl) ?_
      refine lv_i2l (v := (1 : Int32).toInt64) hx hb d_L_law_683 rfl ?_
      refine W.lcmp hx hb d_L_law_684 ?_
      refine lv_if_eq (tgt := 690) hx hb d_L_law_685 (by decide) (fun h1165 => ?_) (fun h1165 => ?_)
      · have h1165 := (lg_cmp_eq _ _).mp h1165
        refine lv_goto (tgt := 1005) hx hb d_L_law_690 (by decide) ?_
        refine W.widen (k := cells + 1) (n := slots + 13) (by omega) (by omega) ?_
        exact kk n ck 0 z21160 a1 a2 a3 a4 a5 a6 a7 a8 a9 b0 b1 (upd b2 k 1) b3 b4 b5 b6 (vp_updL b7 k (lN f)) (vp_updL b8 k (lN (pw_m 4 sec * pw_m 25 rc % pq_P))) (vp_updL b9 k (ky_w (nI u) f (pw_m 4 sec * pw_m 25 rc % pq_P) (pw_m (sv_um rc f) sec) rc)) (vp_updL b10 k (lN (pw_m 4 sec * pw_m 25 rc % pq_P))) (vp_updL og 0 ((1 : Int32).toInt64)) fo ad eu (va_up es k (.inr (3, [.ref (au u), .int (b0 k), .long (lN sec), .int (b3 k), .int 1, .long (lN f), .long (lN (sv_ny (b0 k) sec rc)), .long (sv_ky (nI u) (b0 k) sec f (sv_ny (b0 k) sec rc) rc), .long (cf_c (sv_ky (nI u) (b0 k) sec f (sv_ny (b0 k) sec rc) rc) f (sv_ny (b0 k) sec rc)), .long (cf_s (sv_ky (nI u) (b0 k) sec f (sv_ny (b0 k) sec rc) rc) (cf_c (sv_ky (nI u) (b0 k) sec f (sv_ny (b0 k) sec rc) rc) f (sv_ny (b0 k) sec rc))), .long (lN (sv_ny (b0 k) sec rc)), .long (lN rc)]))) H locs _ hnew hP hD hS (lv_sub hl [2, 3, 4, 5, 6] rfl)
      · have h1165 := fun q => h1165 ((lg_cmp_eq _ _).mpr q)
        exact absurd rfl h1165
  · exact absurd h1163 (by decide)
set_option maxHeartbeats 4000000 in
set_option maxRecDepth 100000 in
theorem lq_receiveFV_MSV {k : Nat} {u : Nat} {sec : Nat} {x : Nat} {y : Nat} {rc : Nat} {c1 : Int64} {c2 : Int64} {uo : Nat} {ul : Int64} {uv : Nat} {f : Nat} (C0 : lc_C p l s m meth c b L xs G ct A) (hiv : iv + 7 ≤ L) (hcc : cells + 1 ≤ room_1.cells) (hzz : slots + 13 ≤ room_1.slots)
    (hP : va_P G classes (lw_W ct hd us op hm qo qa fu au ns n ck n ck th hh a1 a2 a3 a4 a5 a6 a7 a8 a9 b0 b1 b2 b3 b4 b5 b6 b7 b8 b9 b10 og fo ad eu es) H) (hD : va_D A (lw_W ct hd us op hm qo qa fu au ns n ck n ck th hh a1 a2 a3 a4 a5 a6 a7 a8 a9 b0 b1 b2 b3 b4 b5 b6 b7 b8 b9 b10 og fo ad eu es)) (hS : va_S A s.heap H locs) (hl : lv_has ls 8 [(4, .int (nI iv)), (3, .ref qo), (2, .ref hm), (1, .ref hd), (0, .ref b)])
    (kk : lc_K p l e s m below meth c b L xs G ct A hd us op hm qo qa fu au ns iv (cells + 1) (slots + 13) Q)
    (hv1 : xs (iv + 1) = nI k) (hv2 : lj (xs (iv + 2)) (xs (iv + 3)) = lN f) (hkn : k < n) (hes : es k = .inr (3, [.ref (au u), .int (b0 k), .long (lN sec), .int (b3 k), .int (b2 k), .long (lN x), .long (lN y), .long (b9 k), .long c1, .long c2, .long (b10 k), .long (lN rc)])) (hu8 : u < 8) (heu : eu u = .inr (1, [.int (nI u), .int ns, .int (a1 u), .long (lN uo), .long ul, .long (lN uv), .int (a5 u), .int (a6 u), .int (a7 u), .int (a8 u)])) (d_hn : n ≤ 40) (d_hkn : k < n) (d_hfo : fo k = some (ad k)) (d_hst : se_at (b2 k) (b3 k) ck = 0) (d_hs1 : sec < pq_Q) (d_hq1 : ¬ (b0 k) = 1 → 1 ≤ rc ∧ rc < pq_Q) (d_hp1 : rc < pq_P) (d_hn1 : f < pq_P) (d_hrt : rt_v (b0 k) rc (lN f)) (m_hn : n ≤ 40) (m_hkn : k < n) (m_hst : sm_at (b2 k) (b3 k) ck = 0) (m_hsv : a9 k = 1) (m_hrc : b6 k = lN rc) (m_hse : b4 k = lN sec) (m_hs1 : sec < pq_Q) (m_hu : b1 k = nI u) (m_hf1 : f < pq_P) (m_hw1 : b0 k = 1) (m_hp1 : rc < pq_P) (m_hrt : rt_v (b0 k) rc (lN f))  (hnew : li_R fu au ns n a1 a2 a3 a4 a5 a6 a7 a8 a9 b0 b1 (upd b2 k 1) b3 b4 b5 b6 (vp_updL b7 k (lN f)) (vp_updL b8 k (lN ((3 * rc + pw_m 4 sec) % pq_P))) (vp_updL b9 k (ky_s (nI u) f ((3 * rc + pw_m 4 sec) % pq_P) (sv_cm sec rc f (bl_n f ((3 * rc + pw_m 4 sec) % pq_P))))) (vp_updL b10 k (lN ((3 * rc + pw_m 4 sec) % pq_P))) fo ad eu (va_up es k (.inr (3, [.ref (au u), .int (b0 k), .long (lN sec), .int (b3 k), .int 1, .long (lN f), .long (lN (sv_ny (b0 k) sec rc)), .long (sv_ky (nI u) (b0 k) sec f (sv_ny (b0 k) sec rc) rc), .long (cf_c (sv_ky (nI u) (b0 k) sec f (sv_ny (b0 k) sec rc) rc) f (sv_ny (b0 k) sec rc)), .long (cf_s (sv_ky (nI u) (b0 k) sec f (sv_ny (b0 k) sec rc) rc) (cf_c (sv_ky (nI u) (b0 k) sec f (sv_ny (b0 k) sec rc) rc) f (sv_ny (b0 k) sec rc))), .long (lN (sv_ny (b0 k) sec rc)), .long (lN rc)]))))  : W p l e room_1 s m #[Value.ref b] below meth c H locs cells slots Q (F0 m 593 ls []) := by
  obtain ⟨hx, hb, hr, hml, hown, hw, hK, hZ, hR, hN, hfl, hA, hbA, hX, hbl, hL, hlocks⟩ := C0
  have hts := hw
  have hP : va_P G classes (lw_W ct hd us op hm qo qa fu au ns n ck n ck th hh a1 a2 a3 a4 a5 a6 a7 a8 a9 b0 b1 b2 b3 b4 b5 b6 b7 b8 b9 b10 og fo ad eu es) H := hP
  have hD : va_D A (lw_W ct hd us op hm qo qa fu au ns n ck n ck th hh a1 a2 a3 a4 a5 a6 a7 a8 a9 b0 b1 b2 b3 b4 b5 b6 b7 b8 b9 b10 og fo ad eu es) := hD
  refine lv_aload_n hx hb d_L_law_593 rfl (lv_at hl 3 rfl) ?_
  refine lv_aload_n hx hb d_L_law_594 rfl (lv_at hl 4 rfl) ?_
  refine lv_iload hx hb d_L_law_595 (lv_at hl 0 rfl) ?_
  refine lv_iconst (v := 1) hx hb d_L_law_597 (by decide) ?_
  refine lv_iadd hx hb d_L_law_598 ?_
  refine sl_ld (j := iv) (d := 1) hx hb hX hbl hbA hS hL (by omega) d_L_law_599 ?_
  refine tp_i (hv1) ?_
  refine lv_aload_n hx hb d_L_law_600 rfl (lv_at hl 4 rfl) ?_
  refine lv_iload hx hb d_L_law_601 (lv_at hl 0 rfl) ?_
  refine lv_iconst (v := 2) hx hb d_L_law_603 (by decide) ?_
  refine lv_iadd hx hb d_L_law_604 ?_
  refine sl_ld (j := iv) (d := 2) hx hb hX hbl hbA hS hL (by omega) d_L_law_605 ?_
  refine lv_i2l (v := (xs (iv + 2)).toInt64) hx hb d_L_law_606 rfl ?_
  refine lv_bipush (v := 32) hx hb d_L_law_607 (by decide) ?_
  refine lv_lshl (v := ((xs (iv + 2)).toInt64) <<< ((32 : Int32).toInt64 &&& 63)) hx hb d_L_law_609 rfl ?_
  refine lv_aload_n hx hb d_L_law_610 rfl (lv_at hl 4 rfl) ?_
  refine lv_iload hx hb d_L_law_611 (lv_at hl 0 rfl) ?_
  refine lv_iconst (v := 3) hx hb d_L_law_613 (by decide) ?_
  refine lv_iadd hx hb d_L_law_614 ?_
  refine sl_ld (j := iv) (d := 3) hx hb hX hbl hbA hS hL (by omega) d_L_law_615 ?_
  refine lv_i2l (v := (xs (iv + 3)).toInt64) hx hb d_L_law_616 rfl ?_
  refine lv_ldc2 (v := 4294967295) hx hb hown (hw _ ww_884) d_L_law_617 ?_
  refine lv_land hx hb d_L_law_620 ?_
  refine lv_lor hx hb d_L_law_621 ?_
  refine tp_l (rfl) ?_
  refine tp_l (hv2) ?_
  refine lv_aload_n hx hb d_L_law_622 rfl (lv_at hl 1 rfl) ?_
  have hC9 : List.map (fun i => ((lw_W ct hd us op hm qo qa fu au ns n ck n ck th hh a1 a2 a3 a4 a5 a6 a7 a8 a9 b0 b1 b2 b3 b4 b5 b6 b7 b8 b9 b10 og fo ad eu es) : va_W)[i]?) [22, 24, 25 + (8 + k), 25 + u, 21] = List.map some ([(hd, .inr (0, [.ref us, .ref op, .int (nI n), .int ck])), (op, .inl ((ct 4), 40, .inr (.inr (.inr (.inr fo))))), ((ad k), .inr (3, [.ref (au u), .int (b0 k), .long (lN sec), .int (b3 k), .int (b2 k), .long (lN x), .long (lN y), .long (b9 k), .long c1, .long c2, .long (b10 k), .long (lN rc)])), ((au u), .inr (1, [.int (nI u), .int ns, .int (a1 u), .long (lN uo), .long ul, .long (lN uv), .int (a5 u), .int (a6 u), .int (a7 u), .int (a8 u)])), (qo, .inl ((ct 1), 1, .inr (.inl og)))] : va_W) := (wc_c rfl (wc_c rfl (wc_c (lw_s rfl hkn hes) (wc_c (lw_u rfl hu8 heu) (wc_c rfl rfl)))))
  have hn9 : va_nd [22, 24, 25 + (8 + k), 25 + u, 21] = true := (nd_c (by simp only [List.mem_cons, List.not_mem_nil, or_false]; omega) (nd_c (by simp only [List.mem_cons, List.not_mem_nil, or_false]; omega) (nd_c (by simp only [List.mem_cons, List.not_mem_nil, or_false]; omega) (nd_c (by simp only [List.mem_cons, List.not_mem_nil, or_false]; omega) (nd_c List.not_mem_nil rfl)))))
  have hPc : va_P G classes [(hd, .inr (0, [.ref us, .ref op, .int (nI n), .int ck])), (op, .inl ((ct 4), 40, .inr (.inr (.inr (.inr fo))))), ((ad k), .inr (3, [.ref (au u), .int (b0 k), .long (lN sec), .int (b3 k), .int (b2 k), .long (lN x), .long (lN y), .long (b9 k), .long c1, .long c2, .long (b10 k), .long (lN rc)])), ((au u), .inr (1, [.int (nI u), .int ns, .int (a1 u), .long (lN uo), .long ul, .long (lN uv), .int (a5 u), .int (a6 u), .int (a7 u), .int (a8 u)])), (qo, .inl ((ct 1), 1, .inr (.inl og)))] H := lp_sub hP [22, 24, 25 + (8 + k), 25 + u, 21] hC9
  have hDc := hD.sub (ws' := [(hd, .inr (0, [.ref us, .ref op, .int (nI n), .int ck])), (op, .inl ((ct 4), 40, .inr (.inr (.inr (.inr fo))))), ((ad k), .inr (3, [.ref (au u), .int (b0 k), .long (lN sec), .int (b3 k), .int (b2 k), .long (lN x), .long (lN y), .long (b9 k), .long c1, .long c2, .long (b10 k), .long (lN rc)])), ((au u), .inr (1, [.int (nI u), .int ns, .int (a1 u), .long (lN uo), .long ul, .long (lN uv), .int (a5 u), .int (a6 u), .int (a7 u), .int (a8 u)])), (qo, .inl ((ct 1), 1, .inr (.inl og)))]) [22, 24, 25 + (8 + k), 25 + u, 21] hn9 hC9
  have hW9 : wk_sets ((lw_W ct hd us op hm qo qa fu au ns n ck n ck th hh a1 a2 a3 a4 a5 a6 a7 a8 a9 b0 b1 b2 b3 b4 b5 b6 b7 b8 b9 b10 og fo ad eu es) : va_W) [22, 24, 25 + (8 + k), 25 + u, 21] ([(hd, .inr (0, [.ref us, .ref op, .int (nI n), .int ck])), (op, .inl ((ct 4), 40, .inr (.inr (.inr (.inr fo))))), ((ad k), .inr (3, [.ref (au u), .int (b0 k), .long (lN sec), .int (b3 k), .int 1, .long (lN f), .long (lN (sv_ny (b0 k) sec rc)), .long (sv_ky (nI u) (b0 k) sec f (sv_ny (b0 k) sec rc) rc), .long (cf_c (sv_ky (nI u) (b0 k) sec f (sv_ny (b0 k) sec rc) rc) f (sv_ny (b0 k) sec rc)), .long (cf_s (sv_ky (nI u) (b0 k) sec f (sv_ny (b0 k) sec rc) rc) (cf_c (sv_ky (nI u) (b0 k) sec f (sv_ny (b0 k) sec rc) rc) f (sv_ny (b0 k) sec rc))), .long (lN (sv_ny (b0 k) sec rc)), .long (lN rc)])), ((au u), .inr (1, [.int (nI u), .int ns, .int (a1 u), .long (lN uo), .long ul, .long (lN uv), .int (a5 u), .int (a6 u), .int (a7 u), .int (a8 u)])), (qo, .inl ((ct 1), 1, .inr (.inl (vp_updL og 0 ((1 : Int32).toInt64)))))] : va_W) = ((lw_W ct hd us op hm qo qa fu au ns n ck n ck th hh a1 a2 a3 a4 a5 a6 a7 a8 a9 b0 b1 b2 b3 b4 b5 b6 b7 b8 b9 b10 (vp_updL og 0 ((1 : Int32).toInt64)) fo ad eu (va_up es k (.inr (3, [.ref (au u), .int (b0 k), .long (lN sec), .int (b3 k), .int 1, .long (lN f), .long (lN (sv_ny (b0 k) sec rc)), .long (sv_ky (nI u) (b0 k) sec f (sv_ny (b0 k) sec rc) rc), .long (cf_c (sv_ky (nI u) (b0 k) sec f (sv_ny (b0 k) sec rc) rc) f (sv_ny (b0 k) sec rc)), .long (cf_s (sv_ky (nI u) (b0 k) sec f (sv_ny (b0 k) sec rc) rc) (cf_c (sv_ky (nI u) (b0 k) sec f (sv_ny (b0 k) sec rc) rc) f (sv_ny (b0 k) sec rc))), .long (lN (sv_ny (b0 k) sec rc)), .long (lN rc)])))) : va_W) := (ws_k rfl (ws_k rfl (ws_c (lw_ss rfl) (ws_k (lw_u rfl hu8 heu) (ws_c (ws' := ([(hm, .inr (4, [.int th, .long ns.toInt64, .int ck, .long hh, .ref (qa 1), .ref (qa 2), .ref (qa 3), .ref (qa 4), .ref (qa 5), .ref (qa 6), .ref (qa 7), .ref (qa 8), .int (nI n), .ref (qa 9), .ref (qa 10), .ref (qa 11), .ref (qa 12), .ref (qa 13), .ref (qa 14), .ref (qa 15), .ref (qa 16), .ref (qa 17), .ref (qa 18), .ref (qa 19), .ref (qa 20)])), ((qa 1), .inl ((ct 0), 8, .inl a1)), ((qa 2), .inl ((ct 1), 8, .inr (.inl a2))), ((qa 3), .inl ((ct 1), 8, .inr (.inl a3))), ((qa 4), .inl ((ct 1), 8, .inr (.inl a4))), ((qa 5), .inl ((ct 0), 8, .inl a5)), ((qa 6), .inl ((ct 0), 8, .inl a6)), ((qa 7), .inl ((ct 0), 8, .inl a7)), ((qa 8), .inl ((ct 0), 8, .inl a8)), ((qa 9), .inl ((ct 2), 40, .inl a9)), ((qa 10), .inl ((ct 0), 40, .inl b0)), ((qa 11), .inl ((ct 0), 40, .inl b1)), ((qa 12), .inl ((ct 0), 40, .inl b2)), ((qa 13), .inl ((ct 0), 40, .inl b3)), ((qa 14), .inl ((ct 1), 40, .inr (.inl b4))), ((qa 15), .inl ((ct 1), 40, .inr (.inl b5))), ((qa 16), .inl ((ct 1), 40, .inr (.inl b6))), ((qa 17), .inl ((ct 1), 40, .inr (.inl b7))), ((qa 18), .inl ((ct 1), 40, .inr (.inl b8))), ((qa 19), .inl ((ct 1), 40, .inr (.inl b9))), ((qa 20), .inl ((ct 1), 40, .inr (.inl b10))), (qo, .inl ((ct 1), 1, .inr (.inl (vp_updL og 0 ((1 : Int32).toInt64))))), (hd, .inr (0, [.ref us, .ref op, .int (nI n), .int ck])), (us, .inl ((ct 3), 8, .inr (.inr (.inr (.inr fu))))), (op, .inl ((ct 4), 40, .inr (.inr (.inr (.inr fo)))))] ++ (ix_w 8 au eu ++ ix_w n ad (va_up es k (.inr (3, [.ref (au u), .int (b0 k), .long (lN sec), .int (b3 k), .int 1, .long (lN f), .long (lN (sv_ny (b0 k) sec rc)), .long (sv_ky (nI u) (b0 k) sec f (sv_ny (b0 k) sec rc) rc), .long (cf_c (sv_ky (nI u) (b0 k) sec f (sv_ny (b0 k) sec rc) rc) f (sv_ny (b0 k) sec rc)), .long (cf_s (sv_ky (nI u) (b0 k) sec f (sv_ny (b0 k) sec rc) rc) (cf_c (sv_ky (nI u) (b0 k) sec f (sv_ny (b0 k) sec rc) rc) f (sv_ny (b0 k) sec rc))), .long (lN (sv_ny (b0 k) sec rc)), .long (lN rc)])))))) rfl rfl)))))
  refine wk_i (sh_run (As := [.ref hd, .int (nI k), .long (lN f), .ref qo]) (rest := []) (hs := [(0, 11, 14, 25), (0, 11, 18, 15), (0, 11, 22, 13), (0, 11, 26, 27)]) ⟨hx, hb, hml, hown, hts⟩ (c_L_receiveFV l G ct H.size hd us op n ck fo k (ad k) (au u) (b0 k) sec (b3 k) (b2 k) x y (b9 k) c1 c2 (b10 k) rc (nI u) ns (a1 u) uo ul uv (a5 u) (a6 u) (a7 u) (a8 u) f qo og d_hn d_hkn d_hfo d_hst d_hs1 d_hq1 d_hp1 d_hn1 d_hrt) wk_ret ⟨hw, ww_417, ww_0, ⟨by decide, by decide⟩, np_L_receive, ww_415, ww_416, rfl, rfl, Nat.le_of_ble_eq_true rfl, Nat.le_of_ble_eq_true rfl⟩ (wk_pre hPc hK hDc) rfl hl.1 rfl (lv_room (Nat.le_of_ble_eq_true rfl)) d_L_law_623 ⟨by omega, by omega⟩) hP hD hS hA [22, 24, 25 + (8 + k), 25 + u, 21] hn9 hC9 (fun _ => by simp only [List.map_cons, List.map_nil]) (fun _ H locs _ hP hD hS => ?_)
  have hP : va_P G classes (lw_W ct hd us op hm qo qa fu au ns n ck n ck th hh a1 a2 a3 a4 a5 a6 a7 a8 a9 b0 b1 b2 b3 b4 b5 b6 b7 b8 b9 b10 (vp_updL og 0 ((1 : Int32).toInt64)) fo ad eu (va_up es k (.inr (3, [.ref (au u), .int (b0 k), .long (lN sec), .int (b3 k), .int 1, .long (lN f), .long (lN (sv_ny (b0 k) sec rc)), .long (sv_ky (nI u) (b0 k) sec f (sv_ny (b0 k) sec rc) rc), .long (cf_c (sv_ky (nI u) (b0 k) sec f (sv_ny (b0 k) sec rc) rc) f (sv_ny (b0 k) sec rc)), .long (cf_s (sv_ky (nI u) (b0 k) sec f (sv_ny (b0 k) sec rc) rc) (cf_c (sv_ky (nI u) (b0 k) sec f (sv_ny (b0 k) sec rc) rc) f (sv_ny (b0 k) sec rc))), .long (lN (sv_ny (b0 k) sec rc)), .long (lN rc)])))) H := lp_P hW9 hP
  have hD : va_D A (lw_W ct hd us op hm qo qa fu au ns n ck n ck th hh a1 a2 a3 a4 a5 a6 a7 a8 a9 b0 b1 b2 b3 b4 b5 b6 b7 b8 b9 b10 (vp_updL og 0 ((1 : Int32).toInt64)) fo ad eu (va_up es k (.inr (3, [.ref (au u), .int (b0 k), .long (lN sec), .int (b3 k), .int 1, .long (lN f), .long (lN (sv_ny (b0 k) sec rc)), .long (sv_ky (nI u) (b0 k) sec f (sv_ny (b0 k) sec rc) rc), .long (cf_c (sv_ky (nI u) (b0 k) sec f (sv_ny (b0 k) sec rc) rc) f (sv_ny (b0 k) sec rc)), .long (cf_s (sv_ky (nI u) (b0 k) sec f (sv_ny (b0 k) sec rc) rc) (cf_c (sv_ky (nI u) (b0 k) sec f (sv_ny (b0 k) sec rc) rc) f (sv_ny (b0 k) sec rc))), .long (lN (sv_ny (b0 k) sec rc)), .long (lN rc)])))) := lp_D hW9 hD
  refine lv_istore (lv' := [(5, .int 0), (4, .int (nI iv)), (3, .ref qo), (2, .ref hm), (1, .ref hd), (0, .ref b)]) hx hb d_L_law_626 hl (Nat.le_of_ble_eq_true rfl) rfl (fun ls hl => ?_)
  refine lv_aload_n hx hb d_L_law_628 rfl (lv_at hl 3 rfl) ?_
  refine lv_aload_n hx hb d_L_law_629 rfl (lv_at hl 5 rfl) ?_
  refine lv_iload hx hb d_L_law_630 (lv_at hl 1 rfl) ?_
  refine lv_iconst (v := 1) hx hb d_L_law_632 (by decide) ?_
  refine lv_iadd hx hb d_L_law_633 ?_
  refine sl_ld (j := iv) (d := 1) hx hb hX hbl hbA hS hL (by omega) d_L_law_634 ?_
  refine tp_i (hv1) ?_
  refine lv_aload_n hx hb d_L_law_635 rfl (lv_at hl 5 rfl) ?_
  refine lv_iload hx hb d_L_law_636 (lv_at hl 1 rfl) ?_
  refine lv_iconst (v := 2) hx hb d_L_law_638 (by decide) ?_
  refine lv_iadd hx hb d_L_law_639 ?_
  refine sl_ld (j := iv) (d := 2) hx hb hX hbl hbA hS hL (by omega) d_L_law_640 ?_
  refine lv_i2l (v := (xs (iv + 2)).toInt64) hx hb d_L_law_641 rfl ?_
  refine lv_bipush (v := 32) hx hb d_L_law_642 (by decide) ?_
  refine lv_lshl (v := ((xs (iv + 2)).toInt64) <<< ((32 : Int32).toInt64 &&& 63)) hx hb d_L_law_644 rfl ?_
  refine lv_aload_n hx hb d_L_law_645 rfl (lv_at hl 5 rfl) ?_
  refine lv_iload hx hb d_L_law_646 (lv_at hl 1 rfl) ?_
  refine lv_iconst (v := 3) hx hb d_L_law_648 (by decide) ?_
  refine lv_iadd hx hb d_L_law_649 ?_
  refine sl_ld (j := iv) (d := 3) hx hb hX hbl hbA hS hL (by omega) d_L_law_650 ?_
  refine lv_i2l (v := (xs (iv + 3)).toInt64) hx hb d_L_law_651 rfl ?_
  refine lv_ldc2 (v := 4294967295) hx hb hown (hw _ ww_884) d_L_law_652 ?_
  refine lv_land hx hb d_L_law_655 ?_
  refine lv_lor hx hb d_L_law_656 ?_
  refine tp_l (rfl) ?_
  refine tp_l (hv2) ?_
  have hPc : va_P G classes [(hm, .inr (4, [.int th, .long ns.toInt64, .int ck, .long hh, .ref (qa 1), .ref (qa 2), .ref (qa 3), .ref (qa 4), .ref (qa 5), .ref (qa 6), .ref (qa 7), .ref (qa 8), .int (nI n), .ref (qa 9), .ref (qa 10), .ref (qa 11), .ref (qa 12), .ref (qa 13), .ref (qa 14), .ref (qa 15), .ref (qa 16), .ref (qa 17), .ref (qa 18), .ref (qa 19), .ref (qa 20)])), ((qa 1), .inl ((ct 0), 8, .inl a1)), ((qa 3), .inl ((ct 1), 8, .inr (.inl a3))), ((qa 9), .inl ((ct 2), 40, .inl a9)), ((qa 10), .inl ((ct 0), 40, .inl b0)), ((qa 11), .inl ((ct 0), 40, .inl b1)), ((qa 12), .inl ((ct 0), 40, .inl b2)), ((qa 13), .inl ((ct 0), 40, .inl b3)), ((qa 14), .inl ((ct 1), 40, .inr (.inl b4))), ((qa 15), .inl ((ct 1), 40, .inr (.inl b5))), ((qa 16), .inl ((ct 1), 40, .inr (.inl b6))), ((qa 17), .inl ((ct 1), 40, .inr (.inl b7))), ((qa 18), .inl ((ct 1), 40, .inr (.inl b8))), ((qa 19), .inl ((ct 1), 40, .inr (.inl b9))), ((qa 20), .inl ((ct 1), 40, .inr (.inl b10)))] H := hP.sub [0, 1, 3, 9, 10, 11, 12, 13, 14, 15, 16, 17, 18, 19, 20] rfl
  have hDc := hD.sub (ws' := [(hm, .inr (4, [.int th, .long ns.toInt64, .int ck, .long hh, .ref (qa 1), .ref (qa 2), .ref (qa 3), .ref (qa 4), .ref (qa 5), .ref (qa 6), .ref (qa 7), .ref (qa 8), .int (nI n), .ref (qa 9), .ref (qa 10), .ref (qa 11), .ref (qa 12), .ref (qa 13), .ref (qa 14), .ref (qa 15), .ref (qa 16), .ref (qa 17), .ref (qa 18), .ref (qa 19), .ref (qa 20)])), ((qa 1), .inl ((ct 0), 8, .inl a1)), ((qa 3), .inl ((ct 1), 8, .inr (.inl a3))), ((qa 9), .inl ((ct 2), 40, .inl a9)), ((qa 10), .inl ((ct 0), 40, .inl b0)), ((qa 11), .inl ((ct 0), 40, .inl b1)), ((qa 12), .inl ((ct 0), 40, .inl b2)), ((qa 13), .inl ((ct 0), 40, .inl b3)), ((qa 14), .inl ((ct 1), 40, .inr (.inl b4))), ((qa 15), .inl ((ct 1), 40, .inr (.inl b5))), ((qa 16), .inl ((ct 1), 40, .inr (.inl b6))), ((qa 17), .inl ((ct 1), 40, .inr (.inl b7))), ((qa 18), .inl ((ct 1), 40, .inr (.inl b8))), ((qa 19), .inl ((ct 1), 40, .inr (.inl b9))), ((qa 20), .inl ((ct 1), 40, .inr (.inl b10)))]) [0, 1, 3, 9, 10, 11, 12, 13, 14, 15, 16, 17, 18, 19, 20] (by decide) rfl
  refine wk_i (va_runV (As := [.int (nI k), .long (lN f)]) (rest := []) ⟨hx, hb, hml, hown, hts⟩ (c_M_receive_MSV l G ct H.size hm th ns.toInt64 ck hh (qa 1) (qa 2) (qa 3) (qa 4) (qa 5) (qa 6) (qa 7) (qa 8) (qa 9) (qa 10) (qa 11) (qa 12) (qa 13) (qa 14) (qa 15) (qa 16) (qa 17) (qa 18) (qa 19) (qa 20) n a1 a3 a9 b0 b1 b2 b3 b4 b5 b6 b7 b8 b9 b10 k rc u sec f m_hn m_hkn m_hst m_hsv m_hrc m_hse m_hs1 m_hu m_hf1 m_hw1 m_hp1 m_hrt) (tb_V hw cy_M_receive ww_804 ww_805 ww_806 rfl rfl ⟨Nat.le_of_ble_eq_true rfl, Nat.le_of_ble_eq_true rfl⟩) (wk_preV (ci := 4) (q0 := 0) hPc hK hDc rfl rfl) rfl rfl hl.1 rfl (lv_room (Nat.le_of_ble_eq_true rfl)) d_L_law_657 ⟨by omega, by omega⟩) hP hD hS hA [0, 1, 3, 9, 10, 11, 12, 13, 14, 15, 16, 17, 18, 19, 20] (by decide) rfl (fun _ => by simp only [List.map_cons, List.map_nil]) (fun z21166 H locs ok1167 hP hD hS => ?_)
  have hP : va_P G classes (lw_W ct hd us op hm qo qa fu au ns n ck n ck 0 z21166 a1 a2 a3 a4 a5 a6 a7 a8 a9 b0 b1 (upd b2 k 1) b3 b4 b5 b6 (vp_updL b7 k (lN f)) (vp_updL b8 k (lN ((3 * rc + pw_m 4 sec) % pq_P))) (vp_updL b9 k (ky_s (nI u) f ((3 * rc + pw_m 4 sec) % pq_P) (sv_cm sec rc f (bl_n f ((3 * rc + pw_m 4 sec) % pq_P))))) (vp_updL b10 k (lN ((3 * rc + pw_m 4 sec) % pq_P))) (vp_updL og 0 ((1 : Int32).toInt64)) fo ad eu (va_up es k (.inr (3, [.ref (au u), .int (b0 k), .long (lN sec), .int (b3 k), .int 1, .long (lN f), .long (lN (sv_ny (b0 k) sec rc)), .long (sv_ky (nI u) (b0 k) sec f (sv_ny (b0 k) sec rc) rc), .long (cf_c (sv_ky (nI u) (b0 k) sec f (sv_ny (b0 k) sec rc) rc) f (sv_ny (b0 k) sec rc)), .long (cf_s (sv_ky (nI u) (b0 k) sec f (sv_ny (b0 k) sec rc) rc) (cf_c (sv_ky (nI u) (b0 k) sec f (sv_ny (b0 k) sec rc) rc) f (sv_ny (b0 k) sec rc))), .long (lN (sv_ny (b0 k) sec rc)), .long (lN rc)])))) H := hP
  have hD : va_D A (lw_W ct hd us op hm qo qa fu au ns n ck n ck 0 z21166 a1 a2 a3 a4 a5 a6 a7 a8 a9 b0 b1 (upd b2 k 1) b3 b4 b5 b6 (vp_updL b7 k (lN f)) (vp_updL b8 k (lN ((3 * rc + pw_m 4 sec) % pq_P))) (vp_updL b9 k (ky_s (nI u) f ((3 * rc + pw_m 4 sec) % pq_P) (sv_cm sec rc f (bl_n f ((3 * rc + pw_m 4 sec) % pq_P))))) (vp_updL b10 k (lN ((3 * rc + pw_m 4 sec) % pq_P))) (vp_updL og 0 ((1 : Int32).toInt64)) fo ad eu (va_up es k (.inr (3, [.ref (au u), .int (b0 k), .long (lN sec), .int (b3 k), .int 1, .long (lN f), .long (lN (sv_ny (b0 k) sec rc)), .long (sv_ky (nI u) (b0 k) sec f (sv_ny (b0 k) sec rc) rc), .long (cf_c (sv_ky (nI u) (b0 k) sec f (sv_ny (b0 k) sec rc) rc) f (sv_ny (b0 k) sec rc)), .long (cf_s (sv_ky (nI u) (b0 k) sec f (sv_ny (b0 k) sec rc) rc) (cf_c (sv_ky (nI u) (b0 k) sec f (sv_ny (b0 k) sec rc) rc) f (sv_ny (b0 k) sec rc))), .long (lN (sv_ny (b0 k) sec rc)), .long (lN rc)])))) := hD
  refine lv_istore (lv' := [(6, .int 1), (5, .int 0), (4, .int (nI iv)), (3, .ref qo), (2, .ref hm), (1, .ref hd), (0, .ref b)]) hx hb d_L_law_660 hl (Nat.le_of_ble_eq_true rfl) rfl (fun ls hl => ?_)
  refine lv_aload_n hx hb d_L_law_662 rfl (lv_at hl 4 rfl) ?_
  have hPc : va_P G classes [(hm, .inr (4, [.int 0, .long ns.toInt64, .int ck, .long z21166, .ref (qa 1), .ref (qa 2), .ref (qa 3), .ref (qa 4), .ref (qa 5), .ref (qa 6), .ref (qa 7), .ref (qa 8), .int (nI n), .ref (qa 9), .ref (qa 10), .ref (qa 11), .ref (qa 12), .ref (qa 13), .ref (qa 14), .ref (qa 15), .ref (qa 16), .ref (qa 17), .ref (qa 18), .ref (qa 19), .ref (qa 20)]))] H := hP.sub [0] rfl
  have hDc := hD.sub (ws' := [(hm, .inr (4, [.int 0, .long ns.toInt64, .int ck, .long z21166, .ref (qa 1), .ref (qa 2), .ref (qa 3), .ref (qa 4), .ref (qa 5), .ref (qa 6), .ref (qa 7), .ref (qa 8), .int (nI n), .ref (qa 9), .ref (qa 10), .ref (qa 11), .ref (qa 12), .ref (qa 13), .ref (qa 14), .ref (qa 15), .ref (qa 16), .ref (qa 17), .ref (qa 18), .ref (qa 19), .ref (qa 20)]))]) [0] (by decide) rfl
  refine vp_callSi (W.runV (As := []) (rest := []) ⟨hx, hb, hml, hown, hts⟩ (c_M_thrown l G ct H.size hm 0 ns.toInt64 ck z21166 (qa 1) (qa 2) (qa 3) (qa 4) (qa 5) (qa 6) (qa 7) (qa 8) (qa 9) (qa 10) (qa 11) (qa 12) (qa 13) (qa 14) (qa 15) (qa 16) (qa 17) (qa 18) (qa 19) (qa 20) n) (tb_V hw cy_M_thrown ww_719 ww_720 ww_721 rfl rfl ⟨Nat.le_of_ble_eq_true rfl, Nat.le_of_ble_eq_true rfl⟩) (wk_preV (ci := 4) (q0 := 0) hPc hK hDc rfl rfl) rfl rfl hl.1 rfl (lv_room (Nat.le_of_ble_eq_true rfl)) d_L_law_663 ⟨by omega, by omega⟩) (fun r1168 er1168 => ?_)
  subst er1168
  refine lv_iload hx hb d_L_law_666 (lv_at hl 1 rfl) ?_
  refine lv_icmp_eq (tgt := 673) hx hb d_L_law_668 (by decide) (fun h1169 => ?_) (fun h1169 => ?_)
  · refine lv_iload hx hb d_L_law_673 (lv_at hl 1 rfl) ?_
    refine lv_if_ne (tgt := 690) hx hb d_L_law_675 (by decide) (fun h1170 => ?_) (fun h1170 => ?_)
    · exact absurd h1170 (by decide)
    · refine lv_aload_n hx hb d_L_law_678 rfl (lv_at hl 3 rfl) ?_
      refine lv_iconst (v := 0) hx hb d_L_law_679 (by decide) ?_
      refine ra_ll hx hb hK.1 hP 21 1 rfl rfl (k := 0) (by omega) (by decide) d_L_law_680 ?_
      refine tp_l (ul_se _ _ _) ?_
      refine lv_iload hx hb d_L_law_681 (lv_at hl 0 rfl) ?_
      refine lv_i2l (v := (1 : Int32).toInt64) hx hb d_L_law_683 rfl ?_
      refine W.lcmp hx hb d_L_law_684 ?_
      refine lv_if_eq (tgt := 690) hx hb d_L_law_685 (by decide) (fun h1171 => ?_) (fun h1171 => ?_)
      · have h1171 := (lg_cmp_eq _ _).mp h1171
        refine lv_goto (tgt := 1005) hx hb d_L_law_690 (by decide) ?_
        refine W.widen (k := cells + 1) (n := slots + 13) (by omega) (by omega) ?_
        exact kk n ck 0 z21166 a1 a2 a3 a4 a5 a6 a7 a8 a9 b0 b1 (upd b2 k 1) b3 b4 b5 b6 (vp_updL b7 k (lN f)) (vp_updL b8 k (lN ((3 * rc + pw_m 4 sec) % pq_P))) (vp_updL b9 k (ky_s (nI u) f ((3 * rc + pw_m 4 sec) % pq_P) (sv_cm sec rc f (bl_n f ((3 * rc + pw_m 4 sec) % pq_P))))) (vp_updL b10 k (lN ((3 * rc + pw_m 4 sec) % pq_P))) (vp_updL og 0 ((1 : Int32).toInt64)) fo ad eu (va_up es k (.inr (3, [.ref (au u), .int (b0 k), .long (lN sec), .int (b3 k), .int 1, .long (lN f), .long (lN (sv_ny (b0 k) sec rc)), .long (sv_ky (nI u) (b0 k) sec f (sv_ny (b0 k) sec rc) rc), .long (cf_c (sv_ky (nI u) (b0 k) sec f (sv_ny (b0 k) sec rc) rc) f (sv_ny (b0 k) sec rc)), .long (cf_s (sv_ky (nI u) (b0 k) sec f (sv_ny (b0 k) sec rc) rc) (cf_c (sv_ky (nI u) (b0 k) sec f (sv_ny (b0 k) sec rc) rc) f (sv_ny (b0 k) sec rc))), .long (lN (sv_ny (b0 k) sec rc)), .long (lN rc)]))) H locs _ hnew hP hD hS (lv_sub hl [2, 3, 4, 5, 6] rfl)
      · have h1171 := fun q => h1171 ((lg_cmp_eq _ _).mpr q)
        exact absurd rfl h1171
  · exact absurd h1169 (by decide)
set_option maxHeartbeats 4000000 in
set_option maxRecDepth 100000 in
theorem lq_receiveGC_FC1 {k : Nat} {u : Nat} {sec : Nat} {x : Nat} {y : Nat} {rc : Nat} {c1 : Int64} {c2 : Int64} {uo : Nat} {ul : Int64} {uv : Nat} (C0 : lc_C p l s m meth c b L xs G ct A) (hiv : iv + 7 ≤ L) (hcc : cells + 1 ≤ room_1.cells) (hzz : slots + 13 ≤ room_1.slots)
    (hP : va_P G classes (lw_W ct hd us op hm qo qa fu au ns n ck n ck th hh a1 a2 a3 a4 a5 a6 a7 a8 a9 b0 b1 b2 b3 b4 b5 b6 b7 b8 b9 b10 og fo ad eu es) H) (hD : va_D A (lw_W ct hd us op hm qo qa fu au ns n ck n ck th hh a1 a2 a3 a4 a5 a6 a7 a8 a9 b0 b1 b2 b3 b4 b5 b6 b7 b8 b9 b10 og fo ad eu es)) (hS : va_S A s.heap H locs) (hl : lv_has ls 8 [(4, .int (nI iv)), (3, .ref qo), (2, .ref hm), (1, .ref hd), (0, .ref b)])
    (kk : lc_K p l e s m below meth c b L xs G ct A hd us op hm qo qa fu au ns iv (cells + 1) (slots + 13) Q)
    (hv1 : xs (iv + 1) = nI k) (hkn : k < n) (hes : es k = .inr (2, [.ref (au u), .int (b0 k), .long (lN sec), .int (b3 k), .int (b2 k), .long (lN x), .long (lN y), .long (b9 k), .long c1, .long c2, .long (b10 k), .long (b5 k), .long (lN rc)])) (hu8 : u < 8) (heu : eu u = .inr (1, [.int (nI u), .int ns, .int (a1 u), .long (lN uo), .long ul, .long (lN uv), .int (a5 u), .int (a6 u), .int (a7 u), .int (a8 u)])) (d_hn : n ≤ 40) (d_hkn : k < n) (d_hfo : fo k = some (ad k)) (d_hst : se_at (b2 k) (b3 k) ck = 1) (d_haw : (lj (xs (iv + 2)) (xs (iv + 3))) = c2) (m_hn : n ≤ 40) (m_hkn : k < n) (m_hst : sm_at (b2 k) (b3 k) ck = 1) (m_hsv : a9 k = 0) (m_hu : b1 k = nI u) (m_hu8 : u < 8) (m_haw : (lj (xs (iv + 2)) (xs (iv + 3))) = dg_3 10 (b9 k) (dg_4 9 (b9 k) (b7 k) (b8 k)))  (hnew : li_R fu au ns n a1 a2 a3 a4 a5 a6 a7 a8 a9 b0 b1 (upd b2 k 2) b3 b4 b5 b6 b7 b8 b9 b10 fo ad eu (va_up es k (.inr (2, [.ref (au u), .int (b0 k), .long (lN sec), .int (b3 k), .int 2, .long (lN x), .long (lN y), .long (b9 k), .long c1, .long c2, .long (b10 k), .long (b5 k), .long (lN rc)]))))  : W p l e room_1 s m #[Value.ref b] below meth c H locs cells slots Q (F0 m 593 ls []) := by
  obtain ⟨hx, hb, hr, hml, hown, hw, hK, hZ, hR, hN, hfl, hA, hbA, hX, hbl, hL, hlocks⟩ := C0
  have hts := hw
  have hP : va_P G classes (lw_W ct hd us op hm qo qa fu au ns n ck n ck th hh a1 a2 a3 a4 a5 a6 a7 a8 a9 b0 b1 b2 b3 b4 b5 b6 b7 b8 b9 b10 og fo ad eu es) H := hP
  have hD : va_D A (lw_W ct hd us op hm qo qa fu au ns n ck n ck th hh a1 a2 a3 a4 a5 a6 a7 a8 a9 b0 b1 b2 b3 b4 b5 b6 b7 b8 b9 b10 og fo ad eu es) := hD
  refine lv_aload_n hx hb d_L_law_593 rfl (lv_at hl 3 rfl) ?_
  refine lv_aload_n hx hb d_L_law_594 rfl (lv_at hl 4 rfl) ?_
  refine lv_iload hx hb d_L_law_595 (lv_at hl 0 rfl) ?_
  refine lv_iconst (v := 1) hx hb d_L_law_597 (by decide) ?_
  refine lv_iadd hx hb d_L_law_598 ?_
  refine sl_ld (j := iv) (d := 1) hx hb hX hbl hbA hS hL (by omega) d_L_law_599 ?_
  refine tp_i (hv1) ?_
  refine lv_aload_n hx hb d_L_law_600 rfl (lv_at hl 4 rfl) ?_
  refine lv_iload hx hb d_L_law_601 (lv_at hl 0 rfl) ?_
  refine lv_iconst (v := 2) hx hb d_L_law_603 (by decide) ?_
  refine lv_iadd hx hb d_L_law_604 ?_
  refine sl_ld (j := iv) (d := 2) hx hb hX hbl hbA hS hL (by omega) d_L_law_605 ?_
  refine lv_i2l (v := (xs (iv + 2)).toInt64) hx hb d_L_law_606 rfl ?_
  refine lv_bipush (v := 32) hx hb d_L_law_607 (by decide) ?_
  refine lv_lshl (v := ((xs (iv + 2)).toInt64) <<< ((32 : Int32).toInt64 &&& 63)) hx hb d_L_law_609 rfl ?_
  refine lv_aload_n hx hb d_L_law_610 rfl (lv_at hl 4 rfl) ?_
  refine lv_iload hx hb d_L_law_611 (lv_at hl 0 rfl) ?_
  refine lv_iconst (v := 3) hx hb d_L_law_613 (by decide) ?_
  refine lv_iadd hx hb d_L_law_614 ?_
  refine sl_ld (j := iv) (d := 3) hx hb hX hbl hbA hS hL (by omega) d_L_law_615 ?_
  refine lv_i2l (v := (xs (iv + 3)).toInt64) hx hb d_L_law_616 rfl ?_
  refine lv_ldc2 (v := 4294967295) hx hb hown (hw _ ww_884) d_L_law_617 ?_
  refine lv_land hx hb d_L_law_620 ?_
  refine lv_lor hx hb d_L_law_621 ?_
  refine tp_l (rfl) ?_
  refine lv_aload_n hx hb d_L_law_622 rfl (lv_at hl 1 rfl) ?_
  have hC9 : List.map (fun i => ((lw_W ct hd us op hm qo qa fu au ns n ck n ck th hh a1 a2 a3 a4 a5 a6 a7 a8 a9 b0 b1 b2 b3 b4 b5 b6 b7 b8 b9 b10 og fo ad eu es) : va_W)[i]?) [22, 24, 25 + (8 + k), 25 + u, 21] = List.map some ([(hd, .inr (0, [.ref us, .ref op, .int (nI n), .int ck])), (op, .inl ((ct 4), 40, .inr (.inr (.inr (.inr fo))))), ((ad k), .inr (2, [.ref (au u), .int (b0 k), .long (lN sec), .int (b3 k), .int (b2 k), .long (lN x), .long (lN y), .long (b9 k), .long c1, .long c2, .long (b10 k), .long (b5 k), .long (lN rc)])), ((au u), .inr (1, [.int (nI u), .int ns, .int (a1 u), .long (lN uo), .long ul, .long (lN uv), .int (a5 u), .int (a6 u), .int (a7 u), .int (a8 u)])), (qo, .inl ((ct 1), 1, .inr (.inl og)))] : va_W) := (wc_c rfl (wc_c rfl (wc_c (lw_s rfl hkn hes) (wc_c (lw_u rfl hu8 heu) (wc_c rfl rfl)))))
  have hn9 : va_nd [22, 24, 25 + (8 + k), 25 + u, 21] = true := (nd_c (by simp only [List.mem_cons, List.not_mem_nil, or_false]; omega) (nd_c (by simp only [List.mem_cons, List.not_mem_nil, or_false]; omega) (nd_c (by simp only [List.mem_cons, List.not_mem_nil, or_false]; omega) (nd_c (by simp only [List.mem_cons, List.not_mem_nil, or_false]; omega) (nd_c List.not_mem_nil rfl)))))
  have hPc : va_P G classes [(hd, .inr (0, [.ref us, .ref op, .int (nI n), .int ck])), (op, .inl ((ct 4), 40, .inr (.inr (.inr (.inr fo))))), ((ad k), .inr (2, [.ref (au u), .int (b0 k), .long (lN sec), .int (b3 k), .int (b2 k), .long (lN x), .long (lN y), .long (b9 k), .long c1, .long c2, .long (b10 k), .long (b5 k), .long (lN rc)])), ((au u), .inr (1, [.int (nI u), .int ns, .int (a1 u), .long (lN uo), .long ul, .long (lN uv), .int (a5 u), .int (a6 u), .int (a7 u), .int (a8 u)])), (qo, .inl ((ct 1), 1, .inr (.inl og)))] H := lp_sub hP [22, 24, 25 + (8 + k), 25 + u, 21] hC9
  have hDc := hD.sub (ws' := [(hd, .inr (0, [.ref us, .ref op, .int (nI n), .int ck])), (op, .inl ((ct 4), 40, .inr (.inr (.inr (.inr fo))))), ((ad k), .inr (2, [.ref (au u), .int (b0 k), .long (lN sec), .int (b3 k), .int (b2 k), .long (lN x), .long (lN y), .long (b9 k), .long c1, .long c2, .long (b10 k), .long (b5 k), .long (lN rc)])), ((au u), .inr (1, [.int (nI u), .int ns, .int (a1 u), .long (lN uo), .long ul, .long (lN uv), .int (a5 u), .int (a6 u), .int (a7 u), .int (a8 u)])), (qo, .inl ((ct 1), 1, .inr (.inl og)))]) [22, 24, 25 + (8 + k), 25 + u, 21] hn9 hC9
  have hW9 : wk_sets ((lw_W ct hd us op hm qo qa fu au ns n ck n ck th hh a1 a2 a3 a4 a5 a6 a7 a8 a9 b0 b1 b2 b3 b4 b5 b6 b7 b8 b9 b10 og fo ad eu es) : va_W) [22, 24, 25 + (8 + k), 25 + u, 21] ([(hd, .inr (0, [.ref us, .ref op, .int (nI n), .int ck])), (op, .inl ((ct 4), 40, .inr (.inr (.inr (.inr fo))))), ((ad k), .inr (2, [.ref (au u), .int (b0 k), .long (lN sec), .int (b3 k), .int 2, .long (lN x), .long (lN y), .long (b9 k), .long c1, .long c2, .long (b10 k), .long (b5 k), .long (lN rc)])), ((au u), .inr (1, [.int (nI u), .int ns, .int (a1 u), .long (lN uo), .long ul, .long (lN uv), .int (a5 u), .int (a6 u), .int (a7 u), .int (a8 u)])), (qo, .inl ((ct 1), 1, .inr (.inl (vp_updL og 0 ((2 : Int32).toInt64)))))] : va_W) = ((lw_W ct hd us op hm qo qa fu au ns n ck n ck th hh a1 a2 a3 a4 a5 a6 a7 a8 a9 b0 b1 b2 b3 b4 b5 b6 b7 b8 b9 b10 (vp_updL og 0 ((2 : Int32).toInt64)) fo ad eu (va_up es k (.inr (2, [.ref (au u), .int (b0 k), .long (lN sec), .int (b3 k), .int 2, .long (lN x), .long (lN y), .long (b9 k), .long c1, .long c2, .long (b10 k), .long (b5 k), .long (lN rc)])))) : va_W) := (ws_k rfl (ws_k rfl (ws_c (lw_ss rfl) (ws_k (lw_u rfl hu8 heu) (ws_c (ws' := ([(hm, .inr (4, [.int th, .long ns.toInt64, .int ck, .long hh, .ref (qa 1), .ref (qa 2), .ref (qa 3), .ref (qa 4), .ref (qa 5), .ref (qa 6), .ref (qa 7), .ref (qa 8), .int (nI n), .ref (qa 9), .ref (qa 10), .ref (qa 11), .ref (qa 12), .ref (qa 13), .ref (qa 14), .ref (qa 15), .ref (qa 16), .ref (qa 17), .ref (qa 18), .ref (qa 19), .ref (qa 20)])), ((qa 1), .inl ((ct 0), 8, .inl a1)), ((qa 2), .inl ((ct 1), 8, .inr (.inl a2))), ((qa 3), .inl ((ct 1), 8, .inr (.inl a3))), ((qa 4), .inl ((ct 1), 8, .inr (.inl a4))), ((qa 5), .inl ((ct 0), 8, .inl a5)), ((qa 6), .inl ((ct 0), 8, .inl a6)), ((qa 7), .inl ((ct 0), 8, .inl a7)), ((qa 8), .inl ((ct 0), 8, .inl a8)), ((qa 9), .inl ((ct 2), 40, .inl a9)), ((qa 10), .inl ((ct 0), 40, .inl b0)), ((qa 11), .inl ((ct 0), 40, .inl b1)), ((qa 12), .inl ((ct 0), 40, .inl b2)), ((qa 13), .inl ((ct 0), 40, .inl b3)), ((qa 14), .inl ((ct 1), 40, .inr (.inl b4))), ((qa 15), .inl ((ct 1), 40, .inr (.inl b5))), ((qa 16), .inl ((ct 1), 40, .inr (.inl b6))), ((qa 17), .inl ((ct 1), 40, .inr (.inl b7))), ((qa 18), .inl ((ct 1), 40, .inr (.inl b8))), ((qa 19), .inl ((ct 1), 40, .inr (.inl b9))), ((qa 20), .inl ((ct 1), 40, .inr (.inl b10))), (qo, .inl ((ct 1), 1, .inr (.inl (vp_updL og 0 ((2 : Int32).toInt64))))), (hd, .inr (0, [.ref us, .ref op, .int (nI n), .int ck])), (us, .inl ((ct 3), 8, .inr (.inr (.inr (.inr fu))))), (op, .inl ((ct 4), 40, .inr (.inr (.inr (.inr fo)))))] ++ (ix_w 8 au eu ++ ix_w n ad (va_up es k (.inr (2, [.ref (au u), .int (b0 k), .long (lN sec), .int (b3 k), .int 2, .long (lN x), .long (lN y), .long (b9 k), .long c1, .long c2, .long (b10 k), .long (b5 k), .long (lN rc)])))))) rfl rfl)))))
  refine wk_i (sh_run (As := [.ref hd, .int (nI k), .long (lj (xs (iv + 2)) (xs (iv + 3))), .ref qo]) (rest := []) (hs := [(0, 11, 14, 25), (0, 11, 18, 15), (0, 11, 22, 13), (0, 11, 26, 27)]) ⟨hx, hb, hml, hown, hts⟩ (c_L_receiveGC l G ct H.size hd us op n ck fo k (ad k) (au u) (b0 k) sec (b3 k) (b2 k) x y (b9 k) c1 c2 (b10 k) (b5 k) rc (nI u) ns (a1 u) uo ul uv (a5 u) (a6 u) (a7 u) (a8 u) (lj (xs (iv + 2)) (xs (iv + 3))) qo og d_hn d_hkn d_hfo d_hst d_haw) wk_ret ⟨hw, ww_417, ww_0, ⟨by decide, by decide⟩, np_L_receive, ww_415, ww_416, rfl, rfl, Nat.le_of_ble_eq_true rfl, Nat.le_of_ble_eq_true rfl⟩ (wk_pre hPc hK hDc) rfl hl.1 rfl (lv_room (Nat.le_of_ble_eq_true rfl)) d_L_law_623 ⟨by omega, by omega⟩) hP hD hS hA [22, 24, 25 + (8 + k), 25 + u, 21] hn9 hC9 (fun _ => by simp only [List.map_cons, List.map_nil]) (fun _ H locs _ hP hD hS => ?_)
  have hP : va_P G classes (lw_W ct hd us op hm qo qa fu au ns n ck n ck th hh a1 a2 a3 a4 a5 a6 a7 a8 a9 b0 b1 b2 b3 b4 b5 b6 b7 b8 b9 b10 (vp_updL og 0 ((2 : Int32).toInt64)) fo ad eu (va_up es k (.inr (2, [.ref (au u), .int (b0 k), .long (lN sec), .int (b3 k), .int 2, .long (lN x), .long (lN y), .long (b9 k), .long c1, .long c2, .long (b10 k), .long (b5 k), .long (lN rc)])))) H := lp_P hW9 hP
  have hD : va_D A (lw_W ct hd us op hm qo qa fu au ns n ck n ck th hh a1 a2 a3 a4 a5 a6 a7 a8 a9 b0 b1 b2 b3 b4 b5 b6 b7 b8 b9 b10 (vp_updL og 0 ((2 : Int32).toInt64)) fo ad eu (va_up es k (.inr (2, [.ref (au u), .int (b0 k), .long (lN sec), .int (b3 k), .int 2, .long (lN x), .long (lN y), .long (b9 k), .long c1, .long c2, .long (b10 k), .long (b5 k), .long (lN rc)])))) := lp_D hW9 hD
  refine lv_istore (lv' := [(5, .int 0), (4, .int (nI iv)), (3, .ref qo), (2, .ref hm), (1, .ref hd), (0, .ref b)]) hx hb d_L_law_626 hl (Nat.le_of_ble_eq_true rfl) rfl (fun ls hl => ?_)
  refine lv_aload_n hx hb d_L_law_628 rfl (lv_at hl 3 rfl) ?_
  refine lv_aload_n hx hb d_L_law_629 rfl (lv_at hl 5 rfl) ?_
  refine lv_iload hx hb d_L_law_630 (lv_at hl 1 rfl) ?_
  refine lv_iconst (v := 1) hx hb d_L_law_632 (by decide) ?_
  refine lv_iadd hx hb d_L_law_633 ?_
  refine sl_ld (j := iv) (d := 1) hx hb hX hbl hbA hS hL (by omega) d_L_law_634 ?_
  refine tp_i (hv1) ?_
  refine lv_aload_n hx hb d_L_law_635 rfl (lv_at hl 5 rfl) ?_
  refine lv_iload hx hb d_L_law_636 (lv_at hl 1 rfl) ?_
  refine lv_iconst (v := 2) hx hb d_L_law_638 (by decide) ?_
  refine lv_iadd hx hb d_L_law_639 ?_
  refine sl_ld (j := iv) (d := 2) hx hb hX hbl hbA hS hL (by omega) d_L_law_640 ?_
  refine lv_i2l (v := (xs (iv + 2)).toInt64) hx hb d_L_law_641 rfl ?_
  refine lv_bipush (v := 32) hx hb d_L_law_642 (by decide) ?_
  refine lv_lshl (v := ((xs (iv + 2)).toInt64) <<< ((32 : Int32).toInt64 &&& 63)) hx hb d_L_law_644 rfl ?_
  refine lv_aload_n hx hb d_L_law_645 rfl (lv_at hl 5 rfl) ?_
  refine lv_iload hx hb d_L_law_646 (lv_at hl 1 rfl) ?_
  refine lv_iconst (v := 3) hx hb d_L_law_648 (by decide) ?_
  refine lv_iadd hx hb d_L_law_649 ?_
  refine sl_ld (j := iv) (d := 3) hx hb hX hbl hbA hS hL (by omega) d_L_law_650 ?_
  refine lv_i2l (v := (xs (iv + 3)).toInt64) hx hb d_L_law_651 rfl ?_
  refine lv_ldc2 (v := 4294967295) hx hb hown (hw _ ww_884) d_L_law_652 ?_
  refine lv_land hx hb d_L_law_655 ?_
  refine lv_lor hx hb d_L_law_656 ?_
  refine tp_l (rfl) ?_
  have hPc : va_P G classes [(hm, .inr (4, [.int th, .long ns.toInt64, .int ck, .long hh, .ref (qa 1), .ref (qa 2), .ref (qa 3), .ref (qa 4), .ref (qa 5), .ref (qa 6), .ref (qa 7), .ref (qa 8), .int (nI n), .ref (qa 9), .ref (qa 10), .ref (qa 11), .ref (qa 12), .ref (qa 13), .ref (qa 14), .ref (qa 15), .ref (qa 16), .ref (qa 17), .ref (qa 18), .ref (qa 19), .ref (qa 20)])), ((qa 5), .inl ((ct 0), 8, .inl a5)), ((qa 6), .inl ((ct 0), 8, .inl a6)), ((qa 7), .inl ((ct 0), 8, .inl a7)), ((qa 8), .inl ((ct 0), 8, .inl a8)), ((qa 9), .inl ((ct 2), 40, .inl a9)), ((qa 11), .inl ((ct 0), 40, .inl b1)), ((qa 12), .inl ((ct 0), 40, .inl b2)), ((qa 13), .inl ((ct 0), 40, .inl b3)), ((qa 17), .inl ((ct 1), 40, .inr (.inl b7))), ((qa 18), .inl ((ct 1), 40, .inr (.inl b8))), ((qa 19), .inl ((ct 1), 40, .inr (.inl b9))), ((qa 20), .inl ((ct 1), 40, .inr (.inl b10)))] H := hP.sub [0, 5, 6, 7, 8, 9, 11, 12, 13, 17, 18, 19, 20] rfl
  have hDc := hD.sub (ws' := [(hm, .inr (4, [.int th, .long ns.toInt64, .int ck, .long hh, .ref (qa 1), .ref (qa 2), .ref (qa 3), .ref (qa 4), .ref (qa 5), .ref (qa 6), .ref (qa 7), .ref (qa 8), .int (nI n), .ref (qa 9), .ref (qa 10), .ref (qa 11), .ref (qa 12), .ref (qa 13), .ref (qa 14), .ref (qa 15), .ref (qa 16), .ref (qa 17), .ref (qa 18), .ref (qa 19), .ref (qa 20)])), ((qa 5), .inl ((ct 0), 8, .inl a5)), ((qa 6), .inl ((ct 0), 8, .inl a6)), ((qa 7), .inl ((ct 0), 8, .inl a7)), ((qa 8), .inl ((ct 0), 8, .inl a8)), ((qa 9), .inl ((ct 2), 40, .inl a9)), ((qa 11), .inl ((ct 0), 40, .inl b1)), ((qa 12), .inl ((ct 0), 40, .inl b2)), ((qa 13), .inl ((ct 0), 40, .inl b3)), ((qa 17), .inl ((ct 1), 40, .inr (.inl b7))), ((qa 18), .inl ((ct 1), 40, .inr (.inl b8))), ((qa 19), .inl ((ct 1), 40, .inr (.inl b9))), ((qa 20), .inl ((ct 1), 40, .inr (.inl b10)))]) [0, 5, 6, 7, 8, 9, 11, 12, 13, 17, 18, 19, 20] (by decide) rfl
  refine wk_i (va_runV (As := [.int (nI k), .long (lj (xs (iv + 2)) (xs (iv + 3)))]) (rest := []) ⟨hx, hb, hml, hown, hts⟩ (c_M_receive_FC1 l G ct H.size hm th ns.toInt64 ck hh (qa 1) (qa 2) (qa 3) (qa 4) (qa 5) (qa 6) (qa 7) (qa 8) (qa 9) (qa 10) (qa 11) (qa 12) (qa 13) (qa 14) (qa 15) (qa 16) (qa 17) (qa 18) (qa 19) (qa 20) n a5 a6 a7 a8 a9 b1 b2 b3 b7 b8 b9 b10 k u (lj (xs (iv + 2)) (xs (iv + 3))) m_hn m_hkn m_hst m_hsv m_hu m_hu8 m_haw) (tb_V hw cy_M_receive ww_804 ww_805 ww_806 rfl rfl ⟨Nat.le_of_ble_eq_true rfl, Nat.le_of_ble_eq_true rfl⟩) (wk_preV (ci := 4) (q0 := 0) hPc hK hDc rfl rfl) rfl rfl hl.1 rfl (lv_room (Nat.le_of_ble_eq_true rfl)) d_L_law_657 ⟨by omega, by omega⟩) hP hD hS hA [0, 5, 6, 7, 8, 9, 11, 12, 13, 17, 18, 19, 20] (by decide) rfl (fun _ => by simp only [List.map_cons, List.map_nil]) (fun z21172 H locs ok1173 hP hD hS => ?_)
  have hP : va_P G classes (lw_W ct hd us op hm qo qa fu au ns n ck n ck 0 z21172 a1 a2 a3 a4 a5 a6 a7 a8 a9 b0 b1 (upd b2 k 2) b3 b4 b5 b6 b7 b8 b9 b10 (vp_updL og 0 ((2 : Int32).toInt64)) fo ad eu (va_up es k (.inr (2, [.ref (au u), .int (b0 k), .long (lN sec), .int (b3 k), .int 2, .long (lN x), .long (lN y), .long (b9 k), .long c1, .long c2, .long (b10 k), .long (b5 k), .long (lN rc)])))) H := hP
  have hD : va_D A (lw_W ct hd us op hm qo qa fu au ns n ck n ck 0 z21172 a1 a2 a3 a4 a5 a6 a7 a8 a9 b0 b1 (upd b2 k 2) b3 b4 b5 b6 b7 b8 b9 b10 (vp_updL og 0 ((2 : Int32).toInt64)) fo ad eu (va_up es k (.inr (2, [.ref (au u), .int (b0 k), .long (lN sec), .int (b3 k), .int 2, .long (lN x), .long (lN y), .long (b9 k), .long c1, .long c2, .long (b10 k), .long (b5 k), .long (lN rc)])))) := hD
  refine lv_istore (lv' := [(6, .int 2), (5, .int 0), (4, .int (nI iv)), (3, .ref qo), (2, .ref hm), (1, .ref hd), (0, .ref b)]) hx hb d_L_law_660 hl (Nat.le_of_ble_eq_true rfl) rfl (fun ls hl => ?_)
  refine lv_aload_n hx hb d_L_law_662 rfl (lv_at hl 4 rfl) ?_
  have hPc : va_P G classes [(hm, .inr (4, [.int 0, .long ns.toInt64, .int ck, .long z21172, .ref (qa 1), .ref (qa 2), .ref (qa 3), .ref (qa 4), .ref (qa 5), .ref (qa 6), .ref (qa 7), .ref (qa 8), .int (nI n), .ref (qa 9), .ref (qa 10), .ref (qa 11), .ref (qa 12), .ref (qa 13), .ref (qa 14), .ref (qa 15), .ref (qa 16), .ref (qa 17), .ref (qa 18), .ref (qa 19), .ref (qa 20)]))] H := hP.sub [0] rfl
  have hDc := hD.sub (ws' := [(hm, .inr (4, [.int 0, .long ns.toInt64, .int ck, .long z21172, .ref (qa 1), .ref (qa 2), .ref (qa 3), .ref (qa 4), .ref (qa 5), .ref (qa 6), .ref (qa 7), .ref (qa 8), .int (nI n), .ref (qa 9), .ref (qa 10), .ref (qa 11), .ref (qa 12), .ref (qa 13), .ref (qa 14), .ref (qa 15), .ref (qa 16), .ref (qa 17), .ref (qa 18), .ref (qa 19), .ref (qa 20)]))]) [0] (by decide) rfl
  refine vp_callSi (W.runV (As := []) (rest := []) ⟨hx, hb, hml, hown, hts⟩ (c_M_thrown l G ct H.size hm 0 ns.toInt64 ck z21172 (qa 1) (qa 2) (qa 3) (qa 4) (qa 5) (qa 6) (qa 7) (qa 8) (qa 9) (qa 10) (qa 11) (qa 12) (qa 13) (qa 14) (qa 15) (qa 16) (qa 17) (qa 18) (qa 19) (qa 20) n) (tb_V hw cy_M_thrown ww_719 ww_720 ww_721 rfl rfl ⟨Nat.le_of_ble_eq_true rfl, Nat.le_of_ble_eq_true rfl⟩) (wk_preV (ci := 4) (q0 := 0) hPc hK hDc rfl rfl) rfl rfl hl.1 rfl (lv_room (Nat.le_of_ble_eq_true rfl)) d_L_law_663 ⟨by omega, by omega⟩) (fun r1174 er1174 => ?_)
  subst er1174
  refine lv_iload hx hb d_L_law_666 (lv_at hl 1 rfl) ?_
  refine lv_icmp_eq (tgt := 673) hx hb d_L_law_668 (by decide) (fun h1175 => ?_) (fun h1175 => ?_)
  · refine lv_iload hx hb d_L_law_673 (lv_at hl 1 rfl) ?_
    refine lv_if_ne (tgt := 690) hx hb d_L_law_675 (by decide) (fun h1176 => ?_) (fun h1176 => ?_)
    · exact absurd h1176 (by decide)
    · refine lv_aload_n hx hb d_L_law_678 rfl (lv_at hl 3 rfl) ?_
      refine lv_iconst (v := 0) hx hb d_L_law_679 (by decide) ?_
      refine ra_ll hx hb hK.1 hP 21 1 rfl rfl (k := 0) (by omega) (by decide) d_L_law_680 ?_
      refine tp_l (ul_se _ _ _) ?_
      refine lv_iload hx hb d_L_law_681 (lv_at hl 0 rfl) ?_
      refine lv_i2l (v := (2 : Int32).toInt64) hx hb d_L_law_683 rfl ?_
      refine W.lcmp hx hb d_L_law_684 ?_
      refine lv_if_eq (tgt := 690) hx hb d_L_law_685 (by decide) (fun h1177 => ?_) (fun h1177 => ?_)
      · have h1177 := (lg_cmp_eq _ _).mp h1177
        refine lv_goto (tgt := 1005) hx hb d_L_law_690 (by decide) ?_
        refine W.widen (k := cells + 1) (n := slots + 13) (by omega) (by omega) ?_
        exact kk n ck 0 z21172 a1 a2 a3 a4 a5 a6 a7 a8 a9 b0 b1 (upd b2 k 2) b3 b4 b5 b6 b7 b8 b9 b10 (vp_updL og 0 ((2 : Int32).toInt64)) fo ad eu (va_up es k (.inr (2, [.ref (au u), .int (b0 k), .long (lN sec), .int (b3 k), .int 2, .long (lN x), .long (lN y), .long (b9 k), .long c1, .long c2, .long (b10 k), .long (b5 k), .long (lN rc)]))) H locs _ hnew hP hD hS (lv_sub hl [2, 3, 4, 5, 6] rfl)
      · have h1177 := fun q => h1177 ((lg_cmp_eq _ _).mpr q)
        exact absurd rfl h1177
  · exact absurd h1175 (by decide)
set_option maxHeartbeats 4000000 in
set_option maxRecDepth 100000 in
theorem lq_receiveGV_FV1 {k : Nat} {u : Nat} {sec : Nat} {x : Nat} {y : Nat} {rc : Nat} {c1 : Int64} {c2 : Int64} {uo : Nat} {ul : Int64} {uv : Nat} (C0 : lc_C p l s m meth c b L xs G ct A) (hiv : iv + 7 ≤ L) (hcc : cells + 1 ≤ room_1.cells) (hzz : slots + 13 ≤ room_1.slots)
    (hP : va_P G classes (lw_W ct hd us op hm qo qa fu au ns n ck n ck th hh a1 a2 a3 a4 a5 a6 a7 a8 a9 b0 b1 b2 b3 b4 b5 b6 b7 b8 b9 b10 og fo ad eu es) H) (hD : va_D A (lw_W ct hd us op hm qo qa fu au ns n ck n ck th hh a1 a2 a3 a4 a5 a6 a7 a8 a9 b0 b1 b2 b3 b4 b5 b6 b7 b8 b9 b10 og fo ad eu es)) (hS : va_S A s.heap H locs) (hl : lv_has ls 8 [(4, .int (nI iv)), (3, .ref qo), (2, .ref hm), (1, .ref hd), (0, .ref b)])
    (kk : lc_K p l e s m below meth c b L xs G ct A hd us op hm qo qa fu au ns iv (cells + 1) (slots + 13) Q)
    (hv1 : xs (iv + 1) = nI k) (hkn : k < n) (hes : es k = .inr (3, [.ref (au u), .int (b0 k), .long (lN sec), .int (b3 k), .int (b2 k), .long (lN x), .long (lN y), .long (b9 k), .long c1, .long c2, .long (b10 k), .long (lN rc)])) (hu8 : u < 8) (heu : eu u = .inr (1, [.int (nI u), .int ns, .int (a1 u), .long (lN uo), .long ul, .long (lN uv), .int (a5 u), .int (a6 u), .int (a7 u), .int (a8 u)])) (d_hn : n ≤ 40) (d_hkn : k < n) (d_hfo : fo k = some (ad k)) (d_hst : se_at (b2 k) (b3 k) ck = 1) (d_haw : (lj (xs (iv + 2)) (xs (iv + 3))) = c1) (m_hn : n ≤ 40) (m_hkn : k < n) (m_hst : sm_at (b2 k) (b3 k) ck = 1) (m_hsv : a9 k = 1) (m_hu : b1 k = nI u) (m_hu8 : u < 8) (m_haw : (lj (xs (iv + 2)) (xs (iv + 3))) = dg_4 9 (b9 k) (b7 k) (b8 k))  (hnew : li_R fu au ns n a1 a2 a3 a4 (upd a5 u 0) a6 a7 a8 a9 b0 b1 (upd b2 k 2) b3 b4 b5 b6 b7 b8 b9 (vp_updL b10 k (dg_3 10 (b9 k) (dg_4 9 (b9 k) (b7 k) (b8 k)))) fo ad (va_up eu u (.inr (1, [.int (nI u), .int ns, .int (a1 u), .long (lN uo), .long ul, .long (lN uv), .int 0, .int (a6 u), .int (a7 u), .int (a8 u)]))) (va_up es k (.inr (3, [.ref (au u), .int (b0 k), .long (lN sec), .int (b3 k), .int 2, .long (lN x), .long (lN y), .long (b9 k), .long c1, .long c2, .long c2, .long (lN rc)]))))  : W p l e room_1 s m #[Value.ref b] below meth c H locs cells slots Q (F0 m 593 ls []) := by
  obtain ⟨hx, hb, hr, hml, hown, hw, hK, hZ, hR, hN, hfl, hA, hbA, hX, hbl, hL, hlocks⟩ := C0
  have hts := hw
  have hP : va_P G classes (lw_W ct hd us op hm qo qa fu au ns n ck n ck th hh a1 a2 a3 a4 a5 a6 a7 a8 a9 b0 b1 b2 b3 b4 b5 b6 b7 b8 b9 b10 og fo ad eu es) H := hP
  have hD : va_D A (lw_W ct hd us op hm qo qa fu au ns n ck n ck th hh a1 a2 a3 a4 a5 a6 a7 a8 a9 b0 b1 b2 b3 b4 b5 b6 b7 b8 b9 b10 og fo ad eu es) := hD
  refine lv_aload_n hx hb d_L_law_593 rfl (lv_at hl 3 rfl) ?_
  refine lv_aload_n hx hb d_L_law_594 rfl (lv_at hl 4 rfl) ?_
  refine lv_iload hx hb d_L_law_595 (lv_at hl 0 rfl) ?_
  refine lv_iconst (v := 1) hx hb d_L_law_597 (by decide) ?_
  refine lv_iadd hx hb d_L_law_598 ?_
  refine sl_ld (j := iv) (d := 1) hx hb hX hbl hbA hS hL (by omega) d_L_law_599 ?_
  refine tp_i (hv1) ?_
  refine lv_aload_n hx hb d_L_law_600 rfl (lv_at hl 4 rfl) ?_
  refine lv_iload hx hb d_L_law_601 (lv_at hl 0 rfl) ?_
  refine lv_iconst (v := 2) hx hb d_L_law_603 (by decide) ?_
  refine lv_iadd hx hb d_L_law_604 ?_
  refine sl_ld (j := iv) (d := 2) hx hb hX hbl hbA hS hL (by omega) d_L_law_605 ?_
  refine lv_i2l (v := (xs (iv + 2)).toInt64) hx hb d_L_law_606 rfl ?_
  refine lv_bipush (v := 32) hx hb d_L_law_607 (by decide) ?_
  refine lv_lshl (v := ((xs (iv + 2)).toInt64) <<< ((32 : Int32).toInt64 &&& 63)) hx hb d_L_law_609 rfl ?_
  refine lv_aload_n hx hb d_L_law_610 rfl (lv_at hl 4 rfl) ?_
  refine lv_iload hx hb d_L_law_611 (lv_at hl 0 rfl) ?_
  refine lv_iconst (v := 3) hx hb d_L_law_613 (by decide) ?_
  refine lv_iadd hx hb d_L_law_614 ?_
  refine sl_ld (j := iv) (d := 3) hx hb hX hbl hbA hS hL (by omega) d_L_law_615 ?_
  refine lv_i2l (v := (xs (iv + 3)).toInt64) hx hb d_L_law_616 rfl ?_
  refine lv_ldc2 (v := 4294967295) hx hb hown (hw _ ww_884) d_L_law_617 ?_
  refine lv_land hx hb d_L_law_620 ?_
  refine lv_lor hx hb d_L_law_621 ?_
  refine tp_l (rfl) ?_
  refine lv_aload_n hx hb d_L_law_622 rfl (lv_at hl 1 rfl) ?_
  have hC9 : List.map (fun i => ((lw_W ct hd us op hm qo qa fu au ns n ck n ck th hh a1 a2 a3 a4 a5 a6 a7 a8 a9 b0 b1 b2 b3 b4 b5 b6 b7 b8 b9 b10 og fo ad eu es) : va_W)[i]?) [22, 24, 25 + (8 + k), 25 + u, 21] = List.map some ([(hd, .inr (0, [.ref us, .ref op, .int (nI n), .int ck])), (op, .inl ((ct 4), 40, .inr (.inr (.inr (.inr fo))))), ((ad k), .inr (3, [.ref (au u), .int (b0 k), .long (lN sec), .int (b3 k), .int (b2 k), .long (lN x), .long (lN y), .long (b9 k), .long c1, .long c2, .long (b10 k), .long (lN rc)])), ((au u), .inr (1, [.int (nI u), .int ns, .int (a1 u), .long (lN uo), .long ul, .long (lN uv), .int (a5 u), .int (a6 u), .int (a7 u), .int (a8 u)])), (qo, .inl ((ct 1), 1, .inr (.inl og)))] : va_W) := (wc_c rfl (wc_c rfl (wc_c (lw_s rfl hkn hes) (wc_c (lw_u rfl hu8 heu) (wc_c rfl rfl)))))
  have hn9 : va_nd [22, 24, 25 + (8 + k), 25 + u, 21] = true := (nd_c (by simp only [List.mem_cons, List.not_mem_nil, or_false]; omega) (nd_c (by simp only [List.mem_cons, List.not_mem_nil, or_false]; omega) (nd_c (by simp only [List.mem_cons, List.not_mem_nil, or_false]; omega) (nd_c (by simp only [List.mem_cons, List.not_mem_nil, or_false]; omega) (nd_c List.not_mem_nil rfl)))))
  have hPc : va_P G classes [(hd, .inr (0, [.ref us, .ref op, .int (nI n), .int ck])), (op, .inl ((ct 4), 40, .inr (.inr (.inr (.inr fo))))), ((ad k), .inr (3, [.ref (au u), .int (b0 k), .long (lN sec), .int (b3 k), .int (b2 k), .long (lN x), .long (lN y), .long (b9 k), .long c1, .long c2, .long (b10 k), .long (lN rc)])), ((au u), .inr (1, [.int (nI u), .int ns, .int (a1 u), .long (lN uo), .long ul, .long (lN uv), .int (a5 u), .int (a6 u), .int (a7 u), .int (a8 u)])), (qo, .inl ((ct 1), 1, .inr (.inl og)))] H := lp_sub hP [22, 24, 25 + (8 + k), 25 + u, 21] hC9
  have hDc := hD.sub (ws' := [(hd, .inr (0, [.ref us, .ref op, .int (nI n), .int ck])), (op, .inl ((ct 4), 40, .inr (.inr (.inr (.inr fo))))), ((ad k), .inr (3, [.ref (au u), .int (b0 k), .long (lN sec), .int (b3 k), .int (b2 k), .long (lN x), .long (lN y), .long (b9 k), .long c1, .long c2, .long (b10 k), .long (lN rc)])), ((au u), .inr (1, [.int (nI u), .int ns, .int (a1 u), .long (lN uo), .long ul, .long (lN uv), .int (a5 u), .int (a6 u), .int (a7 u), .int (a8 u)])), (qo, .inl ((ct 1), 1, .inr (.inl og)))]) [22, 24, 25 + (8 + k), 25 + u, 21] hn9 hC9
  have hW9 : wk_sets ((lw_W ct hd us op hm qo qa fu au ns n ck n ck th hh a1 a2 a3 a4 a5 a6 a7 a8 a9 b0 b1 b2 b3 b4 b5 b6 b7 b8 b9 b10 og fo ad eu es) : va_W) [22, 24, 25 + (8 + k), 25 + u, 21] ([(hd, .inr (0, [.ref us, .ref op, .int (nI n), .int ck])), (op, .inl ((ct 4), 40, .inr (.inr (.inr (.inr fo))))), ((ad k), .inr (3, [.ref (au u), .int (b0 k), .long (lN sec), .int (b3 k), .int 2, .long (lN x), .long (lN y), .long (b9 k), .long c1, .long c2, .long c2, .long (lN rc)])), ((au u), .inr (1, [.int (nI u), .int ns, .int (a1 u), .long (lN uo), .long ul, .long (lN uv), .int 0, .int (a6 u), .int (a7 u), .int (a8 u)])), (qo, .inl ((ct 1), 1, .inr (.inl (vp_updL og 0 ((2 : Int32).toInt64)))))] : va_W) = ((lw_W ct hd us op hm qo qa fu au ns n ck n ck th hh a1 a2 a3 a4 a5 a6 a7 a8 a9 b0 b1 b2 b3 b4 b5 b6 b7 b8 b9 b10 (vp_updL og 0 ((2 : Int32).toInt64)) fo ad (va_up eu u (.inr (1, [.int (nI u), .int ns, .int (a1 u), .long (lN uo), .long ul, .long (lN uv), .int 0, .int (a6 u), .int (a7 u), .int (a8 u)]))) (va_up es k (.inr (3, [.ref (au u), .int (b0 k), .long (lN sec), .int (b3 k), .int 2, .long (lN x), .long (lN y), .long (b9 k), .long c1, .long c2, .long c2, .long (lN rc)])))) : va_W) := (ws_k rfl (ws_k rfl (ws_c (lw_ss rfl) (ws_c (lw_su rfl hu8) (ws_c (ws' := ([(hm, .inr (4, [.int th, .long ns.toInt64, .int ck, .long hh, .ref (qa 1), .ref (qa 2), .ref (qa 3), .ref (qa 4), .ref (qa 5), .ref (qa 6), .ref (qa 7), .ref (qa 8), .int (nI n), .ref (qa 9), .ref (qa 10), .ref (qa 11), .ref (qa 12), .ref (qa 13), .ref (qa 14), .ref (qa 15), .ref (qa 16), .ref (qa 17), .ref (qa 18), .ref (qa 19), .ref (qa 20)])), ((qa 1), .inl ((ct 0), 8, .inl a1)), ((qa 2), .inl ((ct 1), 8, .inr (.inl a2))), ((qa 3), .inl ((ct 1), 8, .inr (.inl a3))), ((qa 4), .inl ((ct 1), 8, .inr (.inl a4))), ((qa 5), .inl ((ct 0), 8, .inl a5)), ((qa 6), .inl ((ct 0), 8, .inl a6)), ((qa 7), .inl ((ct 0), 8, .inl a7)), ((qa 8), .inl ((ct 0), 8, .inl a8)), ((qa 9), .inl ((ct 2), 40, .inl a9)), ((qa 10), .inl ((ct 0), 40, .inl b0)), ((qa 11), .inl ((ct 0), 40, .inl b1)), ((qa 12), .inl ((ct 0), 40, .inl b2)), ((qa 13), .inl ((ct 0), 40, .inl b3)), ((qa 14), .inl ((ct 1), 40, .inr (.inl b4))), ((qa 15), .inl ((ct 1), 40, .inr (.inl b5))), ((qa 16), .inl ((ct 1), 40, .inr (.inl b6))), ((qa 17), .inl ((ct 1), 40, .inr (.inl b7))), ((qa 18), .inl ((ct 1), 40, .inr (.inl b8))), ((qa 19), .inl ((ct 1), 40, .inr (.inl b9))), ((qa 20), .inl ((ct 1), 40, .inr (.inl b10))), (qo, .inl ((ct 1), 1, .inr (.inl (vp_updL og 0 ((2 : Int32).toInt64))))), (hd, .inr (0, [.ref us, .ref op, .int (nI n), .int ck])), (us, .inl ((ct 3), 8, .inr (.inr (.inr (.inr fu))))), (op, .inl ((ct 4), 40, .inr (.inr (.inr (.inr fo)))))] ++ (ix_w 8 au (va_up eu u (.inr (1, [.int (nI u), .int ns, .int (a1 u), .long (lN uo), .long ul, .long (lN uv), .int 0, .int (a6 u), .int (a7 u), .int (a8 u)]))) ++ ix_w n ad (va_up es k (.inr (3, [.ref (au u), .int (b0 k), .long (lN sec), .int (b3 k), .int 2, .long (lN x), .long (lN y), .long (b9 k), .long c1, .long c2, .long c2, .long (lN rc)])))))) rfl rfl)))))
  refine wk_i (sh_run (As := [.ref hd, .int (nI k), .long (lj (xs (iv + 2)) (xs (iv + 3))), .ref qo]) (rest := []) (hs := [(0, 11, 14, 25), (0, 11, 18, 15), (0, 11, 22, 13), (0, 11, 26, 27)]) ⟨hx, hb, hml, hown, hts⟩ (c_L_receiveGV l G ct H.size hd us op n ck fo k (ad k) (au u) (b0 k) sec (b3 k) (b2 k) x y (b9 k) c1 c2 (b10 k) rc (nI u) ns (a1 u) uo ul uv (a5 u) (a6 u) (a7 u) (a8 u) (lj (xs (iv + 2)) (xs (iv + 3))) qo og d_hn d_hkn d_hfo d_hst d_haw) wk_ret ⟨hw, ww_417, ww_0, ⟨by decide, by decide⟩, np_L_receive, ww_415, ww_416, rfl, rfl, Nat.le_of_ble_eq_true rfl, Nat.le_of_ble_eq_true rfl⟩ (wk_pre hPc hK hDc) rfl hl.1 rfl (lv_room (Nat.le_of_ble_eq_true rfl)) d_L_law_623 ⟨by omega, by omega⟩) hP hD hS hA [22, 24, 25 + (8 + k), 25 + u, 21] hn9 hC9 (fun _ => by simp only [List.map_cons, List.map_nil]) (fun _ H locs _ hP hD hS => ?_)
  have hP : va_P G classes (lw_W ct hd us op hm qo qa fu au ns n ck n ck th hh a1 a2 a3 a4 a5 a6 a7 a8 a9 b0 b1 b2 b3 b4 b5 b6 b7 b8 b9 b10 (vp_updL og 0 ((2 : Int32).toInt64)) fo ad (va_up eu u (.inr (1, [.int (nI u), .int ns, .int (a1 u), .long (lN uo), .long ul, .long (lN uv), .int 0, .int (a6 u), .int (a7 u), .int (a8 u)]))) (va_up es k (.inr (3, [.ref (au u), .int (b0 k), .long (lN sec), .int (b3 k), .int 2, .long (lN x), .long (lN y), .long (b9 k), .long c1, .long c2, .long c2, .long (lN rc)])))) H := lp_P hW9 hP
  have hD : va_D A (lw_W ct hd us op hm qo qa fu au ns n ck n ck th hh a1 a2 a3 a4 a5 a6 a7 a8 a9 b0 b1 b2 b3 b4 b5 b6 b7 b8 b9 b10 (vp_updL og 0 ((2 : Int32).toInt64)) fo ad (va_up eu u (.inr (1, [.int (nI u), .int ns, .int (a1 u), .long (lN uo), .long ul, .long (lN uv), .int 0, .int (a6 u), .int (a7 u), .int (a8 u)]))) (va_up es k (.inr (3, [.ref (au u), .int (b0 k), .long (lN sec), .int (b3 k), .int 2, .long (lN x), .long (lN y), .long (b9 k), .long c1, .long c2, .long c2, .long (lN rc)])))) := lp_D hW9 hD
  refine lv_istore (lv' := [(5, .int 0), (4, .int (nI iv)), (3, .ref qo), (2, .ref hm), (1, .ref hd), (0, .ref b)]) hx hb d_L_law_626 hl (Nat.le_of_ble_eq_true rfl) rfl (fun ls hl => ?_)
  refine lv_aload_n hx hb d_L_law_628 rfl (lv_at hl 3 rfl) ?_
  refine lv_aload_n hx hb d_L_law_629 rfl (lv_at hl 5 rfl) ?_
  refine lv_iload hx hb d_L_law_630 (lv_at hl 1 rfl) ?_
  refine lv_iconst (v := 1) hx hb d_L_law_632 (by decide) ?_
  refine lv_iadd hx hb d_L_law_633 ?_
  refine sl_ld (j := iv) (d := 1) hx hb hX hbl hbA hS hL (by omega) d_L_law_634 ?_
  refine tp_i (hv1) ?_
  refine lv_aload_n hx hb d_L_law_635 rfl (lv_at hl 5 rfl) ?_
  refine lv_iload hx hb d_L_law_636 (lv_at hl 1 rfl) ?_
  refine lv_iconst (v := 2) hx hb d_L_law_638 (by decide) ?_
  refine lv_iadd hx hb d_L_law_639 ?_
  refine sl_ld (j := iv) (d := 2) hx hb hX hbl hbA hS hL (by omega) d_L_law_640 ?_
  refine lv_i2l (v := (xs (iv + 2)).toInt64) hx hb d_L_law_641 rfl ?_
  refine lv_bipush (v := 32) hx hb d_L_law_642 (by decide) ?_
  refine lv_lshl (v := ((xs (iv + 2)).toInt64) <<< ((32 : Int32).toInt64 &&& 63)) hx hb d_L_law_644 rfl ?_
  refine lv_aload_n hx hb d_L_law_645 rfl (lv_at hl 5 rfl) ?_
  refine lv_iload hx hb d_L_law_646 (lv_at hl 1 rfl) ?_
  refine lv_iconst (v := 3) hx hb d_L_law_648 (by decide) ?_
  refine lv_iadd hx hb d_L_law_649 ?_
  refine sl_ld (j := iv) (d := 3) hx hb hX hbl hbA hS hL (by omega) d_L_law_650 ?_
  refine lv_i2l (v := (xs (iv + 3)).toInt64) hx hb d_L_law_651 rfl ?_
  refine lv_ldc2 (v := 4294967295) hx hb hown (hw _ ww_884) d_L_law_652 ?_
  refine lv_land hx hb d_L_law_655 ?_
  refine lv_lor hx hb d_L_law_656 ?_
  refine tp_l (rfl) ?_
  have hPc : va_P G classes [(hm, .inr (4, [.int th, .long ns.toInt64, .int ck, .long hh, .ref (qa 1), .ref (qa 2), .ref (qa 3), .ref (qa 4), .ref (qa 5), .ref (qa 6), .ref (qa 7), .ref (qa 8), .int (nI n), .ref (qa 9), .ref (qa 10), .ref (qa 11), .ref (qa 12), .ref (qa 13), .ref (qa 14), .ref (qa 15), .ref (qa 16), .ref (qa 17), .ref (qa 18), .ref (qa 19), .ref (qa 20)])), ((qa 5), .inl ((ct 0), 8, .inl a5)), ((qa 6), .inl ((ct 0), 8, .inl a6)), ((qa 7), .inl ((ct 0), 8, .inl a7)), ((qa 8), .inl ((ct 0), 8, .inl a8)), ((qa 9), .inl ((ct 2), 40, .inl a9)), ((qa 11), .inl ((ct 0), 40, .inl b1)), ((qa 12), .inl ((ct 0), 40, .inl b2)), ((qa 13), .inl ((ct 0), 40, .inl b3)), ((qa 17), .inl ((ct 1), 40, .inr (.inl b7))), ((qa 18), .inl ((ct 1), 40, .inr (.inl b8))), ((qa 19), .inl ((ct 1), 40, .inr (.inl b9))), ((qa 20), .inl ((ct 1), 40, .inr (.inl b10)))] H := hP.sub [0, 5, 6, 7, 8, 9, 11, 12, 13, 17, 18, 19, 20] rfl
  have hDc := hD.sub (ws' := [(hm, .inr (4, [.int th, .long ns.toInt64, .int ck, .long hh, .ref (qa 1), .ref (qa 2), .ref (qa 3), .ref (qa 4), .ref (qa 5), .ref (qa 6), .ref (qa 7), .ref (qa 8), .int (nI n), .ref (qa 9), .ref (qa 10), .ref (qa 11), .ref (qa 12), .ref (qa 13), .ref (qa 14), .ref (qa 15), .ref (qa 16), .ref (qa 17), .ref (qa 18), .ref (qa 19), .ref (qa 20)])), ((qa 5), .inl ((ct 0), 8, .inl a5)), ((qa 6), .inl ((ct 0), 8, .inl a6)), ((qa 7), .inl ((ct 0), 8, .inl a7)), ((qa 8), .inl ((ct 0), 8, .inl a8)), ((qa 9), .inl ((ct 2), 40, .inl a9)), ((qa 11), .inl ((ct 0), 40, .inl b1)), ((qa 12), .inl ((ct 0), 40, .inl b2)), ((qa 13), .inl ((ct 0), 40, .inl b3)), ((qa 17), .inl ((ct 1), 40, .inr (.inl b7))), ((qa 18), .inl ((ct 1), 40, .inr (.inl b8))), ((qa 19), .inl ((ct 1), 40, .inr (.inl b9))), ((qa 20), .inl ((ct 1), 40, .inr (.inl b10)))]) [0, 5, 6, 7, 8, 9, 11, 12, 13, 17, 18, 19, 20] (by decide) rfl
  refine wk_i (va_runV (As := [.int (nI k), .long (lj (xs (iv + 2)) (xs (iv + 3)))]) (rest := []) ⟨hx, hb, hml, hown, hts⟩ (c_M_receive_FV1 l G ct H.size hm th ns.toInt64 ck hh (qa 1) (qa 2) (qa 3) (qa 4) (qa 5) (qa 6) (qa 7) (qa 8) (qa 9) (qa 10) (qa 11) (qa 12) (qa 13) (qa 14) (qa 15) (qa 16) (qa 17) (qa 18) (qa 19) (qa 20) n a5 a6 a7 a8 a9 b1 b2 b3 b7 b8 b9 b10 k u (lj (xs (iv + 2)) (xs (iv + 3))) m_hn m_hkn m_hst m_hsv m_hu m_hu8 m_haw) (tb_V hw cy_M_receive ww_804 ww_805 ww_806 rfl rfl ⟨Nat.le_of_ble_eq_true rfl, Nat.le_of_ble_eq_true rfl⟩) (wk_preV (ci := 4) (q0 := 0) hPc hK hDc rfl rfl) rfl rfl hl.1 rfl (lv_room (Nat.le_of_ble_eq_true rfl)) d_L_law_657 ⟨by omega, by omega⟩) hP hD hS hA [0, 5, 6, 7, 8, 9, 11, 12, 13, 17, 18, 19, 20] (by decide) rfl (fun _ => by simp only [List.map_cons, List.map_nil]) (fun z21178 H locs ok1179 hP hD hS => ?_)
  have hP : va_P G classes (lw_W ct hd us op hm qo qa fu au ns n ck n ck 0 z21178 a1 a2 a3 a4 (upd a5 u 0) a6 a7 a8 a9 b0 b1 (upd b2 k 2) b3 b4 b5 b6 b7 b8 b9 (vp_updL b10 k (dg_3 10 (b9 k) (dg_4 9 (b9 k) (b7 k) (b8 k)))) (vp_updL og 0 ((2 : Int32).toInt64)) fo ad (va_up eu u (.inr (1, [.int (nI u), .int ns, .int (a1 u), .long (lN uo), .long ul, .long (lN uv), .int 0, .int (a6 u), .int (a7 u), .int (a8 u)]))) (va_up es k (.inr (3, [.ref (au u), .int (b0 k), .long (lN sec), .int (b3 k), .int 2, .long (lN x), .long (lN y), .long (b9 k), .long c1, .long c2, .long c2, .long (lN rc)])))) H := hP
  have hD : va_D A (lw_W ct hd us op hm qo qa fu au ns n ck n ck 0 z21178 a1 a2 a3 a4 (upd a5 u 0) a6 a7 a8 a9 b0 b1 (upd b2 k 2) b3 b4 b5 b6 b7 b8 b9 (vp_updL b10 k (dg_3 10 (b9 k) (dg_4 9 (b9 k) (b7 k) (b8 k)))) (vp_updL og 0 ((2 : Int32).toInt64)) fo ad (va_up eu u (.inr (1, [.int (nI u), .int ns, .int (a1 u), .long (lN uo), .long ul, .long (lN uv), .int 0, .int (a6 u), .int (a7 u), .int (a8 u)]))) (va_up es k (.inr (3, [.ref (au u), .int (b0 k), .long (lN sec), .int (b3 k), .int 2, .long (lN x), .long (lN y), .long (b9 k), .long c1, .long c2, .long c2, .long (lN rc)])))) := hD
  refine lv_istore (lv' := [(6, .int 2), (5, .int 0), (4, .int (nI iv)), (3, .ref qo), (2, .ref hm), (1, .ref hd), (0, .ref b)]) hx hb d_L_law_660 hl (Nat.le_of_ble_eq_true rfl) rfl (fun ls hl => ?_)
  refine lv_aload_n hx hb d_L_law_662 rfl (lv_at hl 4 rfl) ?_
  have hPc : va_P G classes [(hm, .inr (4, [.int 0, .long ns.toInt64, .int ck, .long z21178, .ref (qa 1), .ref (qa 2), .ref (qa 3), .ref (qa 4), .ref (qa 5), .ref (qa 6), .ref (qa 7), .ref (qa 8), .int (nI n), .ref (qa 9), .ref (qa 10), .ref (qa 11), .ref (qa 12), .ref (qa 13), .ref (qa 14), .ref (qa 15), .ref (qa 16), .ref (qa 17), .ref (qa 18), .ref (qa 19), .ref (qa 20)]))] H := hP.sub [0] rfl
  have hDc := hD.sub (ws' := [(hm, .inr (4, [.int 0, .long ns.toInt64, .int ck, .long z21178, .ref (qa 1), .ref (qa 2), .ref (qa 3), .ref (qa 4), .ref (qa 5), .ref (qa 6), .ref (qa 7), .ref (qa 8), .int (nI n), .ref (qa 9), .ref (qa 10), .ref (qa 11), .ref (qa 12), .ref (qa 13), .ref (qa 14), .ref (qa 15), .ref (qa 16), .ref (qa 17), .ref (qa 18), .ref (qa 19), .ref (qa 20)]))]) [0] (by decide) rfl
  refine vp_callSi (W.runV (As := []) (rest := []) ⟨hx, hb, hml, hown, hts⟩ (c_M_thrown l G ct H.size hm 0 ns.toInt64 ck z21178 (qa 1) (qa 2) (qa 3) (qa 4) (qa 5) (qa 6) (qa 7) (qa 8) (qa 9) (qa 10) (qa 11) (qa 12) (qa 13) (qa 14) (qa 15) (qa 16) (qa 17) (qa 18) (qa 19) (qa 20) n) (tb_V hw cy_M_thrown ww_719 ww_720 ww_721 rfl rfl ⟨Nat.le_of_ble_eq_true rfl, Nat.le_of_ble_eq_true rfl⟩) (wk_preV (ci := 4) (q0 := 0) hPc hK hDc rfl rfl) rfl rfl hl.1 rfl (lv_room (Nat.le_of_ble_eq_true rfl)) d_L_law_663 ⟨by omega, by omega⟩) (fun r1180 er1180 => ?_)
  subst er1180
  refine lv_iload hx hb d_L_law_666 (lv_at hl 1 rfl) ?_
  refine lv_icmp_eq (tgt := 673) hx hb d_L_law_668 (by decide) (fun h1181 => ?_) (fun h1181 => ?_)
  · refine lv_iload hx hb d_L_law_673 (lv_at hl 1 rfl) ?_
    refine lv_if_ne (tgt := 690) hx hb d_L_law_675 (by decide) (fun h1182 => ?_) (fun h1182 => ?_)
    · exact absurd h1182 (by decide)
    · refine lv_aload_n hx hb d_L_law_678 rfl (lv_at hl 3 rfl) ?_
      refine lv_iconst (v := 0) hx hb d_L_law_679 (by decide) ?_
      refine ra_ll hx hb hK.1 hP 21 1 rfl rfl (k := 0) (by omega) (by decide) d_L_law_680 ?_
      refine tp_l (ul_se _ _ _) ?_
      refine lv_iload hx hb d_L_law_681 (lv_at hl 0 rfl) ?_
      refine lv_i2l (v := (2 : Int32).toInt64) hx hb d_L_law_683 rfl ?_
      refine W.lcmp hx hb d_L_law_684 ?_
      refine lv_if_eq (tgt := 690) hx hb d_L_law_685 (by decide) (fun h1183 => ?_) (fun h1183 => ?_)
      · have h1183 := (lg_cmp_eq _ _).mp h1183
        refine lv_goto (tgt := 1005) hx hb d_L_law_690 (by decide) ?_
        refine W.widen (k := cells + 1) (n := slots + 13) (by omega) (by omega) ?_
        exact kk n ck 0 z21178 a1 a2 a3 a4 (upd a5 u 0) a6 a7 a8 a9 b0 b1 (upd b2 k 2) b3 b4 b5 b6 b7 b8 b9 (vp_updL b10 k (dg_3 10 (b9 k) (dg_4 9 (b9 k) (b7 k) (b8 k)))) (vp_updL og 0 ((2 : Int32).toInt64)) fo ad (va_up eu u (.inr (1, [.int (nI u), .int ns, .int (a1 u), .long (lN uo), .long ul, .long (lN uv), .int 0, .int (a6 u), .int (a7 u), .int (a8 u)]))) (va_up es k (.inr (3, [.ref (au u), .int (b0 k), .long (lN sec), .int (b3 k), .int 2, .long (lN x), .long (lN y), .long (b9 k), .long c1, .long c2, .long c2, .long (lN rc)]))) H locs _ hnew hP hD hS (lv_sub hl [2, 3, 4, 5, 6] rfl)
      · have h1183 := fun q => h1183 ((lg_cmp_eq _ _).mpr q)
        exact absurd rfl h1183
  · exact absurd h1181 (by decide)
set_option maxHeartbeats 4000000 in
set_option maxRecDepth 100000 in
theorem lq_receive_XC_XC {k : Nat} {u : Nat} {sec : Nat} {x : Nat} {y : Nat} {rc : Nat} {c1 : Int64} {c2 : Int64} {uo : Nat} {ul : Int64} {uv : Nat} (C0 : lc_C p l s m meth c b L xs G ct A) (hiv : iv + 7 ≤ L) (hcc : cells + 1 ≤ room_1.cells) (hzz : slots + 13 ≤ room_1.slots)
    (hP : va_P G classes (lw_W ct hd us op hm qo qa fu au ns n ck n ck th hh a1 a2 a3 a4 a5 a6 a7 a8 a9 b0 b1 b2 b3 b4 b5 b6 b7 b8 b9 b10 og fo ad eu es) H) (hD : va_D A (lw_W ct hd us op hm qo qa fu au ns n ck n ck th hh a1 a2 a3 a4 a5 a6 a7 a8 a9 b0 b1 b2 b3 b4 b5 b6 b7 b8 b9 b10 og fo ad eu es)) (hS : va_S A s.heap H locs) (hl : lv_has ls 8 [(4, .int (nI iv)), (3, .ref qo), (2, .ref hm), (1, .ref hd), (0, .ref b)])
    (kk : lc_K p l e s m below meth c b L xs G ct A hd us op hm qo qa fu au ns iv (cells + 1) (slots + 13) Q)
    (hv1 : xs (iv + 1) = nI k) (hkn : k < n) (hes : es k = .inr (2, [.ref (au u), .int (b0 k), .long (lN sec), .int (b3 k), .int (b2 k), .long (lN x), .long (lN y), .long (b9 k), .long c1, .long c2, .long (b10 k), .long (b5 k), .long (lN rc)])) (hu8 : u < 8) (heu : eu u = .inr (1, [.int (nI u), .int ns, .int (a1 u), .long (lN uo), .long ul, .long (lN uv), .int (a5 u), .int (a6 u), .int (a7 u), .int (a8 u)])) (d_hn : n ≤ 40) (d_hkn : k < n) (d_hfo : fo k = some (ad k)) (d_hst : se_at (b2 k) (b3 k) ck = 0) (d_hs1 : sec < pq_Q) (d_hr0 : 1 ≤ rc) (d_hr1 : rc < pq_Q) (d_hrt : ¬ rt_c (b0 k) rc (lj (xs (iv + 2)) (xs (iv + 3)))) (m_hn : n ≤ 40) (m_hkn : k < n) (m_hst : sm_at (b2 k) (b3 k) ck = 0) (m_hsv : a9 k = 0) (m_hrc : b6 k = lN rc) (m_hq1 : ¬ b0 k = 1 → 1 ≤ rc ∧ rc < pq_Q) (m_hrt : ¬ rt_c (b0 k) rc (lj (xs (iv + 2)) (xs (iv + 3))))  (hnew : li_R fu au ns n a1 a2 a3 a4 a5 a6 a7 a8 a9 b0 b1 (upd b2 k 3) b3 b4 b5 b6 b7 b8 b9 b10 fo ad eu (va_up es k (.inr (2, [.ref (au u), .int (b0 k), .long (lN sec), .int (b3 k), .int 3, .long (lN x), .long (lN y), .long (b9 k), .long c1, .long c2, .long (b10 k), .long (b5 k), .long (lN rc)]))))  : W p l e room_1 s m #[Value.ref b] below meth c H locs cells slots Q (F0 m 593 ls []) := by
  obtain ⟨hx, hb, hr, hml, hown, hw, hK, hZ, hR, hN, hfl, hA, hbA, hX, hbl, hL, hlocks⟩ := C0
  have hts := hw
  have hP : va_P G classes (lw_W ct hd us op hm qo qa fu au ns n ck n ck th hh a1 a2 a3 a4 a5 a6 a7 a8 a9 b0 b1 b2 b3 b4 b5 b6 b7 b8 b9 b10 og fo ad eu es) H := hP
  have hD : va_D A (lw_W ct hd us op hm qo qa fu au ns n ck n ck th hh a1 a2 a3 a4 a5 a6 a7 a8 a9 b0 b1 b2 b3 b4 b5 b6 b7 b8 b9 b10 og fo ad eu es) := hD
  refine lv_aload_n hx hb d_L_law_593 rfl (lv_at hl 3 rfl) ?_
  refine lv_aload_n hx hb d_L_law_594 rfl (lv_at hl 4 rfl) ?_
  refine lv_iload hx hb d_L_law_595 (lv_at hl 0 rfl) ?_
  refine lv_iconst (v := 1) hx hb d_L_law_597 (by decide) ?_
  refine lv_iadd hx hb d_L_law_598 ?_
  refine sl_ld (j := iv) (d := 1) hx hb hX hbl hbA hS hL (by omega) d_L_law_599 ?_
  refine tp_i (hv1) ?_
  refine lv_aload_n hx hb d_L_law_600 rfl (lv_at hl 4 rfl) ?_
  refine lv_iload hx hb d_L_law_601 (lv_at hl 0 rfl) ?_
  refine lv_iconst (v := 2) hx hb d_L_law_603 (by decide) ?_
  refine lv_iadd hx hb d_L_law_604 ?_
  refine sl_ld (j := iv) (d := 2) hx hb hX hbl hbA hS hL (by omega) d_L_law_605 ?_
  refine lv_i2l (v := (xs (iv + 2)).toInt64) hx hb d_L_law_606 rfl ?_
  refine lv_bipush (v := 32) hx hb d_L_law_607 (by decide) ?_
  refine lv_lshl (v := ((xs (iv + 2)).toInt64) <<< ((32 : Int32).toInt64 &&& 63)) hx hb d_L_law_609 rfl ?_
  refine lv_aload_n hx hb d_L_law_610 rfl (lv_at hl 4 rfl) ?_
  refine lv_iload hx hb d_L_law_611 (lv_at hl 0 rfl) ?_
  refine lv_iconst (v := 3) hx hb d_L_law_613 (by decide) ?_
  refine lv_iadd hx hb d_L_law_614 ?_
  refine sl_ld (j := iv) (d := 3) hx hb hX hbl hbA hS hL (by omega) d_L_law_615 ?_
  refine lv_i2l (v := (xs (iv + 3)).toInt64) hx hb d_L_law_616 rfl ?_
  refine lv_ldc2 (v := 4294967295) hx hb hown (hw _ ww_884) d_L_law_617 ?_
  refine lv_land hx hb d_L_law_620 ?_
  refine lv_lor hx hb d_L_law_621 ?_
  refine tp_l (rfl) ?_
  refine lv_aload_n hx hb d_L_law_622 rfl (lv_at hl 1 rfl) ?_
  have hC9 : List.map (fun i => ((lw_W ct hd us op hm qo qa fu au ns n ck n ck th hh a1 a2 a3 a4 a5 a6 a7 a8 a9 b0 b1 b2 b3 b4 b5 b6 b7 b8 b9 b10 og fo ad eu es) : va_W)[i]?) [22, 24, 25 + (8 + k), 25 + u, 21] = List.map some ([(hd, .inr (0, [.ref us, .ref op, .int (nI n), .int ck])), (op, .inl ((ct 4), 40, .inr (.inr (.inr (.inr fo))))), ((ad k), .inr (2, [.ref (au u), .int (b0 k), .long (lN sec), .int (b3 k), .int (b2 k), .long (lN x), .long (lN y), .long (b9 k), .long c1, .long c2, .long (b10 k), .long (b5 k), .long (lN rc)])), ((au u), .inr (1, [.int (nI u), .int ns, .int (a1 u), .long (lN uo), .long ul, .long (lN uv), .int (a5 u), .int (a6 u), .int (a7 u), .int (a8 u)])), (qo, .inl ((ct 1), 1, .inr (.inl og)))] : va_W) := (wc_c rfl (wc_c rfl (wc_c (lw_s rfl hkn hes) (wc_c (lw_u rfl hu8 heu) (wc_c rfl rfl)))))
  have hn9 : va_nd [22, 24, 25 + (8 + k), 25 + u, 21] = true := (nd_c (by simp only [List.mem_cons, List.not_mem_nil, or_false]; omega) (nd_c (by simp only [List.mem_cons, List.not_mem_nil, or_false]; omega) (nd_c (by simp only [List.mem_cons, List.not_mem_nil, or_false]; omega) (nd_c (by simp only [List.mem_cons, List.not_mem_nil, or_false]; omega) (nd_c List.not_mem_nil rfl)))))
  have hPc : va_P G classes [(hd, .inr (0, [.ref us, .ref op, .int (nI n), .int ck])), (op, .inl ((ct 4), 40, .inr (.inr (.inr (.inr fo))))), ((ad k), .inr (2, [.ref (au u), .int (b0 k), .long (lN sec), .int (b3 k), .int (b2 k), .long (lN x), .long (lN y), .long (b9 k), .long c1, .long c2, .long (b10 k), .long (b5 k), .long (lN rc)])), ((au u), .inr (1, [.int (nI u), .int ns, .int (a1 u), .long (lN uo), .long ul, .long (lN uv), .int (a5 u), .int (a6 u), .int (a7 u), .int (a8 u)])), (qo, .inl ((ct 1), 1, .inr (.inl og)))] H := lp_sub hP [22, 24, 25 + (8 + k), 25 + u, 21] hC9
  have hDc := hD.sub (ws' := [(hd, .inr (0, [.ref us, .ref op, .int (nI n), .int ck])), (op, .inl ((ct 4), 40, .inr (.inr (.inr (.inr fo))))), ((ad k), .inr (2, [.ref (au u), .int (b0 k), .long (lN sec), .int (b3 k), .int (b2 k), .long (lN x), .long (lN y), .long (b9 k), .long c1, .long c2, .long (b10 k), .long (b5 k), .long (lN rc)])), ((au u), .inr (1, [.int (nI u), .int ns, .int (a1 u), .long (lN uo), .long ul, .long (lN uv), .int (a5 u), .int (a6 u), .int (a7 u), .int (a8 u)])), (qo, .inl ((ct 1), 1, .inr (.inl og)))]) [22, 24, 25 + (8 + k), 25 + u, 21] hn9 hC9
  have hW9 : wk_sets ((lw_W ct hd us op hm qo qa fu au ns n ck n ck th hh a1 a2 a3 a4 a5 a6 a7 a8 a9 b0 b1 b2 b3 b4 b5 b6 b7 b8 b9 b10 og fo ad eu es) : va_W) [22, 24, 25 + (8 + k), 25 + u, 21] ([(hd, .inr (0, [.ref us, .ref op, .int (nI n), .int ck])), (op, .inl ((ct 4), 40, .inr (.inr (.inr (.inr fo))))), ((ad k), .inr (2, [.ref (au u), .int (b0 k), .long (lN sec), .int (b3 k), .int 3, .long (lN x), .long (lN y), .long (b9 k), .long c1, .long c2, .long (b10 k), .long (b5 k), .long (lN rc)])), ((au u), .inr (1, [.int (nI u), .int ns, .int (a1 u), .long (lN uo), .long ul, .long (lN uv), .int (a5 u), .int (a6 u), .int (a7 u), .int (a8 u)])), (qo, .inl ((ct 1), 1, .inr (.inl og)))] : va_W) = ((lw_W ct hd us op hm qo qa fu au ns n ck n ck th hh a1 a2 a3 a4 a5 a6 a7 a8 a9 b0 b1 b2 b3 b4 b5 b6 b7 b8 b9 b10 og fo ad eu (va_up es k (.inr (2, [.ref (au u), .int (b0 k), .long (lN sec), .int (b3 k), .int 3, .long (lN x), .long (lN y), .long (b9 k), .long c1, .long c2, .long (b10 k), .long (b5 k), .long (lN rc)])))) : va_W) := (ws_k rfl (ws_k rfl (ws_c (lw_ss rfl) (ws_k (lw_u rfl hu8 heu) (ws_k rfl rfl)))))
  refine wk_i (sh_run (As := [.ref hd, .int (nI k), .long (lj (xs (iv + 2)) (xs (iv + 3))), .ref qo]) (rest := []) (hs := [(0, 11, 14, 25), (0, 11, 18, 15), (0, 11, 22, 13), (0, 11, 26, 27)]) ⟨hx, hb, hml, hown, hts⟩ (c_L_receive_XC l hfl G ct H.size hd us op n ck fo k (ad k) (au u) (b0 k) sec (b3 k) (b2 k) x y (b9 k) c1 c2 (b10 k) (b5 k) rc (nI u) ns (a1 u) uo ul uv (a5 u) (a6 u) (a7 u) (a8 u) (lj (xs (iv + 2)) (xs (iv + 3))) qo og d_hn d_hkn d_hfo d_hst d_hs1 d_hr0 d_hr1 d_hrt) wk_ret ⟨hw, ww_417, ww_0, ⟨by decide, by decide⟩, np_L_receive, ww_415, ww_416, rfl, rfl, Nat.le_of_ble_eq_true rfl, Nat.le_of_ble_eq_true rfl⟩ (wk_pre5 hPc hK hDc hD hS hA [22, 24, 25 + (8 + k), 25 + u, 21] hC9 hZ hR hN) rfl hl.1 rfl (lv_room (Nat.le_of_ble_eq_true rfl)) d_L_law_623 ⟨by omega, by omega⟩) hP hD hS hA [22, 24, 25 + (8 + k), 25 + u, 21] hn9 hC9 (fun _ => by simp only [List.map_cons, List.map_nil]) (fun _ H locs _ hP hD hS => ?_)
  have hP : va_P G classes (lw_W ct hd us op hm qo qa fu au ns n ck n ck th hh a1 a2 a3 a4 a5 a6 a7 a8 a9 b0 b1 b2 b3 b4 b5 b6 b7 b8 b9 b10 og fo ad eu (va_up es k (.inr (2, [.ref (au u), .int (b0 k), .long (lN sec), .int (b3 k), .int 3, .long (lN x), .long (lN y), .long (b9 k), .long c1, .long c2, .long (b10 k), .long (b5 k), .long (lN rc)])))) H := lp_P hW9 hP
  have hD : va_D A (lw_W ct hd us op hm qo qa fu au ns n ck n ck th hh a1 a2 a3 a4 a5 a6 a7 a8 a9 b0 b1 b2 b3 b4 b5 b6 b7 b8 b9 b10 og fo ad eu (va_up es k (.inr (2, [.ref (au u), .int (b0 k), .long (lN sec), .int (b3 k), .int 3, .long (lN x), .long (lN y), .long (b9 k), .long c1, .long c2, .long (b10 k), .long (b5 k), .long (lN rc)])))) := lp_D hW9 hD
  refine lv_istore (lv' := [(5, .int 3), (4, .int (nI iv)), (3, .ref qo), (2, .ref hm), (1, .ref hd), (0, .ref b)]) hx hb d_L_law_626 hl (Nat.le_of_ble_eq_true rfl) rfl (fun ls hl => ?_)
  refine lv_aload_n hx hb d_L_law_628 rfl (lv_at hl 3 rfl) ?_
  refine lv_aload_n hx hb d_L_law_629 rfl (lv_at hl 5 rfl) ?_
  refine lv_iload hx hb d_L_law_630 (lv_at hl 1 rfl) ?_
  refine lv_iconst (v := 1) hx hb d_L_law_632 (by decide) ?_
  refine lv_iadd hx hb d_L_law_633 ?_
  refine sl_ld (j := iv) (d := 1) hx hb hX hbl hbA hS hL (by omega) d_L_law_634 ?_
  refine tp_i (hv1) ?_
  refine lv_aload_n hx hb d_L_law_635 rfl (lv_at hl 5 rfl) ?_
  refine lv_iload hx hb d_L_law_636 (lv_at hl 1 rfl) ?_
  refine lv_iconst (v := 2) hx hb d_L_law_638 (by decide) ?_
  refine lv_iadd hx hb d_L_law_639 ?_
  refine sl_ld (j := iv) (d := 2) hx hb hX hbl hbA hS hL (by omega) d_L_law_640 ?_
  refine lv_i2l (v := (xs (iv + 2)).toInt64) hx hb d_L_law_641 rfl ?_
  refine lv_bipush (v := 32) hx hb d_L_law_642 (by decide) ?_
  refine lv_lshl (v := ((xs (iv + 2)).toInt64) <<< ((32 : Int32).toInt64 &&& 63)) hx hb d_L_law_644 rfl ?_
  refine lv_aload_n hx hb d_L_law_645 rfl (lv_at hl 5 rfl) ?_
  refine lv_iload hx hb d_L_law_646 (lv_at hl 1 rfl) ?_
  refine lv_iconst (v := 3) hx hb d_L_law_648 (by decide) ?_
  refine lv_iadd hx hb d_L_law_649 ?_
  refine sl_ld (j := iv) (d := 3) hx hb hX hbl hbA hS hL (by omega) d_L_law_650 ?_
  refine lv_i2l (v := (xs (iv + 3)).toInt64) hx hb d_L_law_651 rfl ?_
  refine lv_ldc2 (v := 4294967295) hx hb hown (hw _ ww_884) d_L_law_652 ?_
  refine lv_land hx hb d_L_law_655 ?_
  refine lv_lor hx hb d_L_law_656 ?_
  refine tp_l (rfl) ?_
  have hPc : va_P G classes [(hm, .inr (4, [.int th, .long ns.toInt64, .int ck, .long hh, .ref (qa 1), .ref (qa 2), .ref (qa 3), .ref (qa 4), .ref (qa 5), .ref (qa 6), .ref (qa 7), .ref (qa 8), .int (nI n), .ref (qa 9), .ref (qa 10), .ref (qa 11), .ref (qa 12), .ref (qa 13), .ref (qa 14), .ref (qa 15), .ref (qa 16), .ref (qa 17), .ref (qa 18), .ref (qa 19), .ref (qa 20)])), ((qa 9), .inl ((ct 2), 40, .inl a9)), ((qa 10), .inl ((ct 0), 40, .inl b0)), ((qa 12), .inl ((ct 0), 40, .inl b2)), ((qa 13), .inl ((ct 0), 40, .inl b3)), ((qa 16), .inl ((ct 1), 40, .inr (.inl b6)))] H := hP.sub [0, 9, 10, 12, 13, 16] rfl
  have hDc := hD.sub (ws' := [(hm, .inr (4, [.int th, .long ns.toInt64, .int ck, .long hh, .ref (qa 1), .ref (qa 2), .ref (qa 3), .ref (qa 4), .ref (qa 5), .ref (qa 6), .ref (qa 7), .ref (qa 8), .int (nI n), .ref (qa 9), .ref (qa 10), .ref (qa 11), .ref (qa 12), .ref (qa 13), .ref (qa 14), .ref (qa 15), .ref (qa 16), .ref (qa 17), .ref (qa 18), .ref (qa 19), .ref (qa 20)])), ((qa 9), .inl ((ct 2), 40, .inl a9)), ((qa 10), .inl ((ct 0), 40, .inl b0)), ((qa 12), .inl ((ct 0), 40, .inl b2)), ((qa 13), .inl ((ct 0), 40, .inl b3)), ((qa 16), .inl ((ct 1), 40, .inr (.inl b6)))]) [0, 9, 10, 12, 13, 16] (by decide) rfl
  refine wk_i (va_runV (As := [.int (nI k), .long (lj (xs (iv + 2)) (xs (iv + 3)))]) (rest := []) ⟨hx, hb, hml, hown, hts⟩ (c_M_receive_XC l G ct H.size hm th ns.toInt64 ck hh (qa 1) (qa 2) (qa 3) (qa 4) (qa 5) (qa 6) (qa 7) (qa 8) (qa 9) (qa 10) (qa 11) (qa 12) (qa 13) (qa 14) (qa 15) (qa 16) (qa 17) (qa 18) (qa 19) (qa 20) n a9 b0 b2 b3 b6 k rc (lj (xs (iv + 2)) (xs (iv + 3))) m_hn m_hkn m_hst m_hsv m_hrc m_hq1 m_hrt) (tb_V hw cy_M_receive ww_804 ww_805 ww_806 rfl rfl ⟨Nat.le_of_ble_eq_true rfl, Nat.le_of_ble_eq_true rfl⟩) (wk_preV (ci := 4) (q0 := 0) hPc hK hDc rfl rfl) rfl rfl hl.1 rfl (lv_room (Nat.le_of_ble_eq_true rfl)) d_L_law_657 ⟨by omega, by omega⟩) hP hD hS hA [0, 9, 10, 12, 13, 16] (by decide) rfl (fun _ => by simp only [List.map_cons, List.map_nil]) (fun _ H locs ok1184 hP hD hS => ?_)
  have hP : va_P G classes (lw_W ct hd us op hm qo qa fu au ns n ck n ck 3 hh a1 a2 a3 a4 a5 a6 a7 a8 a9 b0 b1 (upd b2 k 3) b3 b4 b5 b6 b7 b8 b9 b10 og fo ad eu (va_up es k (.inr (2, [.ref (au u), .int (b0 k), .long (lN sec), .int (b3 k), .int 3, .long (lN x), .long (lN y), .long (b9 k), .long c1, .long c2, .long (b10 k), .long (b5 k), .long (lN rc)])))) H := hP
  have hD : va_D A (lw_W ct hd us op hm qo qa fu au ns n ck n ck 3 hh a1 a2 a3 a4 a5 a6 a7 a8 a9 b0 b1 (upd b2 k 3) b3 b4 b5 b6 b7 b8 b9 b10 og fo ad eu (va_up es k (.inr (2, [.ref (au u), .int (b0 k), .long (lN sec), .int (b3 k), .int 3, .long (lN x), .long (lN y), .long (b9 k), .long c1, .long c2, .long (b10 k), .long (b5 k), .long (lN rc)])))) := hD
  refine lv_istore (lv' := [(6, .int 0), (5, .int 3), (4, .int (nI iv)), (3, .ref qo), (2, .ref hm), (1, .ref hd), (0, .ref b)]) hx hb d_L_law_660 hl (Nat.le_of_ble_eq_true rfl) rfl (fun ls hl => ?_)
  refine lv_aload_n hx hb d_L_law_662 rfl (lv_at hl 4 rfl) ?_
  have hPc : va_P G classes [(hm, .inr (4, [.int 3, .long ns.toInt64, .int ck, .long hh, .ref (qa 1), .ref (qa 2), .ref (qa 3), .ref (qa 4), .ref (qa 5), .ref (qa 6), .ref (qa 7), .ref (qa 8), .int (nI n), .ref (qa 9), .ref (qa 10), .ref (qa 11), .ref (qa 12), .ref (qa 13), .ref (qa 14), .ref (qa 15), .ref (qa 16), .ref (qa 17), .ref (qa 18), .ref (qa 19), .ref (qa 20)]))] H := hP.sub [0] rfl
  have hDc := hD.sub (ws' := [(hm, .inr (4, [.int 3, .long ns.toInt64, .int ck, .long hh, .ref (qa 1), .ref (qa 2), .ref (qa 3), .ref (qa 4), .ref (qa 5), .ref (qa 6), .ref (qa 7), .ref (qa 8), .int (nI n), .ref (qa 9), .ref (qa 10), .ref (qa 11), .ref (qa 12), .ref (qa 13), .ref (qa 14), .ref (qa 15), .ref (qa 16), .ref (qa 17), .ref (qa 18), .ref (qa 19), .ref (qa 20)]))]) [0] (by decide) rfl
  refine vp_callSi (W.runV (As := []) (rest := []) ⟨hx, hb, hml, hown, hts⟩ (c_M_thrown l G ct H.size hm 3 ns.toInt64 ck hh (qa 1) (qa 2) (qa 3) (qa 4) (qa 5) (qa 6) (qa 7) (qa 8) (qa 9) (qa 10) (qa 11) (qa 12) (qa 13) (qa 14) (qa 15) (qa 16) (qa 17) (qa 18) (qa 19) (qa 20) n) (tb_V hw cy_M_thrown ww_719 ww_720 ww_721 rfl rfl ⟨Nat.le_of_ble_eq_true rfl, Nat.le_of_ble_eq_true rfl⟩) (wk_preV (ci := 4) (q0 := 0) hPc hK hDc rfl rfl) rfl rfl hl.1 rfl (lv_room (Nat.le_of_ble_eq_true rfl)) d_L_law_663 ⟨by omega, by omega⟩) (fun r1185 er1185 => ?_)
  subst er1185
  refine lv_iload hx hb d_L_law_666 (lv_at hl 1 rfl) ?_
  refine lv_icmp_eq (tgt := 673) hx hb d_L_law_668 (by decide) (fun h1186 => ?_) (fun h1186 => ?_)
  · refine lv_iload hx hb d_L_law_673 (lv_at hl 1 rfl) ?_
    refine lv_if_ne (tgt := 690) hx hb d_L_law_675 (by decide) (fun h1187 => ?_) (fun h1187 => ?_)
    · refine lv_goto (tgt := 1005) hx hb d_L_law_690 (by decide) ?_
      refine W.widen (k := cells + 1) (n := slots + 13) (by omega) (by omega) ?_
      exact kk n ck 3 hh a1 a2 a3 a4 a5 a6 a7 a8 a9 b0 b1 (upd b2 k 3) b3 b4 b5 b6 b7 b8 b9 b10 og fo ad eu (va_up es k (.inr (2, [.ref (au u), .int (b0 k), .long (lN sec), .int (b3 k), .int 3, .long (lN x), .long (lN y), .long (b9 k), .long c1, .long c2, .long (b10 k), .long (b5 k), .long (lN rc)]))) H locs _ hnew hP hD hS (lv_sub hl [2, 3, 4, 5, 6] rfl)
    · exact absurd h1187 (by decide)
  · exact absurd h1186 (by decide)
set_option maxHeartbeats 4000000 in
set_option maxRecDepth 100000 in
theorem lq_receive_XV_XV {k : Nat} {u : Nat} {sec : Nat} {x : Nat} {y : Nat} {rc : Nat} {c1 : Int64} {c2 : Int64} {uo : Nat} {ul : Int64} {uv : Nat} (C0 : lc_C p l s m meth c b L xs G ct A) (hiv : iv + 7 ≤ L) (hcc : cells + 1 ≤ room_1.cells) (hzz : slots + 13 ≤ room_1.slots)
    (hP : va_P G classes (lw_W ct hd us op hm qo qa fu au ns n ck n ck th hh a1 a2 a3 a4 a5 a6 a7 a8 a9 b0 b1 b2 b3 b4 b5 b6 b7 b8 b9 b10 og fo ad eu es) H) (hD : va_D A (lw_W ct hd us op hm qo qa fu au ns n ck n ck th hh a1 a2 a3 a4 a5 a6 a7 a8 a9 b0 b1 b2 b3 b4 b5 b6 b7 b8 b9 b10 og fo ad eu es)) (hS : va_S A s.heap H locs) (hl : lv_has ls 8 [(4, .int (nI iv)), (3, .ref qo), (2, .ref hm), (1, .ref hd), (0, .ref b)])
    (kk : lc_K p l e s m below meth c b L xs G ct A hd us op hm qo qa fu au ns iv (cells + 1) (slots + 13) Q)
    (hv1 : xs (iv + 1) = nI k) (hkn : k < n) (hes : es k = .inr (3, [.ref (au u), .int (b0 k), .long (lN sec), .int (b3 k), .int (b2 k), .long (lN x), .long (lN y), .long (b9 k), .long c1, .long c2, .long (b10 k), .long (lN rc)])) (hu8 : u < 8) (heu : eu u = .inr (1, [.int (nI u), .int ns, .int (a1 u), .long (lN uo), .long ul, .long (lN uv), .int (a5 u), .int (a6 u), .int (a7 u), .int (a8 u)])) (d_hn : n ≤ 40) (d_hkn : k < n) (d_hfo : fo k = some (ad k)) (d_hst : se_at (b2 k) (b3 k) ck = 0) (d_hs1 : sec < pq_Q) (d_hq1 : ¬ (b0 k) = 1 → 1 ≤ rc ∧ rc < pq_Q) (d_hp1 : rc < pq_P) (d_hrt : ¬ rt_v (b0 k) rc (lj (xs (iv + 2)) (xs (iv + 3)))) (m_hn : n ≤ 40) (m_hkn : k < n) (m_hst : sm_at (b2 k) (b3 k) ck = 0) (m_hsv : a9 k = 1) (m_hrc : b6 k = lN rc) (m_hq1 : ¬ b0 k = 1 → 1 ≤ rc ∧ rc < pq_Q) (m_hrt : ¬ rt_v (b0 k) rc (lj (xs (iv + 2)) (xs (iv + 3))))  (hnew : li_R fu au ns n a1 a2 a3 a4 a5 a6 a7 a8 a9 b0 b1 (upd b2 k 3) b3 b4 b5 b6 b7 b8 b9 b10 fo ad eu (va_up es k (.inr (3, [.ref (au u), .int (b0 k), .long (lN sec), .int (b3 k), .int 3, .long (lN x), .long (lN y), .long (b9 k), .long c1, .long c2, .long (b10 k), .long (lN rc)]))))  : W p l e room_1 s m #[Value.ref b] below meth c H locs cells slots Q (F0 m 593 ls []) := by
  obtain ⟨hx, hb, hr, hml, hown, hw, hK, hZ, hR, hN, hfl, hA, hbA, hX, hbl, hL, hlocks⟩ := C0
  have hts := hw
  have hP : va_P G classes (lw_W ct hd us op hm qo qa fu au ns n ck n ck th hh a1 a2 a3 a4 a5 a6 a7 a8 a9 b0 b1 b2 b3 b4 b5 b6 b7 b8 b9 b10 og fo ad eu es) H := hP
  have hD : va_D A (lw_W ct hd us op hm qo qa fu au ns n ck n ck th hh a1 a2 a3 a4 a5 a6 a7 a8 a9 b0 b1 b2 b3 b4 b5 b6 b7 b8 b9 b10 og fo ad eu es) := hD
  refine lv_aload_n hx hb d_L_law_593 rfl (lv_at hl 3 rfl) ?_
  refine lv_aload_n hx hb d_L_law_594 rfl (lv_at hl 4 rfl) ?_
  refine lv_iload hx hb d_L_law_595 (lv_at hl 0 rfl) ?_
  refine lv_iconst (v := 1) hx hb d_L_law_597 (by decide) ?_
  refine lv_iadd hx hb d_L_law_598 ?_
  refine sl_ld (j := iv) (d := 1) hx hb hX hbl hbA hS hL (by omega) d_L_law_599 ?_
  refine tp_i (hv1) ?_
  refine lv_aload_n hx hb d_L_law_600 rfl (lv_at hl 4 rfl) ?_
  refine lv_iload hx hb d_L_law_601 (lv_at hl 0 rfl) ?_
  refine lv_iconst (v := 2) hx hb d_L_law_603 (by decide) ?_
  refine lv_iadd hx hb d_L_law_604 ?_
  refine sl_ld (j := iv) (d := 2) hx hb hX hbl hbA hS hL (by omega) d_L_law_605 ?_
  refine lv_i2l (v := (xs (iv + 2)).toInt64) hx hb d_L_law_606 rfl ?_
  refine lv_bipush (v := 32) hx hb d_L_law_607 (by decide) ?_
  refine lv_lshl (v := ((xs (iv + 2)).toInt64) <<< ((32 : Int32).toInt64 &&& 63)) hx hb d_L_law_609 rfl ?_
  refine lv_aload_n hx hb d_L_law_610 rfl (lv_at hl 4 rfl) ?_
  refine lv_iload hx hb d_L_law_611 (lv_at hl 0 rfl) ?_
  refine lv_iconst (v := 3) hx hb d_L_law_613 (by decide) ?_
  refine lv_iadd hx hb d_L_law_614 ?_
  refine sl_ld (j := iv) (d := 3) hx hb hX hbl hbA hS hL (by omega) d_L_law_615 ?_
  refine lv_i2l (v := (xs (iv + 3)).toInt64) hx hb d_L_law_616 rfl ?_
  refine lv_ldc2 (v := 4294967295) hx hb hown (hw _ ww_884) d_L_law_617 ?_
  refine lv_land hx hb d_L_law_620 ?_
  refine lv_lor hx hb d_L_law_621 ?_
  refine tp_l (rfl) ?_
  refine lv_aload_n hx hb d_L_law_622 rfl (lv_at hl 1 rfl) ?_
  have hC9 : List.map (fun i => ((lw_W ct hd us op hm qo qa fu au ns n ck n ck th hh a1 a2 a3 a4 a5 a6 a7 a8 a9 b0 b1 b2 b3 b4 b5 b6 b7 b8 b9 b10 og fo ad eu es) : va_W)[i]?) [22, 24, 25 + (8 + k), 25 + u, 21] = List.map some ([(hd, .inr (0, [.ref us, .ref op, .int (nI n), .int ck])), (op, .inl ((ct 4), 40, .inr (.inr (.inr (.inr fo))))), ((ad k), .inr (3, [.ref (au u), .int (b0 k), .long (lN sec), .int (b3 k), .int (b2 k), .long (lN x), .long (lN y), .long (b9 k), .long c1, .long c2, .long (b10 k), .long (lN rc)])), ((au u), .inr (1, [.int (nI u), .int ns, .int (a1 u), .long (lN uo), .long ul, .long (lN uv), .int (a5 u), .int (a6 u), .int (a7 u), .int (a8 u)])), (qo, .inl ((ct 1), 1, .inr (.inl og)))] : va_W) := (wc_c rfl (wc_c rfl (wc_c (lw_s rfl hkn hes) (wc_c (lw_u rfl hu8 heu) (wc_c rfl rfl)))))
  have hn9 : va_nd [22, 24, 25 + (8 + k), 25 + u, 21] = true := (nd_c (by simp only [List.mem_cons, List.not_mem_nil, or_false]; omega) (nd_c (by simp only [List.mem_cons, List.not_mem_nil, or_false]; omega) (nd_c (by simp only [List.mem_cons, List.not_mem_nil, or_false]; omega) (nd_c (by simp only [List.mem_cons, List.not_mem_nil, or_false]; omega) (nd_c List.not_mem_nil rfl)))))
  have hPc : va_P G classes [(hd, .inr (0, [.ref us, .ref op, .int (nI n), .int ck])), (op, .inl ((ct 4), 40, .inr (.inr (.inr (.inr fo))))), ((ad k), .inr (3, [.ref (au u), .int (b0 k), .long (lN sec), .int (b3 k), .int (b2 k), .long (lN x), .long (lN y), .long (b9 k), .long c1, .long c2, .long (b10 k), .long (lN rc)])), ((au u), .inr (1, [.int (nI u), .int ns, .int (a1 u), .long (lN uo), .long ul, .long (lN uv), .int (a5 u), .int (a6 u), .int (a7 u), .int (a8 u)])), (qo, .inl ((ct 1), 1, .inr (.inl og)))] H := lp_sub hP [22, 24, 25 + (8 + k), 25 + u, 21] hC9
  have hDc := hD.sub (ws' := [(hd, .inr (0, [.ref us, .ref op, .int (nI n), .int ck])), (op, .inl ((ct 4), 40, .inr (.inr (.inr (.inr fo))))), ((ad k), .inr (3, [.ref (au u), .int (b0 k), .long (lN sec), .int (b3 k), .int (b2 k), .long (lN x), .long (lN y), .long (b9 k), .long c1, .long c2, .long (b10 k), .long (lN rc)])), ((au u), .inr (1, [.int (nI u), .int ns, .int (a1 u), .long (lN uo), .long ul, .long (lN uv), .int (a5 u), .int (a6 u), .int (a7 u), .int (a8 u)])), (qo, .inl ((ct 1), 1, .inr (.inl og)))]) [22, 24, 25 + (8 + k), 25 + u, 21] hn9 hC9
  have hW9 : wk_sets ((lw_W ct hd us op hm qo qa fu au ns n ck n ck th hh a1 a2 a3 a4 a5 a6 a7 a8 a9 b0 b1 b2 b3 b4 b5 b6 b7 b8 b9 b10 og fo ad eu es) : va_W) [22, 24, 25 + (8 + k), 25 + u, 21] ([(hd, .inr (0, [.ref us, .ref op, .int (nI n), .int ck])), (op, .inl ((ct 4), 40, .inr (.inr (.inr (.inr fo))))), ((ad k), .inr (3, [.ref (au u), .int (b0 k), .long (lN sec), .int (b3 k), .int 3, .long (lN x), .long (lN y), .long (b9 k), .long c1, .long c2, .long (b10 k), .long (lN rc)])), ((au u), .inr (1, [.int (nI u), .int ns, .int (a1 u), .long (lN uo), .long ul, .long (lN uv), .int (a5 u), .int (a6 u), .int (a7 u), .int (a8 u)])), (qo, .inl ((ct 1), 1, .inr (.inl og)))] : va_W) = ((lw_W ct hd us op hm qo qa fu au ns n ck n ck th hh a1 a2 a3 a4 a5 a6 a7 a8 a9 b0 b1 b2 b3 b4 b5 b6 b7 b8 b9 b10 og fo ad eu (va_up es k (.inr (3, [.ref (au u), .int (b0 k), .long (lN sec), .int (b3 k), .int 3, .long (lN x), .long (lN y), .long (b9 k), .long c1, .long c2, .long (b10 k), .long (lN rc)])))) : va_W) := (ws_k rfl (ws_k rfl (ws_c (lw_ss rfl) (ws_k (lw_u rfl hu8 heu) (ws_k rfl rfl)))))
  refine wk_i (sh_run (As := [.ref hd, .int (nI k), .long (lj (xs (iv + 2)) (xs (iv + 3))), .ref qo]) (rest := []) (hs := [(0, 11, 14, 25), (0, 11, 18, 15), (0, 11, 22, 13), (0, 11, 26, 27)]) ⟨hx, hb, hml, hown, hts⟩ (c_L_receive_XV l hfl G ct H.size hd us op n ck fo k (ad k) (au u) (b0 k) sec (b3 k) (b2 k) x y (b9 k) c1 c2 (b10 k) rc (nI u) ns (a1 u) uo ul uv (a5 u) (a6 u) (a7 u) (a8 u) (lj (xs (iv + 2)) (xs (iv + 3))) qo og d_hn d_hkn d_hfo d_hst d_hs1 d_hq1 d_hp1 d_hrt) wk_ret ⟨hw, ww_417, ww_0, ⟨by decide, by decide⟩, np_L_receive, ww_415, ww_416, rfl, rfl, Nat.le_of_ble_eq_true rfl, Nat.le_of_ble_eq_true rfl⟩ (wk_pre5 hPc hK hDc hD hS hA [22, 24, 25 + (8 + k), 25 + u, 21] hC9 hZ hR hN) rfl hl.1 rfl (lv_room (Nat.le_of_ble_eq_true rfl)) d_L_law_623 ⟨by omega, by omega⟩) hP hD hS hA [22, 24, 25 + (8 + k), 25 + u, 21] hn9 hC9 (fun _ => by simp only [List.map_cons, List.map_nil]) (fun _ H locs _ hP hD hS => ?_)
  have hP : va_P G classes (lw_W ct hd us op hm qo qa fu au ns n ck n ck th hh a1 a2 a3 a4 a5 a6 a7 a8 a9 b0 b1 b2 b3 b4 b5 b6 b7 b8 b9 b10 og fo ad eu (va_up es k (.inr (3, [.ref (au u), .int (b0 k), .long (lN sec), .int (b3 k), .int 3, .long (lN x), .long (lN y), .long (b9 k), .long c1, .long c2, .long (b10 k), .long (lN rc)])))) H := lp_P hW9 hP
  have hD : va_D A (lw_W ct hd us op hm qo qa fu au ns n ck n ck th hh a1 a2 a3 a4 a5 a6 a7 a8 a9 b0 b1 b2 b3 b4 b5 b6 b7 b8 b9 b10 og fo ad eu (va_up es k (.inr (3, [.ref (au u), .int (b0 k), .long (lN sec), .int (b3 k), .int 3, .long (lN x), .long (lN y), .long (b9 k), .long c1, .long c2, .long (b10 k), .long (lN rc)])))) := lp_D hW9 hD
  refine lv_istore (lv' := [(5, .int 3), (4, .int (nI iv)), (3, .ref qo), (2, .ref hm), (1, .ref hd), (0, .ref b)]) hx hb d_L_law_626 hl (Nat.le_of_ble_eq_true rfl) rfl (fun ls hl => ?_)
  refine lv_aload_n hx hb d_L_law_628 rfl (lv_at hl 3 rfl) ?_
  refine lv_aload_n hx hb d_L_law_629 rfl (lv_at hl 5 rfl) ?_
  refine lv_iload hx hb d_L_law_630 (lv_at hl 1 rfl) ?_
  refine lv_iconst (v := 1) hx hb d_L_law_632 (by decide) ?_
  refine lv_iadd hx hb d_L_law_633 ?_
  refine sl_ld (j := iv) (d := 1) hx hb hX hbl hbA hS hL (by omega) d_L_law_634 ?_
  refine tp_i (hv1) ?_
  refine lv_aload_n hx hb d_L_law_635 rfl (lv_at hl 5 rfl) ?_
  refine lv_iload hx hb d_L_law_636 (lv_at hl 1 rfl) ?_
  refine lv_iconst (v := 2) hx hb d_L_law_638 (by decide) ?_
  refine lv_iadd hx hb d_L_law_639 ?_
  refine sl_ld (j := iv) (d := 2) hx hb hX hbl hbA hS hL (by omega) d_L_law_640 ?_
  refine lv_i2l (v := (xs (iv + 2)).toInt64) hx hb d_L_law_641 rfl ?_
  refine lv_bipush (v := 32) hx hb d_L_law_642 (by decide) ?_
  refine lv_lshl (v := ((xs (iv + 2)).toInt64) <<< ((32 : Int32).toInt64 &&& 63)) hx hb d_L_law_644 rfl ?_
  refine lv_aload_n hx hb d_L_law_645 rfl (lv_at hl 5 rfl) ?_
  refine lv_iload hx hb d_L_law_646 (lv_at hl 1 rfl) ?_
  refine lv_iconst (v := 3) hx hb d_L_law_648 (by decide) ?_
  refine lv_iadd hx hb d_L_law_649 ?_
  refine sl_ld (j := iv) (d := 3) hx hb hX hbl hbA hS hL (by omega) d_L_law_650 ?_
  refine lv_i2l (v := (xs (iv + 3)).toInt64) hx hb d_L_law_651 rfl ?_
  refine lv_ldc2 (v := 4294967295) hx hb hown (hw _ ww_884) d_L_law_652 ?_
  refine lv_land hx hb d_L_law_655 ?_
  refine lv_lor hx hb d_L_law_656 ?_
  refine tp_l (rfl) ?_
  have hPc : va_P G classes [(hm, .inr (4, [.int th, .long ns.toInt64, .int ck, .long hh, .ref (qa 1), .ref (qa 2), .ref (qa 3), .ref (qa 4), .ref (qa 5), .ref (qa 6), .ref (qa 7), .ref (qa 8), .int (nI n), .ref (qa 9), .ref (qa 10), .ref (qa 11), .ref (qa 12), .ref (qa 13), .ref (qa 14), .ref (qa 15), .ref (qa 16), .ref (qa 17), .ref (qa 18), .ref (qa 19), .ref (qa 20)])), ((qa 9), .inl ((ct 2), 40, .inl a9)), ((qa 10), .inl ((ct 0), 40, .inl b0)), ((qa 12), .inl ((ct 0), 40, .inl b2)), ((qa 13), .inl ((ct 0), 40, .inl b3)), ((qa 16), .inl ((ct 1), 40, .inr (.inl b6)))] H := hP.sub [0, 9, 10, 12, 13, 16] rfl
  have hDc := hD.sub (ws' := [(hm, .inr (4, [.int th, .long ns.toInt64, .int ck, .long hh, .ref (qa 1), .ref (qa 2), .ref (qa 3), .ref (qa 4), .ref (qa 5), .ref (qa 6), .ref (qa 7), .ref (qa 8), .int (nI n), .ref (qa 9), .ref (qa 10), .ref (qa 11), .ref (qa 12), .ref (qa 13), .ref (qa 14), .ref (qa 15), .ref (qa 16), .ref (qa 17), .ref (qa 18), .ref (qa 19), .ref (qa 20)])), ((qa 9), .inl ((ct 2), 40, .inl a9)), ((qa 10), .inl ((ct 0), 40, .inl b0)), ((qa 12), .inl ((ct 0), 40, .inl b2)), ((qa 13), .inl ((ct 0), 40, .inl b3)), ((qa 16), .inl ((ct 1), 40, .inr (.inl b6)))]) [0, 9, 10, 12, 13, 16] (by decide) rfl
  refine wk_i (va_runV (As := [.int (nI k), .long (lj (xs (iv + 2)) (xs (iv + 3)))]) (rest := []) ⟨hx, hb, hml, hown, hts⟩ (c_M_receive_XV l G ct H.size hm th ns.toInt64 ck hh (qa 1) (qa 2) (qa 3) (qa 4) (qa 5) (qa 6) (qa 7) (qa 8) (qa 9) (qa 10) (qa 11) (qa 12) (qa 13) (qa 14) (qa 15) (qa 16) (qa 17) (qa 18) (qa 19) (qa 20) n a9 b0 b2 b3 b6 k rc (lj (xs (iv + 2)) (xs (iv + 3))) m_hn m_hkn m_hst m_hsv m_hrc m_hq1 m_hrt) (tb_V hw cy_M_receive ww_804 ww_805 ww_806 rfl rfl ⟨Nat.le_of_ble_eq_true rfl, Nat.le_of_ble_eq_true rfl⟩) (wk_preV (ci := 4) (q0 := 0) hPc hK hDc rfl rfl) rfl rfl hl.1 rfl (lv_room (Nat.le_of_ble_eq_true rfl)) d_L_law_657 ⟨by omega, by omega⟩) hP hD hS hA [0, 9, 10, 12, 13, 16] (by decide) rfl (fun _ => by simp only [List.map_cons, List.map_nil]) (fun _ H locs ok1188 hP hD hS => ?_)
  have hP : va_P G classes (lw_W ct hd us op hm qo qa fu au ns n ck n ck 3 hh a1 a2 a3 a4 a5 a6 a7 a8 a9 b0 b1 (upd b2 k 3) b3 b4 b5 b6 b7 b8 b9 b10 og fo ad eu (va_up es k (.inr (3, [.ref (au u), .int (b0 k), .long (lN sec), .int (b3 k), .int 3, .long (lN x), .long (lN y), .long (b9 k), .long c1, .long c2, .long (b10 k), .long (lN rc)])))) H := hP
  have hD : va_D A (lw_W ct hd us op hm qo qa fu au ns n ck n ck 3 hh a1 a2 a3 a4 a5 a6 a7 a8 a9 b0 b1 (upd b2 k 3) b3 b4 b5 b6 b7 b8 b9 b10 og fo ad eu (va_up es k (.inr (3, [.ref (au u), .int (b0 k), .long (lN sec), .int (b3 k), .int 3, .long (lN x), .long (lN y), .long (b9 k), .long c1, .long c2, .long (b10 k), .long (lN rc)])))) := hD
  refine lv_istore (lv' := [(6, .int 0), (5, .int 3), (4, .int (nI iv)), (3, .ref qo), (2, .ref hm), (1, .ref hd), (0, .ref b)]) hx hb d_L_law_660 hl (Nat.le_of_ble_eq_true rfl) rfl (fun ls hl => ?_)
  refine lv_aload_n hx hb d_L_law_662 rfl (lv_at hl 4 rfl) ?_
  have hPc : va_P G classes [(hm, .inr (4, [.int 3, .long ns.toInt64, .int ck, .long hh, .ref (qa 1), .ref (qa 2), .ref (qa 3), .ref (qa 4), .ref (qa 5), .ref (qa 6), .ref (qa 7), .ref (qa 8), .int (nI n), .ref (qa 9), .ref (qa 10), .ref (qa 11), .ref (qa 12), .ref (qa 13), .ref (qa 14), .ref (qa 15), .ref (qa 16), .ref (qa 17), .ref (qa 18), .ref (qa 19), .ref (qa 20)]))] H := hP.sub [0] rfl
  have hDc := hD.sub (ws' := [(hm, .inr (4, [.int 3, .long ns.toInt64, .int ck, .long hh, .ref (qa 1), .ref (qa 2), .ref (qa 3), .ref (qa 4), .ref (qa 5), .ref (qa 6), .ref (qa 7), .ref (qa 8), .int (nI n), .ref (qa 9), .ref (qa 10), .ref (qa 11), .ref (qa 12), .ref (qa 13), .ref (qa 14), .ref (qa 15), .ref (qa 16), .ref (qa 17), .ref (qa 18), .ref (qa 19), .ref (qa 20)]))]) [0] (by decide) rfl
  refine vp_callSi (W.runV (As := []) (rest := []) ⟨hx, hb, hml, hown, hts⟩ (c_M_thrown l G ct H.size hm 3 ns.toInt64 ck hh (qa 1) (qa 2) (qa 3) (qa 4) (qa 5) (qa 6) (qa 7) (qa 8) (qa 9) (qa 10) (qa 11) (qa 12) (qa 13) (qa 14) (qa 15) (qa 16) (qa 17) (qa 18) (qa 19) (qa 20) n) (tb_V hw cy_M_thrown ww_719 ww_720 ww_721 rfl rfl ⟨Nat.le_of_ble_eq_true rfl, Nat.le_of_ble_eq_true rfl⟩) (wk_preV (ci := 4) (q0 := 0) hPc hK hDc rfl rfl) rfl rfl hl.1 rfl (lv_room (Nat.le_of_ble_eq_true rfl)) d_L_law_663 ⟨by omega, by omega⟩) (fun r1189 er1189 => ?_)
  subst er1189
  refine lv_iload hx hb d_L_law_666 (lv_at hl 1 rfl) ?_
  refine lv_icmp_eq (tgt := 673) hx hb d_L_law_668 (by decide) (fun h1190 => ?_) (fun h1190 => ?_)
  · refine lv_iload hx hb d_L_law_673 (lv_at hl 1 rfl) ?_
    refine lv_if_ne (tgt := 690) hx hb d_L_law_675 (by decide) (fun h1191 => ?_) (fun h1191 => ?_)
    · refine lv_goto (tgt := 1005) hx hb d_L_law_690 (by decide) ?_
      refine W.widen (k := cells + 1) (n := slots + 13) (by omega) (by omega) ?_
      exact kk n ck 3 hh a1 a2 a3 a4 a5 a6 a7 a8 a9 b0 b1 (upd b2 k 3) b3 b4 b5 b6 b7 b8 b9 b10 og fo ad eu (va_up es k (.inr (3, [.ref (au u), .int (b0 k), .long (lN sec), .int (b3 k), .int 3, .long (lN x), .long (lN y), .long (b9 k), .long c1, .long c2, .long (b10 k), .long (lN rc)]))) H locs _ hnew hP hD hS (lv_sub hl [2, 3, 4, 5, 6] rfl)
    · exact absurd h1191 (by decide)
  · exact absurd h1190 (by decide)
set_option maxHeartbeats 4000000 in
set_option maxRecDepth 100000 in
theorem lq_receive_YC_FC0 {k : Nat} {u : Nat} {sec : Nat} {x : Nat} {y : Nat} {rc : Nat} {c1 : Int64} {c2 : Int64} {uo : Nat} {ul : Int64} {uv : Nat} (C0 : lc_C p l s m meth c b L xs G ct A) (hiv : iv + 7 ≤ L) (hcc : cells + 1 ≤ room_1.cells) (hzz : slots + 13 ≤ room_1.slots)
    (hP : va_P G classes (lw_W ct hd us op hm qo qa fu au ns n ck n ck th hh a1 a2 a3 a4 a5 a6 a7 a8 a9 b0 b1 b2 b3 b4 b5 b6 b7 b8 b9 b10 og fo ad eu es) H) (hD : va_D A (lw_W ct hd us op hm qo qa fu au ns n ck n ck th hh a1 a2 a3 a4 a5 a6 a7 a8 a9 b0 b1 b2 b3 b4 b5 b6 b7 b8 b9 b10 og fo ad eu es)) (hS : va_S A s.heap H locs) (hl : lv_has ls 8 [(4, .int (nI iv)), (3, .ref qo), (2, .ref hm), (1, .ref hd), (0, .ref b)])
    (kk : lc_K p l e s m below meth c b L xs G ct A hd us op hm qo qa fu au ns iv (cells + 1) (slots + 13) Q)
    (hv1 : xs (iv + 1) = nI k) (hkn : k < n) (hes : es k = .inr (2, [.ref (au u), .int (b0 k), .long (lN sec), .int (b3 k), .int (b2 k), .long (lN x), .long (lN y), .long (b9 k), .long c1, .long c2, .long (b10 k), .long (b5 k), .long (lN rc)])) (hu8 : u < 8) (heu : eu u = .inr (1, [.int (nI u), .int ns, .int (a1 u), .long (lN uo), .long ul, .long (lN uv), .int (a5 u), .int (a6 u), .int (a7 u), .int (a8 u)])) (d_hn : n ≤ 40) (d_hkn : k < n) (d_hfo : fo k = some (ad k)) (d_hst : se_at (b2 k) (b3 k) ck = 1) (d_haw : ¬ (lj (xs (iv + 2)) (xs (iv + 3))) = c2) (m_hn : n ≤ 40) (m_hkn : k < n) (m_hst : sm_at (b2 k) (b3 k) ck = 1) (m_hsv : a9 k = 0) (m_hu : b1 k = nI u) (m_hu8 : u < 8) (m_haw : ¬ (lj (xs (iv + 2)) (xs (iv + 3))) = dg_3 10 (b9 k) (dg_4 9 (b9 k) (b7 k) (b8 k)))  (hnew : li_R fu au ns n a1 a2 a3 a4 a5 a6 a7 a8 a9 b0 b1 (upd b2 k 3) b3 b4 b5 b6 b7 b8 b9 b10 fo ad eu (va_up es k (.inr (2, [.ref (au u), .int (b0 k), .long (lN sec), .int (b3 k), .int 3, .long (lN x), .long (lN y), .long (b9 k), .long c1, .long c2, .long (b10 k), .long (b5 k), .long (lN rc)]))))  : W p l e room_1 s m #[Value.ref b] below meth c H locs cells slots Q (F0 m 593 ls []) := by
  obtain ⟨hx, hb, hr, hml, hown, hw, hK, hZ, hR, hN, hfl, hA, hbA, hX, hbl, hL, hlocks⟩ := C0
  have hts := hw
  have hP : va_P G classes (lw_W ct hd us op hm qo qa fu au ns n ck n ck th hh a1 a2 a3 a4 a5 a6 a7 a8 a9 b0 b1 b2 b3 b4 b5 b6 b7 b8 b9 b10 og fo ad eu es) H := hP
  have hD : va_D A (lw_W ct hd us op hm qo qa fu au ns n ck n ck th hh a1 a2 a3 a4 a5 a6 a7 a8 a9 b0 b1 b2 b3 b4 b5 b6 b7 b8 b9 b10 og fo ad eu es) := hD
  refine lv_aload_n hx hb d_L_law_593 rfl (lv_at hl 3 rfl) ?_
  refine lv_aload_n hx hb d_L_law_594 rfl (lv_at hl 4 rfl) ?_
  refine lv_iload hx hb d_L_law_595 (lv_at hl 0 rfl) ?_
  refine lv_iconst (v := 1) hx hb d_L_law_597 (by decide) ?_
  refine lv_iadd hx hb d_L_law_598 ?_
  refine sl_ld (j := iv) (d := 1) hx hb hX hbl hbA hS hL (by omega) d_L_law_599 ?_
  refine tp_i (hv1) ?_
  refine lv_aload_n hx hb d_L_law_600 rfl (lv_at hl 4 rfl) ?_
  refine lv_iload hx hb d_L_law_601 (lv_at hl 0 rfl) ?_
  refine lv_iconst (v := 2) hx hb d_L_law_603 (by decide) ?_
  refine lv_iadd hx hb d_L_law_604 ?_
  refine sl_ld (j := iv) (d := 2) hx hb hX hbl hbA hS hL (by omega) d_L_law_605 ?_
  refine lv_i2l (v := (xs (iv + 2)).toInt64) hx hb d_L_law_606 rfl ?_
  refine lv_bipush (v := 32) hx hb d_L_law_607 (by decide) ?_
  refine lv_lshl (v := ((xs (iv + 2)).toInt64) <<< ((32 : Int32).toInt64 &&& 63)) hx hb d_L_law_609 rfl ?_
  refine lv_aload_n hx hb d_L_law_610 rfl (lv_at hl 4 rfl) ?_
  refine lv_iload hx hb d_L_law_611 (lv_at hl 0 rfl) ?_
  refine lv_iconst (v := 3) hx hb d_L_law_613 (by decide) ?_
  refine lv_iadd hx hb d_L_law_614 ?_
  refine sl_ld (j := iv) (d := 3) hx hb hX hbl hbA hS hL (by omega) d_L_law_615 ?_
  refine lv_i2l (v := (xs (iv + 3)).toInt64) hx hb d_L_law_616 rfl ?_
  refine lv_ldc2 (v := 4294967295) hx hb hown (hw _ ww_884) d_L_law_617 ?_
  refine lv_land hx hb d_L_law_620 ?_
  refine lv_lor hx hb d_L_law_621 ?_
  refine tp_l (rfl) ?_
  refine lv_aload_n hx hb d_L_law_622 rfl (lv_at hl 1 rfl) ?_
  have hC9 : List.map (fun i => ((lw_W ct hd us op hm qo qa fu au ns n ck n ck th hh a1 a2 a3 a4 a5 a6 a7 a8 a9 b0 b1 b2 b3 b4 b5 b6 b7 b8 b9 b10 og fo ad eu es) : va_W)[i]?) [22, 24, 25 + (8 + k), 25 + u, 21] = List.map some ([(hd, .inr (0, [.ref us, .ref op, .int (nI n), .int ck])), (op, .inl ((ct 4), 40, .inr (.inr (.inr (.inr fo))))), ((ad k), .inr (2, [.ref (au u), .int (b0 k), .long (lN sec), .int (b3 k), .int (b2 k), .long (lN x), .long (lN y), .long (b9 k), .long c1, .long c2, .long (b10 k), .long (b5 k), .long (lN rc)])), ((au u), .inr (1, [.int (nI u), .int ns, .int (a1 u), .long (lN uo), .long ul, .long (lN uv), .int (a5 u), .int (a6 u), .int (a7 u), .int (a8 u)])), (qo, .inl ((ct 1), 1, .inr (.inl og)))] : va_W) := (wc_c rfl (wc_c rfl (wc_c (lw_s rfl hkn hes) (wc_c (lw_u rfl hu8 heu) (wc_c rfl rfl)))))
  have hn9 : va_nd [22, 24, 25 + (8 + k), 25 + u, 21] = true := (nd_c (by simp only [List.mem_cons, List.not_mem_nil, or_false]; omega) (nd_c (by simp only [List.mem_cons, List.not_mem_nil, or_false]; omega) (nd_c (by simp only [List.mem_cons, List.not_mem_nil, or_false]; omega) (nd_c (by simp only [List.mem_cons, List.not_mem_nil, or_false]; omega) (nd_c List.not_mem_nil rfl)))))
  have hPc : va_P G classes [(hd, .inr (0, [.ref us, .ref op, .int (nI n), .int ck])), (op, .inl ((ct 4), 40, .inr (.inr (.inr (.inr fo))))), ((ad k), .inr (2, [.ref (au u), .int (b0 k), .long (lN sec), .int (b3 k), .int (b2 k), .long (lN x), .long (lN y), .long (b9 k), .long c1, .long c2, .long (b10 k), .long (b5 k), .long (lN rc)])), ((au u), .inr (1, [.int (nI u), .int ns, .int (a1 u), .long (lN uo), .long ul, .long (lN uv), .int (a5 u), .int (a6 u), .int (a7 u), .int (a8 u)])), (qo, .inl ((ct 1), 1, .inr (.inl og)))] H := lp_sub hP [22, 24, 25 + (8 + k), 25 + u, 21] hC9
  have hDc := hD.sub (ws' := [(hd, .inr (0, [.ref us, .ref op, .int (nI n), .int ck])), (op, .inl ((ct 4), 40, .inr (.inr (.inr (.inr fo))))), ((ad k), .inr (2, [.ref (au u), .int (b0 k), .long (lN sec), .int (b3 k), .int (b2 k), .long (lN x), .long (lN y), .long (b9 k), .long c1, .long c2, .long (b10 k), .long (b5 k), .long (lN rc)])), ((au u), .inr (1, [.int (nI u), .int ns, .int (a1 u), .long (lN uo), .long ul, .long (lN uv), .int (a5 u), .int (a6 u), .int (a7 u), .int (a8 u)])), (qo, .inl ((ct 1), 1, .inr (.inl og)))]) [22, 24, 25 + (8 + k), 25 + u, 21] hn9 hC9
  have hW9 : wk_sets ((lw_W ct hd us op hm qo qa fu au ns n ck n ck th hh a1 a2 a3 a4 a5 a6 a7 a8 a9 b0 b1 b2 b3 b4 b5 b6 b7 b8 b9 b10 og fo ad eu es) : va_W) [22, 24, 25 + (8 + k), 25 + u, 21] ([(hd, .inr (0, [.ref us, .ref op, .int (nI n), .int ck])), (op, .inl ((ct 4), 40, .inr (.inr (.inr (.inr fo))))), ((ad k), .inr (2, [.ref (au u), .int (b0 k), .long (lN sec), .int (b3 k), .int 3, .long (lN x), .long (lN y), .long (b9 k), .long c1, .long c2, .long (b10 k), .long (b5 k), .long (lN rc)])), ((au u), .inr (1, [.int (nI u), .int ns, .int (a1 u), .long (lN uo), .long ul, .long (lN uv), .int (a5 u), .int (a6 u), .int (a7 u), .int (a8 u)])), (qo, .inl ((ct 1), 1, .inr (.inl og)))] : va_W) = ((lw_W ct hd us op hm qo qa fu au ns n ck n ck th hh a1 a2 a3 a4 a5 a6 a7 a8 a9 b0 b1 b2 b3 b4 b5 b6 b7 b8 b9 b10 og fo ad eu (va_up es k (.inr (2, [.ref (au u), .int (b0 k), .long (lN sec), .int (b3 k), .int 3, .long (lN x), .long (lN y), .long (b9 k), .long c1, .long c2, .long (b10 k), .long (b5 k), .long (lN rc)])))) : va_W) := (ws_k rfl (ws_k rfl (ws_c (lw_ss rfl) (ws_k (lw_u rfl hu8 heu) (ws_k rfl rfl)))))
  refine wk_i (sh_run (As := [.ref hd, .int (nI k), .long (lj (xs (iv + 2)) (xs (iv + 3))), .ref qo]) (rest := []) (hs := [(0, 11, 14, 25), (0, 11, 18, 15), (0, 11, 22, 13), (0, 11, 26, 27)]) ⟨hx, hb, hml, hown, hts⟩ (c_L_receive_YC l hfl G ct H.size hd us op n ck fo k (ad k) (au u) (b0 k) sec (b3 k) (b2 k) x y (b9 k) c1 c2 (b10 k) (b5 k) rc (nI u) ns (a1 u) uo ul uv (a5 u) (a6 u) (a7 u) (a8 u) (lj (xs (iv + 2)) (xs (iv + 3))) qo og d_hn d_hkn d_hfo d_hst d_haw) wk_ret ⟨hw, ww_417, ww_0, ⟨by decide, by decide⟩, np_L_receive, ww_415, ww_416, rfl, rfl, Nat.le_of_ble_eq_true rfl, Nat.le_of_ble_eq_true rfl⟩ (wk_pre5 hPc hK hDc hD hS hA [22, 24, 25 + (8 + k), 25 + u, 21] hC9 hZ hR hN) rfl hl.1 rfl (lv_room (Nat.le_of_ble_eq_true rfl)) d_L_law_623 ⟨by omega, by omega⟩) hP hD hS hA [22, 24, 25 + (8 + k), 25 + u, 21] hn9 hC9 (fun _ => by simp only [List.map_cons, List.map_nil]) (fun _ H locs _ hP hD hS => ?_)
  have hP : va_P G classes (lw_W ct hd us op hm qo qa fu au ns n ck n ck th hh a1 a2 a3 a4 a5 a6 a7 a8 a9 b0 b1 b2 b3 b4 b5 b6 b7 b8 b9 b10 og fo ad eu (va_up es k (.inr (2, [.ref (au u), .int (b0 k), .long (lN sec), .int (b3 k), .int 3, .long (lN x), .long (lN y), .long (b9 k), .long c1, .long c2, .long (b10 k), .long (b5 k), .long (lN rc)])))) H := lp_P hW9 hP
  have hD : va_D A (lw_W ct hd us op hm qo qa fu au ns n ck n ck th hh a1 a2 a3 a4 a5 a6 a7 a8 a9 b0 b1 b2 b3 b4 b5 b6 b7 b8 b9 b10 og fo ad eu (va_up es k (.inr (2, [.ref (au u), .int (b0 k), .long (lN sec), .int (b3 k), .int 3, .long (lN x), .long (lN y), .long (b9 k), .long c1, .long c2, .long (b10 k), .long (b5 k), .long (lN rc)])))) := lp_D hW9 hD
  refine lv_istore (lv' := [(5, .int 4), (4, .int (nI iv)), (3, .ref qo), (2, .ref hm), (1, .ref hd), (0, .ref b)]) hx hb d_L_law_626 hl (Nat.le_of_ble_eq_true rfl) rfl (fun ls hl => ?_)
  refine lv_aload_n hx hb d_L_law_628 rfl (lv_at hl 3 rfl) ?_
  refine lv_aload_n hx hb d_L_law_629 rfl (lv_at hl 5 rfl) ?_
  refine lv_iload hx hb d_L_law_630 (lv_at hl 1 rfl) ?_
  refine lv_iconst (v := 1) hx hb d_L_law_632 (by decide) ?_
  refine lv_iadd hx hb d_L_law_633 ?_
  refine sl_ld (j := iv) (d := 1) hx hb hX hbl hbA hS hL (by omega) d_L_law_634 ?_
  refine tp_i (hv1) ?_
  refine lv_aload_n hx hb d_L_law_635 rfl (lv_at hl 5 rfl) ?_
  refine lv_iload hx hb d_L_law_636 (lv_at hl 1 rfl) ?_
  refine lv_iconst (v := 2) hx hb d_L_law_638 (by decide) ?_
  refine lv_iadd hx hb d_L_law_639 ?_
  refine sl_ld (j := iv) (d := 2) hx hb hX hbl hbA hS hL (by omega) d_L_law_640 ?_
  refine lv_i2l (v := (xs (iv + 2)).toInt64) hx hb d_L_law_641 rfl ?_
  refine lv_bipush (v := 32) hx hb d_L_law_642 (by decide) ?_
  refine lv_lshl (v := ((xs (iv + 2)).toInt64) <<< ((32 : Int32).toInt64 &&& 63)) hx hb d_L_law_644 rfl ?_
  refine lv_aload_n hx hb d_L_law_645 rfl (lv_at hl 5 rfl) ?_
  refine lv_iload hx hb d_L_law_646 (lv_at hl 1 rfl) ?_
  refine lv_iconst (v := 3) hx hb d_L_law_648 (by decide) ?_
  refine lv_iadd hx hb d_L_law_649 ?_
  refine sl_ld (j := iv) (d := 3) hx hb hX hbl hbA hS hL (by omega) d_L_law_650 ?_
  refine lv_i2l (v := (xs (iv + 3)).toInt64) hx hb d_L_law_651 rfl ?_
  refine lv_ldc2 (v := 4294967295) hx hb hown (hw _ ww_884) d_L_law_652 ?_
  refine lv_land hx hb d_L_law_655 ?_
  refine lv_lor hx hb d_L_law_656 ?_
  refine tp_l (rfl) ?_
  have hPc : va_P G classes [(hm, .inr (4, [.int th, .long ns.toInt64, .int ck, .long hh, .ref (qa 1), .ref (qa 2), .ref (qa 3), .ref (qa 4), .ref (qa 5), .ref (qa 6), .ref (qa 7), .ref (qa 8), .int (nI n), .ref (qa 9), .ref (qa 10), .ref (qa 11), .ref (qa 12), .ref (qa 13), .ref (qa 14), .ref (qa 15), .ref (qa 16), .ref (qa 17), .ref (qa 18), .ref (qa 19), .ref (qa 20)])), ((qa 5), .inl ((ct 0), 8, .inl a5)), ((qa 6), .inl ((ct 0), 8, .inl a6)), ((qa 7), .inl ((ct 0), 8, .inl a7)), ((qa 8), .inl ((ct 0), 8, .inl a8)), ((qa 9), .inl ((ct 2), 40, .inl a9)), ((qa 11), .inl ((ct 0), 40, .inl b1)), ((qa 12), .inl ((ct 0), 40, .inl b2)), ((qa 13), .inl ((ct 0), 40, .inl b3)), ((qa 17), .inl ((ct 1), 40, .inr (.inl b7))), ((qa 18), .inl ((ct 1), 40, .inr (.inl b8))), ((qa 19), .inl ((ct 1), 40, .inr (.inl b9))), ((qa 20), .inl ((ct 1), 40, .inr (.inl b10)))] H := hP.sub [0, 5, 6, 7, 8, 9, 11, 12, 13, 17, 18, 19, 20] rfl
  have hDc := hD.sub (ws' := [(hm, .inr (4, [.int th, .long ns.toInt64, .int ck, .long hh, .ref (qa 1), .ref (qa 2), .ref (qa 3), .ref (qa 4), .ref (qa 5), .ref (qa 6), .ref (qa 7), .ref (qa 8), .int (nI n), .ref (qa 9), .ref (qa 10), .ref (qa 11), .ref (qa 12), .ref (qa 13), .ref (qa 14), .ref (qa 15), .ref (qa 16), .ref (qa 17), .ref (qa 18), .ref (qa 19), .ref (qa 20)])), ((qa 5), .inl ((ct 0), 8, .inl a5)), ((qa 6), .inl ((ct 0), 8, .inl a6)), ((qa 7), .inl ((ct 0), 8, .inl a7)), ((qa 8), .inl ((ct 0), 8, .inl a8)), ((qa 9), .inl ((ct 2), 40, .inl a9)), ((qa 11), .inl ((ct 0), 40, .inl b1)), ((qa 12), .inl ((ct 0), 40, .inl b2)), ((qa 13), .inl ((ct 0), 40, .inl b3)), ((qa 17), .inl ((ct 1), 40, .inr (.inl b7))), ((qa 18), .inl ((ct 1), 40, .inr (.inl b8))), ((qa 19), .inl ((ct 1), 40, .inr (.inl b9))), ((qa 20), .inl ((ct 1), 40, .inr (.inl b10)))]) [0, 5, 6, 7, 8, 9, 11, 12, 13, 17, 18, 19, 20] (by decide) rfl
  refine wk_i (va_runV (As := [.int (nI k), .long (lj (xs (iv + 2)) (xs (iv + 3)))]) (rest := []) ⟨hx, hb, hml, hown, hts⟩ (c_M_receive_FC0 l G ct H.size hm th ns.toInt64 ck hh (qa 1) (qa 2) (qa 3) (qa 4) (qa 5) (qa 6) (qa 7) (qa 8) (qa 9) (qa 10) (qa 11) (qa 12) (qa 13) (qa 14) (qa 15) (qa 16) (qa 17) (qa 18) (qa 19) (qa 20) n a5 a6 a7 a8 a9 b1 b2 b3 b7 b8 b9 b10 k u (lj (xs (iv + 2)) (xs (iv + 3))) m_hn m_hkn m_hst m_hsv m_hu m_hu8 m_haw) (tb_V hw cy_M_receive ww_804 ww_805 ww_806 rfl rfl ⟨Nat.le_of_ble_eq_true rfl, Nat.le_of_ble_eq_true rfl⟩) (wk_preV (ci := 4) (q0 := 0) hPc hK hDc rfl rfl) rfl rfl hl.1 rfl (lv_room (Nat.le_of_ble_eq_true rfl)) d_L_law_657 ⟨by omega, by omega⟩) hP hD hS hA [0, 5, 6, 7, 8, 9, 11, 12, 13, 17, 18, 19, 20] (by decide) rfl (fun _ => by simp only [List.map_cons, List.map_nil]) (fun z21192 H locs ok1193 hP hD hS => ?_)
  have hP : va_P G classes (lw_W ct hd us op hm qo qa fu au ns n ck n ck 4 z21192 a1 a2 a3 a4 a5 a6 a7 a8 a9 b0 b1 (upd b2 k 3) b3 b4 b5 b6 b7 b8 b9 b10 og fo ad eu (va_up es k (.inr (2, [.ref (au u), .int (b0 k), .long (lN sec), .int (b3 k), .int 3, .long (lN x), .long (lN y), .long (b9 k), .long c1, .long c2, .long (b10 k), .long (b5 k), .long (lN rc)])))) H := hP
  have hD : va_D A (lw_W ct hd us op hm qo qa fu au ns n ck n ck 4 z21192 a1 a2 a3 a4 a5 a6 a7 a8 a9 b0 b1 (upd b2 k 3) b3 b4 b5 b6 b7 b8 b9 b10 og fo ad eu (va_up es k (.inr (2, [.ref (au u), .int (b0 k), .long (lN sec), .int (b3 k), .int 3, .long (lN x), .long (lN y), .long (b9 k), .long c1, .long c2, .long (b10 k), .long (b5 k), .long (lN rc)])))) := hD
  refine lv_istore (lv' := [(6, .int 0), (5, .int 4), (4, .int (nI iv)), (3, .ref qo), (2, .ref hm), (1, .ref hd), (0, .ref b)]) hx hb d_L_law_660 hl (Nat.le_of_ble_eq_true rfl) rfl (fun ls hl => ?_)
  refine lv_aload_n hx hb d_L_law_662 rfl (lv_at hl 4 rfl) ?_
  have hPc : va_P G classes [(hm, .inr (4, [.int 4, .long ns.toInt64, .int ck, .long z21192, .ref (qa 1), .ref (qa 2), .ref (qa 3), .ref (qa 4), .ref (qa 5), .ref (qa 6), .ref (qa 7), .ref (qa 8), .int (nI n), .ref (qa 9), .ref (qa 10), .ref (qa 11), .ref (qa 12), .ref (qa 13), .ref (qa 14), .ref (qa 15), .ref (qa 16), .ref (qa 17), .ref (qa 18), .ref (qa 19), .ref (qa 20)]))] H := hP.sub [0] rfl
  have hDc := hD.sub (ws' := [(hm, .inr (4, [.int 4, .long ns.toInt64, .int ck, .long z21192, .ref (qa 1), .ref (qa 2), .ref (qa 3), .ref (qa 4), .ref (qa 5), .ref (qa 6), .ref (qa 7), .ref (qa 8), .int (nI n), .ref (qa 9), .ref (qa 10), .ref (qa 11), .ref (qa 12), .ref (qa 13), .ref (qa 14), .ref (qa 15), .ref (qa 16), .ref (qa 17), .ref (qa 18), .ref (qa 19), .ref (qa 20)]))]) [0] (by decide) rfl
  refine vp_callSi (W.runV (As := []) (rest := []) ⟨hx, hb, hml, hown, hts⟩ (c_M_thrown l G ct H.size hm 4 ns.toInt64 ck z21192 (qa 1) (qa 2) (qa 3) (qa 4) (qa 5) (qa 6) (qa 7) (qa 8) (qa 9) (qa 10) (qa 11) (qa 12) (qa 13) (qa 14) (qa 15) (qa 16) (qa 17) (qa 18) (qa 19) (qa 20) n) (tb_V hw cy_M_thrown ww_719 ww_720 ww_721 rfl rfl ⟨Nat.le_of_ble_eq_true rfl, Nat.le_of_ble_eq_true rfl⟩) (wk_preV (ci := 4) (q0 := 0) hPc hK hDc rfl rfl) rfl rfl hl.1 rfl (lv_room (Nat.le_of_ble_eq_true rfl)) d_L_law_663 ⟨by omega, by omega⟩) (fun r1194 er1194 => ?_)
  subst er1194
  refine lv_iload hx hb d_L_law_666 (lv_at hl 1 rfl) ?_
  refine lv_icmp_eq (tgt := 673) hx hb d_L_law_668 (by decide) (fun h1195 => ?_) (fun h1195 => ?_)
  · refine lv_iload hx hb d_L_law_673 (lv_at hl 1 rfl) ?_
    refine lv_if_ne (tgt := 690) hx hb d_L_law_675 (by decide) (fun h1196 => ?_) (fun h1196 => ?_)
    · refine lv_goto (tgt := 1005) hx hb d_L_law_690 (by decide) ?_
      refine W.widen (k := cells + 1) (n := slots + 13) (by omega) (by omega) ?_
      exact kk n ck 4 z21192 a1 a2 a3 a4 a5 a6 a7 a8 a9 b0 b1 (upd b2 k 3) b3 b4 b5 b6 b7 b8 b9 b10 og fo ad eu (va_up es k (.inr (2, [.ref (au u), .int (b0 k), .long (lN sec), .int (b3 k), .int 3, .long (lN x), .long (lN y), .long (b9 k), .long c1, .long c2, .long (b10 k), .long (b5 k), .long (lN rc)]))) H locs _ hnew hP hD hS (lv_sub hl [2, 3, 4, 5, 6] rfl)
    · exact absurd h1196 (by decide)
  · exact absurd h1195 (by decide)
set_option maxHeartbeats 4000000 in
set_option maxRecDepth 100000 in
theorem lq_receive_YV_FV0 {k : Nat} {u : Nat} {sec : Nat} {x : Nat} {y : Nat} {rc : Nat} {c1 : Int64} {c2 : Int64} {uo : Nat} {ul : Int64} {uv : Nat} (C0 : lc_C p l s m meth c b L xs G ct A) (hiv : iv + 7 ≤ L) (hcc : cells + 1 ≤ room_1.cells) (hzz : slots + 13 ≤ room_1.slots)
    (hP : va_P G classes (lw_W ct hd us op hm qo qa fu au ns n ck n ck th hh a1 a2 a3 a4 a5 a6 a7 a8 a9 b0 b1 b2 b3 b4 b5 b6 b7 b8 b9 b10 og fo ad eu es) H) (hD : va_D A (lw_W ct hd us op hm qo qa fu au ns n ck n ck th hh a1 a2 a3 a4 a5 a6 a7 a8 a9 b0 b1 b2 b3 b4 b5 b6 b7 b8 b9 b10 og fo ad eu es)) (hS : va_S A s.heap H locs) (hl : lv_has ls 8 [(4, .int (nI iv)), (3, .ref qo), (2, .ref hm), (1, .ref hd), (0, .ref b)])
    (kk : lc_K p l e s m below meth c b L xs G ct A hd us op hm qo qa fu au ns iv (cells + 1) (slots + 13) Q)
    (hv1 : xs (iv + 1) = nI k) (hkn : k < n) (hes : es k = .inr (3, [.ref (au u), .int (b0 k), .long (lN sec), .int (b3 k), .int (b2 k), .long (lN x), .long (lN y), .long (b9 k), .long c1, .long c2, .long (b10 k), .long (lN rc)])) (hu8 : u < 8) (heu : eu u = .inr (1, [.int (nI u), .int ns, .int (a1 u), .long (lN uo), .long ul, .long (lN uv), .int (a5 u), .int (a6 u), .int (a7 u), .int (a8 u)])) (d_hn : n ≤ 40) (d_hkn : k < n) (d_hfo : fo k = some (ad k)) (d_hst : se_at (b2 k) (b3 k) ck = 1) (d_haw : ¬ (lj (xs (iv + 2)) (xs (iv + 3))) = c1) (m_hn : n ≤ 40) (m_hkn : k < n) (m_hst : sm_at (b2 k) (b3 k) ck = 1) (m_hsv : a9 k = 1) (m_hu : b1 k = nI u) (m_hu8 : u < 8) (m_haw : ¬ (lj (xs (iv + 2)) (xs (iv + 3))) = dg_4 9 (b9 k) (b7 k) (b8 k))  (hnew : li_R fu au ns n a1 a2 a3 a4 (upd a5 u (a5 u + 1)) (upd a6 u ck) (upd a7 u (a6 u)) (upd a8 u (a7 u)) a9 b0 b1 (upd b2 k 3) b3 b4 b5 b6 b7 b8 b9 b10 fo ad (va_up eu u (.inr (1, [.int (nI u), .int ns, .int (a1 u), .long (lN uo), .long ul, .long (lN uv), .int ((a5 u) + 1), .int ck, .int (a6 u), .int (a7 u)]))) (va_up es k (.inr (3, [.ref (au u), .int (b0 k), .long (lN sec), .int (b3 k), .int 3, .long (lN x), .long (lN y), .long (b9 k), .long c1, .long c2, .long (b10 k), .long (lN rc)]))))  : W p l e room_1 s m #[Value.ref b] below meth c H locs cells slots Q (F0 m 593 ls []) := by
  obtain ⟨hx, hb, hr, hml, hown, hw, hK, hZ, hR, hN, hfl, hA, hbA, hX, hbl, hL, hlocks⟩ := C0
  have hts := hw
  have hP : va_P G classes (lw_W ct hd us op hm qo qa fu au ns n ck n ck th hh a1 a2 a3 a4 a5 a6 a7 a8 a9 b0 b1 b2 b3 b4 b5 b6 b7 b8 b9 b10 og fo ad eu es) H := hP
  have hD : va_D A (lw_W ct hd us op hm qo qa fu au ns n ck n ck th hh a1 a2 a3 a4 a5 a6 a7 a8 a9 b0 b1 b2 b3 b4 b5 b6 b7 b8 b9 b10 og fo ad eu es) := hD
  refine lv_aload_n hx hb d_L_law_593 rfl (lv_at hl 3 rfl) ?_
  refine lv_aload_n hx hb d_L_law_594 rfl (lv_at hl 4 rfl) ?_
  refine lv_iload hx hb d_L_law_595 (lv_at hl 0 rfl) ?_
  refine lv_iconst (v := 1) hx hb d_L_law_597 (by decide) ?_
  refine lv_iadd hx hb d_L_law_598 ?_
  refine sl_ld (j := iv) (d := 1) hx hb hX hbl hbA hS hL (by omega) d_L_law_599 ?_
  refine tp_i (hv1) ?_
  refine lv_aload_n hx hb d_L_law_600 rfl (lv_at hl 4 rfl) ?_
  refine lv_iload hx hb d_L_law_601 (lv_at hl 0 rfl) ?_
  refine lv_iconst (v := 2) hx hb d_L_law_603 (by decide) ?_
  refine lv_iadd hx hb d_L_law_604 ?_
  refine sl_ld (j := iv) (d := 2) hx hb hX hbl hbA hS hL (by omega) d_L_law_605 ?_
  refine lv_i2l (v := (xs (iv + 2)).toInt64) hx hb d_L_law_606 rfl ?_
  refine lv_bipush (v := 32) hx hb d_L_law_607 (by decide) ?_
  refine lv_lshl (v := ((xs (iv + 2)).toInt64) <<< ((32 : Int32).toInt64 &&& 63)) hx hb d_L_law_609 rfl ?_
  refine lv_aload_n hx hb d_L_law_610 rfl (lv_at hl 4 rfl) ?_
  refine lv_iload hx hb d_L_law_611 (lv_at hl 0 rfl) ?_
  refine lv_iconst (v := 3) hx hb d_L_law_613 (by decide) ?_
  refine lv_iadd hx hb d_L_law_614 ?_
  refine sl_ld (j := iv) (d := 3) hx hb hX hbl hbA hS hL (by omega) d_L_law_615 ?_
  refine lv_i2l (v := (xs (iv + 3)).toInt64) hx hb d_L_law_616 rfl ?_
  refine lv_ldc2 (v := 4294967295) hx hb hown (hw _ ww_884) d_L_law_617 ?_
  refine lv_land hx hb d_L_law_620 ?_
  refine lv_lor hx hb d_L_law_621 ?_
  refine tp_l (rfl) ?_
  refine lv_aload_n hx hb d_L_law_622 rfl (lv_at hl 1 rfl) ?_
  have hC9 : List.map (fun i => ((lw_W ct hd us op hm qo qa fu au ns n ck n ck th hh a1 a2 a3 a4 a5 a6 a7 a8 a9 b0 b1 b2 b3 b4 b5 b6 b7 b8 b9 b10 og fo ad eu es) : va_W)[i]?) [22, 24, 25 + (8 + k), 25 + u, 21] = List.map some ([(hd, .inr (0, [.ref us, .ref op, .int (nI n), .int ck])), (op, .inl ((ct 4), 40, .inr (.inr (.inr (.inr fo))))), ((ad k), .inr (3, [.ref (au u), .int (b0 k), .long (lN sec), .int (b3 k), .int (b2 k), .long (lN x), .long (lN y), .long (b9 k), .long c1, .long c2, .long (b10 k), .long (lN rc)])), ((au u), .inr (1, [.int (nI u), .int ns, .int (a1 u), .long (lN uo), .long ul, .long (lN uv), .int (a5 u), .int (a6 u), .int (a7 u), .int (a8 u)])), (qo, .inl ((ct 1), 1, .inr (.inl og)))] : va_W) := (wc_c rfl (wc_c rfl (wc_c (lw_s rfl hkn hes) (wc_c (lw_u rfl hu8 heu) (wc_c rfl rfl)))))
  have hn9 : va_nd [22, 24, 25 + (8 + k), 25 + u, 21] = true := (nd_c (by simp only [List.mem_cons, List.not_mem_nil, or_false]; omega) (nd_c (by simp only [List.mem_cons, List.not_mem_nil, or_false]; omega) (nd_c (by simp only [List.mem_cons, List.not_mem_nil, or_false]; omega) (nd_c (by simp only [List.mem_cons, List.not_mem_nil, or_false]; omega) (nd_c List.not_mem_nil rfl)))))
  have hPc : va_P G classes [(hd, .inr (0, [.ref us, .ref op, .int (nI n), .int ck])), (op, .inl ((ct 4), 40, .inr (.inr (.inr (.inr fo))))), ((ad k), .inr (3, [.ref (au u), .int (b0 k), .long (lN sec), .int (b3 k), .int (b2 k), .long (lN x), .long (lN y), .long (b9 k), .long c1, .long c2, .long (b10 k), .long (lN rc)])), ((au u), .inr (1, [.int (nI u), .int ns, .int (a1 u), .long (lN uo), .long ul, .long (lN uv), .int (a5 u), .int (a6 u), .int (a7 u), .int (a8 u)])), (qo, .inl ((ct 1), 1, .inr (.inl og)))] H := lp_sub hP [22, 24, 25 + (8 + k), 25 + u, 21] hC9
  have hDc := hD.sub (ws' := [(hd, .inr (0, [.ref us, .ref op, .int (nI n), .int ck])), (op, .inl ((ct 4), 40, .inr (.inr (.inr (.inr fo))))), ((ad k), .inr (3, [.ref (au u), .int (b0 k), .long (lN sec), .int (b3 k), .int (b2 k), .long (lN x), .long (lN y), .long (b9 k), .long c1, .long c2, .long (b10 k), .long (lN rc)])), ((au u), .inr (1, [.int (nI u), .int ns, .int (a1 u), .long (lN uo), .long ul, .long (lN uv), .int (a5 u), .int (a6 u), .int (a7 u), .int (a8 u)])), (qo, .inl ((ct 1), 1, .inr (.inl og)))]) [22, 24, 25 + (8 + k), 25 + u, 21] hn9 hC9
  have hW9 : wk_sets ((lw_W ct hd us op hm qo qa fu au ns n ck n ck th hh a1 a2 a3 a4 a5 a6 a7 a8 a9 b0 b1 b2 b3 b4 b5 b6 b7 b8 b9 b10 og fo ad eu es) : va_W) [22, 24, 25 + (8 + k), 25 + u, 21] ([(hd, .inr (0, [.ref us, .ref op, .int (nI n), .int ck])), (op, .inl ((ct 4), 40, .inr (.inr (.inr (.inr fo))))), ((ad k), .inr (3, [.ref (au u), .int (b0 k), .long (lN sec), .int (b3 k), .int 3, .long (lN x), .long (lN y), .long (b9 k), .long c1, .long c2, .long (b10 k), .long (lN rc)])), ((au u), .inr (1, [.int (nI u), .int ns, .int (a1 u), .long (lN uo), .long ul, .long (lN uv), .int ((a5 u) + 1), .int ck, .int (a6 u), .int (a7 u)])), (qo, .inl ((ct 1), 1, .inr (.inl og)))] : va_W) = ((lw_W ct hd us op hm qo qa fu au ns n ck n ck th hh a1 a2 a3 a4 a5 a6 a7 a8 a9 b0 b1 b2 b3 b4 b5 b6 b7 b8 b9 b10 og fo ad (va_up eu u (.inr (1, [.int (nI u), .int ns, .int (a1 u), .long (lN uo), .long ul, .long (lN uv), .int ((a5 u) + 1), .int ck, .int (a6 u), .int (a7 u)]))) (va_up es k (.inr (3, [.ref (au u), .int (b0 k), .long (lN sec), .int (b3 k), .int 3, .long (lN x), .long (lN y), .long (b9 k), .long c1, .long c2, .long (b10 k), .long (lN rc)])))) : va_W) := (ws_k rfl (ws_k rfl (ws_c (lw_ss rfl) (ws_c (lw_su rfl hu8) (ws_k rfl rfl)))))
  refine wk_i (sh_run (As := [.ref hd, .int (nI k), .long (lj (xs (iv + 2)) (xs (iv + 3))), .ref qo]) (rest := []) (hs := [(0, 11, 14, 25), (0, 11, 18, 15), (0, 11, 22, 13), (0, 11, 26, 27)]) ⟨hx, hb, hml, hown, hts⟩ (c_L_receive_YV l hfl G ct H.size hd us op n ck fo k (ad k) (au u) (b0 k) sec (b3 k) (b2 k) x y (b9 k) c1 c2 (b10 k) rc (nI u) ns (a1 u) uo ul uv (a5 u) (a6 u) (a7 u) (a8 u) (lj (xs (iv + 2)) (xs (iv + 3))) qo og d_hn d_hkn d_hfo d_hst d_haw) wk_ret ⟨hw, ww_417, ww_0, ⟨by decide, by decide⟩, np_L_receive, ww_415, ww_416, rfl, rfl, Nat.le_of_ble_eq_true rfl, Nat.le_of_ble_eq_true rfl⟩ (wk_pre5 hPc hK hDc hD hS hA [22, 24, 25 + (8 + k), 25 + u, 21] hC9 hZ hR hN) rfl hl.1 rfl (lv_room (Nat.le_of_ble_eq_true rfl)) d_L_law_623 ⟨by omega, by omega⟩) hP hD hS hA [22, 24, 25 + (8 + k), 25 + u, 21] hn9 hC9 (fun _ => by simp only [List.map_cons, List.map_nil]) (fun _ H locs _ hP hD hS => ?_)
  have hP : va_P G classes (lw_W ct hd us op hm qo qa fu au ns n ck n ck th hh a1 a2 a3 a4 a5 a6 a7 a8 a9 b0 b1 b2 b3 b4 b5 b6 b7 b8 b9 b10 og fo ad (va_up eu u (.inr (1, [.int (nI u), .int ns, .int (a1 u), .long (lN uo), .long ul, .long (lN uv), .int ((a5 u) + 1), .int ck, .int (a6 u), .int (a7 u)]))) (va_up es k (.inr (3, [.ref (au u), .int (b0 k), .long (lN sec), .int (b3 k), .int 3, .long (lN x), .long (lN y), .long (b9 k), .long c1, .long c2, .long (b10 k), .long (lN rc)])))) H := lp_P hW9 hP
  have hD : va_D A (lw_W ct hd us op hm qo qa fu au ns n ck n ck th hh a1 a2 a3 a4 a5 a6 a7 a8 a9 b0 b1 b2 b3 b4 b5 b6 b7 b8 b9 b10 og fo ad (va_up eu u (.inr (1, [.int (nI u), .int ns, .int (a1 u), .long (lN uo), .long ul, .long (lN uv), .int ((a5 u) + 1), .int ck, .int (a6 u), .int (a7 u)]))) (va_up es k (.inr (3, [.ref (au u), .int (b0 k), .long (lN sec), .int (b3 k), .int 3, .long (lN x), .long (lN y), .long (b9 k), .long c1, .long c2, .long (b10 k), .long (lN rc)])))) := lp_D hW9 hD
  refine lv_istore (lv' := [(5, .int 4), (4, .int (nI iv)), (3, .ref qo), (2, .ref hm), (1, .ref hd), (0, .ref b)]) hx hb d_L_law_626 hl (Nat.le_of_ble_eq_true rfl) rfl (fun ls hl => ?_)
  refine lv_aload_n hx hb d_L_law_628 rfl (lv_at hl 3 rfl) ?_
  refine lv_aload_n hx hb d_L_law_629 rfl (lv_at hl 5 rfl) ?_
  refine lv_iload hx hb d_L_law_630 (lv_at hl 1 rfl) ?_
  refine lv_iconst (v := 1) hx hb d_L_law_632 (by decide) ?_
  refine lv_iadd hx hb d_L_law_633 ?_
  refine sl_ld (j := iv) (d := 1) hx hb hX hbl hbA hS hL (by omega) d_L_law_634 ?_
  refine tp_i (hv1) ?_
  refine lv_aload_n hx hb d_L_law_635 rfl (lv_at hl 5 rfl) ?_
  refine lv_iload hx hb d_L_law_636 (lv_at hl 1 rfl) ?_
  refine lv_iconst (v := 2) hx hb d_L_law_638 (by decide) ?_
  refine lv_iadd hx hb d_L_law_639 ?_
  refine sl_ld (j := iv) (d := 2) hx hb hX hbl hbA hS hL (by omega) d_L_law_640 ?_
  refine lv_i2l (v := (xs (iv + 2)).toInt64) hx hb d_L_law_641 rfl ?_
  refine lv_bipush (v := 32) hx hb d_L_law_642 (by decide) ?_
  refine lv_lshl (v := ((xs (iv + 2)).toInt64) <<< ((32 : Int32).toInt64 &&& 63)) hx hb d_L_law_644 rfl ?_
  refine lv_aload_n hx hb d_L_law_645 rfl (lv_at hl 5 rfl) ?_
  refine lv_iload hx hb d_L_law_646 (lv_at hl 1 rfl) ?_
  refine lv_iconst (v := 3) hx hb d_L_law_648 (by decide) ?_
  refine lv_iadd hx hb d_L_law_649 ?_
  refine sl_ld (j := iv) (d := 3) hx hb hX hbl hbA hS hL (by omega) d_L_law_650 ?_
  refine lv_i2l (v := (xs (iv + 3)).toInt64) hx hb d_L_law_651 rfl ?_
  refine lv_ldc2 (v := 4294967295) hx hb hown (hw _ ww_884) d_L_law_652 ?_
  refine lv_land hx hb d_L_law_655 ?_
  refine lv_lor hx hb d_L_law_656 ?_
  refine tp_l (rfl) ?_
  have hPc : va_P G classes [(hm, .inr (4, [.int th, .long ns.toInt64, .int ck, .long hh, .ref (qa 1), .ref (qa 2), .ref (qa 3), .ref (qa 4), .ref (qa 5), .ref (qa 6), .ref (qa 7), .ref (qa 8), .int (nI n), .ref (qa 9), .ref (qa 10), .ref (qa 11), .ref (qa 12), .ref (qa 13), .ref (qa 14), .ref (qa 15), .ref (qa 16), .ref (qa 17), .ref (qa 18), .ref (qa 19), .ref (qa 20)])), ((qa 5), .inl ((ct 0), 8, .inl a5)), ((qa 6), .inl ((ct 0), 8, .inl a6)), ((qa 7), .inl ((ct 0), 8, .inl a7)), ((qa 8), .inl ((ct 0), 8, .inl a8)), ((qa 9), .inl ((ct 2), 40, .inl a9)), ((qa 11), .inl ((ct 0), 40, .inl b1)), ((qa 12), .inl ((ct 0), 40, .inl b2)), ((qa 13), .inl ((ct 0), 40, .inl b3)), ((qa 17), .inl ((ct 1), 40, .inr (.inl b7))), ((qa 18), .inl ((ct 1), 40, .inr (.inl b8))), ((qa 19), .inl ((ct 1), 40, .inr (.inl b9))), ((qa 20), .inl ((ct 1), 40, .inr (.inl b10)))] H := hP.sub [0, 5, 6, 7, 8, 9, 11, 12, 13, 17, 18, 19, 20] rfl
  have hDc := hD.sub (ws' := [(hm, .inr (4, [.int th, .long ns.toInt64, .int ck, .long hh, .ref (qa 1), .ref (qa 2), .ref (qa 3), .ref (qa 4), .ref (qa 5), .ref (qa 6), .ref (qa 7), .ref (qa 8), .int (nI n), .ref (qa 9), .ref (qa 10), .ref (qa 11), .ref (qa 12), .ref (qa 13), .ref (qa 14), .ref (qa 15), .ref (qa 16), .ref (qa 17), .ref (qa 18), .ref (qa 19), .ref (qa 20)])), ((qa 5), .inl ((ct 0), 8, .inl a5)), ((qa 6), .inl ((ct 0), 8, .inl a6)), ((qa 7), .inl ((ct 0), 8, .inl a7)), ((qa 8), .inl ((ct 0), 8, .inl a8)), ((qa 9), .inl ((ct 2), 40, .inl a9)), ((qa 11), .inl ((ct 0), 40, .inl b1)), ((qa 12), .inl ((ct 0), 40, .inl b2)), ((qa 13), .inl ((ct 0), 40, .inl b3)), ((qa 17), .inl ((ct 1), 40, .inr (.inl b7))), ((qa 18), .inl ((ct 1), 40, .inr (.inl b8))), ((qa 19), .inl ((ct 1), 40, .inr (.inl b9))), ((qa 20), .inl ((ct 1), 40, .inr (.inl b10)))]) [0, 5, 6, 7, 8, 9, 11, 12, 13, 17, 18, 19, 20] (by decide) rfl
  refine wk_i (va_runV (As := [.int (nI k), .long (lj (xs (iv + 2)) (xs (iv + 3)))]) (rest := []) ⟨hx, hb, hml, hown, hts⟩ (c_M_receive_FV0 l G ct H.size hm th ns.toInt64 ck hh (qa 1) (qa 2) (qa 3) (qa 4) (qa 5) (qa 6) (qa 7) (qa 8) (qa 9) (qa 10) (qa 11) (qa 12) (qa 13) (qa 14) (qa 15) (qa 16) (qa 17) (qa 18) (qa 19) (qa 20) n a5 a6 a7 a8 a9 b1 b2 b3 b7 b8 b9 b10 k u (lj (xs (iv + 2)) (xs (iv + 3))) m_hn m_hkn m_hst m_hsv m_hu m_hu8 m_haw) (tb_V hw cy_M_receive ww_804 ww_805 ww_806 rfl rfl ⟨Nat.le_of_ble_eq_true rfl, Nat.le_of_ble_eq_true rfl⟩) (wk_preV (ci := 4) (q0 := 0) hPc hK hDc rfl rfl) rfl rfl hl.1 rfl (lv_room (Nat.le_of_ble_eq_true rfl)) d_L_law_657 ⟨by omega, by omega⟩) hP hD hS hA [0, 5, 6, 7, 8, 9, 11, 12, 13, 17, 18, 19, 20] (by decide) rfl (fun _ => by simp only [List.map_cons, List.map_nil]) (fun z21197 H locs ok1198 hP hD hS => ?_)
  have hP : va_P G classes (lw_W ct hd us op hm qo qa fu au ns n ck n ck 4 z21197 a1 a2 a3 a4 (upd a5 u (a5 u + 1)) (upd a6 u ck) (upd a7 u (a6 u)) (upd a8 u (a7 u)) a9 b0 b1 (upd b2 k 3) b3 b4 b5 b6 b7 b8 b9 b10 og fo ad (va_up eu u (.inr (1, [.int (nI u), .int ns, .int (a1 u), .long (lN uo), .long ul, .long (lN uv), .int ((a5 u) + 1), .int ck, .int (a6 u), .int (a7 u)]))) (va_up es k (.inr (3, [.ref (au u), .int (b0 k), .long (lN sec), .int (b3 k), .int 3, .long (lN x), .long (lN y), .long (b9 k), .long c1, .long c2, .long (b10 k), .long (lN rc)])))) H := hP
  have hD : va_D A (lw_W ct hd us op hm qo qa fu au ns n ck n ck 4 z21197 a1 a2 a3 a4 (upd a5 u (a5 u + 1)) (upd a6 u ck) (upd a7 u (a6 u)) (upd a8 u (a7 u)) a9 b0 b1 (upd b2 k 3) b3 b4 b5 b6 b7 b8 b9 b10 og fo ad (va_up eu u (.inr (1, [.int (nI u), .int ns, .int (a1 u), .long (lN uo), .long ul, .long (lN uv), .int ((a5 u) + 1), .int ck, .int (a6 u), .int (a7 u)]))) (va_up es k (.inr (3, [.ref (au u), .int (b0 k), .long (lN sec), .int (b3 k), .int 3, .long (lN x), .long (lN y), .long (b9 k), .long c1, .long c2, .long (b10 k), .long (lN rc)])))) := hD
  refine lv_istore (lv' := [(6, .int 0), (5, .int 4), (4, .int (nI iv)), (3, .ref qo), (2, .ref hm), (1, .ref hd), (0, .ref b)]) hx hb d_L_law_660 hl (Nat.le_of_ble_eq_true rfl) rfl (fun ls hl => ?_)
  refine lv_aload_n hx hb d_L_law_662 rfl (lv_at hl 4 rfl) ?_
  have hPc : va_P G classes [(hm, .inr (4, [.int 4, .long ns.toInt64, .int ck, .long z21197, .ref (qa 1), .ref (qa 2), .ref (qa 3), .ref (qa 4), .ref (qa 5), .ref (qa 6), .ref (qa 7), .ref (qa 8), .int (nI n), .ref (qa 9), .ref (qa 10), .ref (qa 11), .ref (qa 12), .ref (qa 13), .ref (qa 14), .ref (qa 15), .ref (qa 16), .ref (qa 17), .ref (qa 18), .ref (qa 19), .ref (qa 20)]))] H := hP.sub [0] rfl
  have hDc := hD.sub (ws' := [(hm, .inr (4, [.int 4, .long ns.toInt64, .int ck, .long z21197, .ref (qa 1), .ref (qa 2), .ref (qa 3), .ref (qa 4), .ref (qa 5), .ref (qa 6), .ref (qa 7), .ref (qa 8), .int (nI n), .ref (qa 9), .ref (qa 10), .ref (qa 11), .ref (qa 12), .ref (qa 13), .ref (qa 14), .ref (qa 15), .ref (qa 16), .ref (qa 17), .ref (qa 18), .ref (qa 19), .ref (qa 20)]))]) [0] (by decide) rfl
  refine vp_callSi (W.runV (As := []) (rest := []) ⟨hx, hb, hml, hown, hts⟩ (c_M_thrown l G ct H.size hm 4 ns.toInt64 ck z21197 (qa 1) (qa 2) (qa 3) (qa 4) (qa 5) (qa 6) (qa 7) (qa 8) (qa 9) (qa 10) (qa 11) (qa 12) (qa 13) (qa 14) (qa 15) (qa 16) (qa 17) (qa 18) (qa 19) (qa 20) n) (tb_V hw cy_M_thrown ww_719 ww_720 ww_721 rfl rfl ⟨Nat.le_of_ble_eq_true rfl, Nat.le_of_ble_eq_true rfl⟩) (wk_preV (ci := 4) (q0 := 0) hPc hK hDc rfl rfl) rfl rfl hl.1 rfl (lv_room (Nat.le_of_ble_eq_true rfl)) d_L_law_663 ⟨by omega, by omega⟩) (fun r1199 er1199 => ?_)
  subst er1199
  refine lv_iload hx hb d_L_law_666 (lv_at hl 1 rfl) ?_
  refine lv_icmp_eq (tgt := 673) hx hb d_L_law_668 (by decide) (fun h1200 => ?_) (fun h1200 => ?_)
  · refine lv_iload hx hb d_L_law_673 (lv_at hl 1 rfl) ?_
    refine lv_if_ne (tgt := 690) hx hb d_L_law_675 (by decide) (fun h1201 => ?_) (fun h1201 => ?_)
    · refine lv_goto (tgt := 1005) hx hb d_L_law_690 (by decide) ?_
      refine W.widen (k := cells + 1) (n := slots + 13) (by omega) (by omega) ?_
      exact kk n ck 4 z21197 a1 a2 a3 a4 (upd a5 u (a5 u + 1)) (upd a6 u ck) (upd a7 u (a6 u)) (upd a8 u (a7 u)) a9 b0 b1 (upd b2 k 3) b3 b4 b5 b6 b7 b8 b9 b10 og fo ad (va_up eu u (.inr (1, [.int (nI u), .int ns, .int (a1 u), .long (lN uo), .long ul, .long (lN uv), .int ((a5 u) + 1), .int ck, .int (a6 u), .int (a7 u)]))) (va_up es k (.inr (3, [.ref (au u), .int (b0 k), .long (lN sec), .int (b3 k), .int 3, .long (lN x), .long (lN y), .long (b9 k), .long c1, .long c2, .long (b10 k), .long (lN rc)]))) H locs _ hnew hP hD hS (lv_sub hl [2, 3, 4, 5, 6] rfl)
    · exact absurd h1201 (by decide)
  · exact absurd h1200 (by decide)
set_option maxHeartbeats 4000000 in
set_option maxRecDepth 100000 in
theorem lq_receive_ZC_R2 {k : Nat} {u : Nat} {sec : Nat} {x : Nat} {y : Nat} {rc : Nat} {c1 : Int64} {c2 : Int64} (C0 : lc_C p l s m meth c b L xs G ct A) (hiv : iv + 7 ≤ L) (hcc : cells + 1 ≤ room_1.cells) (hzz : slots + 13 ≤ room_1.slots)
    (hP : va_P G classes (lw_W ct hd us op hm qo qa fu au ns n ck n ck th hh a1 a2 a3 a4 a5 a6 a7 a8 a9 b0 b1 b2 b3 b4 b5 b6 b7 b8 b9 b10 og fo ad eu es) H) (hD : va_D A (lw_W ct hd us op hm qo qa fu au ns n ck n ck th hh a1 a2 a3 a4 a5 a6 a7 a8 a9 b0 b1 b2 b3 b4 b5 b6 b7 b8 b9 b10 og fo ad eu es)) (hS : va_S A s.heap H locs) (hl : lv_has ls 8 [(4, .int (nI iv)), (3, .ref qo), (2, .ref hm), (1, .ref hd), (0, .ref b)])
    (kk : lc_K p l e s m below meth c b L xs G ct A hd us op hm qo qa fu au ns iv (cells + 1) (slots + 13) Q)
    (hv1 : xs (iv + 1) = nI k) (hkn : k < n) (hes : es k = .inr (2, [.ref (au u), .int (b0 k), .long (lN sec), .int (b3 k), .int (b2 k), .long (lN x), .long (lN y), .long (b9 k), .long c1, .long c2, .long (b10 k), .long (b5 k), .long (lN rc)])) (d_hn : n ≤ 40) (d_hkn : k < n) (d_hfo : fo k = some (ad k)) (d_hs0 : ¬ se_at (b2 k) (b3 k) ck = 0) (d_hs1 : ¬ se_at (b2 k) (b3 k) ck = 1) (m_hn : n ≤ 40) (m_hkn : k < n) (m_hst : 1 < sm_at (b2 k) (b3 k) ck)  (hnew : li_R fu au ns n a1 a2 a3 a4 a5 a6 a7 a8 a9 b0 b1 b2 b3 b4 b5 b6 b7 b8 b9 b10 fo ad eu es)  : W p l e room_1 s m #[Value.ref b] below meth c H locs cells slots Q (F0 m 593 ls []) := by
  obtain ⟨hx, hb, hr, hml, hown, hw, hK, hZ, hR, hN, hfl, hA, hbA, hX, hbl, hL, hlocks⟩ := C0
  have hts := hw
  have hP : va_P G classes (lw_W ct hd us op hm qo qa fu au ns n ck n ck th hh a1 a2 a3 a4 a5 a6 a7 a8 a9 b0 b1 b2 b3 b4 b5 b6 b7 b8 b9 b10 og fo ad eu es) H := hP
  have hD : va_D A (lw_W ct hd us op hm qo qa fu au ns n ck n ck th hh a1 a2 a3 a4 a5 a6 a7 a8 a9 b0 b1 b2 b3 b4 b5 b6 b7 b8 b9 b10 og fo ad eu es) := hD
  refine lv_aload_n hx hb d_L_law_593 rfl (lv_at hl 3 rfl) ?_
  refine lv_aload_n hx hb d_L_law_594 rfl (lv_at hl 4 rfl) ?_
  refine lv_iload hx hb d_L_law_595 (lv_at hl 0 rfl) ?_
  refine lv_iconst (v := 1) hx hb d_L_law_597 (by decide) ?_
  refine lv_iadd hx hb d_L_law_598 ?_
  refine sl_ld (j := iv) (d := 1) hx hb hX hbl hbA hS hL (by omega) d_L_law_599 ?_
  refine tp_i (hv1) ?_
  refine lv_aload_n hx hb d_L_law_600 rfl (lv_at hl 4 rfl) ?_
  refine lv_iload hx hb d_L_law_601 (lv_at hl 0 rfl) ?_
  refine lv_iconst (v := 2) hx hb d_L_law_603 (by decide) ?_
  refine lv_iadd hx hb d_L_law_604 ?_
  refine sl_ld (j := iv) (d := 2) hx hb hX hbl hbA hS hL (by omega) d_L_law_605 ?_
  refine lv_i2l (v := (xs (iv + 2)).toInt64) hx hb d_L_law_606 rfl ?_
  refine lv_bipush (v := 32) hx hb d_L_law_607 (by decide) ?_
  refine lv_lshl (v := ((xs (iv + 2)).toInt64) <<< ((32 : Int32).toInt64 &&& 63)) hx hb d_L_law_609 rfl ?_
  refine lv_aload_n hx hb d_L_law_610 rfl (lv_at hl 4 rfl) ?_
  refine lv_iload hx hb d_L_law_611 (lv_at hl 0 rfl) ?_
  refine lv_iconst (v := 3) hx hb d_L_law_613 (by decide) ?_
  refine lv_iadd hx hb d_L_law_614 ?_
  refine sl_ld (j := iv) (d := 3) hx hb hX hbl hbA hS hL (by omega) d_L_law_615 ?_
  refine lv_i2l (v := (xs (iv + 3)).toInt64) hx hb d_L_law_616 rfl ?_
  refine lv_ldc2 (v := 4294967295) hx hb hown (hw _ ww_884) d_L_law_617 ?_
  refine lv_land hx hb d_L_law_620 ?_
  refine lv_lor hx hb d_L_law_621 ?_
  refine tp_l (rfl) ?_
  refine lv_aload_n hx hb d_L_law_622 rfl (lv_at hl 1 rfl) ?_
  have hC9 : List.map (fun i => ((lw_W ct hd us op hm qo qa fu au ns n ck n ck th hh a1 a2 a3 a4 a5 a6 a7 a8 a9 b0 b1 b2 b3 b4 b5 b6 b7 b8 b9 b10 og fo ad eu es) : va_W)[i]?) [22, 24, 25 + (8 + k), 21] = List.map some ([(hd, .inr (0, [.ref us, .ref op, .int (nI n), .int ck])), (op, .inl ((ct 4), 40, .inr (.inr (.inr (.inr fo))))), ((ad k), .inr (2, [.ref (au u), .int (b0 k), .long (lN sec), .int (b3 k), .int (b2 k), .long (lN x), .long (lN y), .long (b9 k), .long c1, .long c2, .long (b10 k), .long (b5 k), .long (lN rc)])), (qo, .inl ((ct 1), 1, .inr (.inl og)))] : va_W) := (wc_c rfl (wc_c rfl (wc_c (lw_s rfl hkn hes) (wc_c rfl rfl))))
  have hn9 : va_nd [22, 24, 25 + (8 + k), 21] = true := (nd_c (by simp only [List.mem_cons, List.not_mem_nil, or_false]; omega) (nd_c (by simp only [List.mem_cons, List.not_mem_nil, or_false]; omega) (nd_c (by simp only [List.mem_cons, List.not_mem_nil, or_false]; omega) (nd_c List.not_mem_nil rfl))))
  have hPc : va_P G classes [(hd, .inr (0, [.ref us, .ref op, .int (nI n), .int ck])), (op, .inl ((ct 4), 40, .inr (.inr (.inr (.inr fo))))), ((ad k), .inr (2, [.ref (au u), .int (b0 k), .long (lN sec), .int (b3 k), .int (b2 k), .long (lN x), .long (lN y), .long (b9 k), .long c1, .long c2, .long (b10 k), .long (b5 k), .long (lN rc)])), (qo, .inl ((ct 1), 1, .inr (.inl og)))] H := lp_sub hP [22, 24, 25 + (8 + k), 21] hC9
  have hDc := hD.sub (ws' := [(hd, .inr (0, [.ref us, .ref op, .int (nI n), .int ck])), (op, .inl ((ct 4), 40, .inr (.inr (.inr (.inr fo))))), ((ad k), .inr (2, [.ref (au u), .int (b0 k), .long (lN sec), .int (b3 k), .int (b2 k), .long (lN x), .long (lN y), .long (b9 k), .long c1, .long c2, .long (b10 k), .long (b5 k), .long (lN rc)])), (qo, .inl ((ct 1), 1, .inr (.inl og)))]) [22, 24, 25 + (8 + k), 21] hn9 hC9
  have hW9 : wk_sets ((lw_W ct hd us op hm qo qa fu au ns n ck n ck th hh a1 a2 a3 a4 a5 a6 a7 a8 a9 b0 b1 b2 b3 b4 b5 b6 b7 b8 b9 b10 og fo ad eu es) : va_W) [22, 24, 25 + (8 + k), 21] ([(hd, .inr (0, [.ref us, .ref op, .int (nI n), .int ck])), (op, .inl ((ct 4), 40, .inr (.inr (.inr (.inr fo))))), ((ad k), .inr (2, [.ref (au u), .int (b0 k), .long (lN sec), .int (b3 k), .int (b2 k), .long (lN x), .long (lN y), .long (b9 k), .long c1, .long c2, .long (b10 k), .long (b5 k), .long (lN rc)])), (qo, .inl ((ct 1), 1, .inr (.inl og)))] : va_W) = ((lw_W ct hd us op hm qo qa fu au ns n ck n ck th hh a1 a2 a3 a4 a5 a6 a7 a8 a9 b0 b1 b2 b3 b4 b5 b6 b7 b8 b9 b10 og fo ad eu es) : va_W) := (ws_k rfl (ws_k rfl (ws_k (lw_s rfl hkn hes) (ws_k rfl rfl))))
  refine wk_i (sh_run (As := [.ref hd, .int (nI k), .long (lj (xs (iv + 2)) (xs (iv + 3))), .ref qo]) (rest := []) (hs := [(0, 11, 14, 25), (0, 11, 18, 15), (0, 11, 22, 13), (0, 11, 26, 27)]) ⟨hx, hb, hml, hown, hts⟩ (c_L_receive_ZC l hfl G ct H.size hd us op n ck fo k (ad k) (au u) (b0 k) sec (b3 k) (b2 k) x y (b9 k) c1 c2 (b10 k) (b5 k) rc (lj (xs (iv + 2)) (xs (iv + 3))) qo og d_hn d_hkn d_hfo d_hs0 d_hs1) wk_ret ⟨hw, ww_417, ww_0, ⟨by decide, by decide⟩, np_L_receive, ww_415, ww_416, rfl, rfl, Nat.le_of_ble_eq_true rfl, Nat.le_of_ble_eq_true rfl⟩ (wk_pre5 hPc hK hDc hD hS hA [22, 24, 25 + (8 + k), 21] hC9 hZ hR hN) rfl hl.1 rfl (lv_room (Nat.le_of_ble_eq_true rfl)) d_L_law_623 ⟨by omega, by omega⟩) hP hD hS hA [22, 24, 25 + (8 + k), 21] hn9 hC9 (fun _ => by simp only [List.map_cons, List.map_nil]) (fun _ H locs _ hP hD hS => ?_)
  have hP : va_P G classes (lw_W ct hd us op hm qo qa fu au ns n ck n ck th hh a1 a2 a3 a4 a5 a6 a7 a8 a9 b0 b1 b2 b3 b4 b5 b6 b7 b8 b9 b10 og fo ad eu es) H := lp_P hW9 hP
  have hD : va_D A (lw_W ct hd us op hm qo qa fu au ns n ck n ck th hh a1 a2 a3 a4 a5 a6 a7 a8 a9 b0 b1 b2 b3 b4 b5 b6 b7 b8 b9 b10 og fo ad eu es) := lp_D hW9 hD
  refine lv_istore (lv' := [(5, .int 2), (4, .int (nI iv)), (3, .ref qo), (2, .ref hm), (1, .ref hd), (0, .ref b)]) hx hb d_L_law_626 hl (Nat.le_of_ble_eq_true rfl) rfl (fun ls hl => ?_)
  refine lv_aload_n hx hb d_L_law_628 rfl (lv_at hl 3 rfl) ?_
  refine lv_aload_n hx hb d_L_law_629 rfl (lv_at hl 5 rfl) ?_
  refine lv_iload hx hb d_L_law_630 (lv_at hl 1 rfl) ?_
  refine lv_iconst (v := 1) hx hb d_L_law_632 (by decide) ?_
  refine lv_iadd hx hb d_L_law_633 ?_
  refine sl_ld (j := iv) (d := 1) hx hb hX hbl hbA hS hL (by omega) d_L_law_634 ?_
  refine tp_i (hv1) ?_
  refine lv_aload_n hx hb d_L_law_635 rfl (lv_at hl 5 rfl) ?_
  refine lv_iload hx hb d_L_law_636 (lv_at hl 1 rfl) ?_
  refine lv_iconst (v := 2) hx hb d_L_law_638 (by decide) ?_
  refine lv_iadd hx hb d_L_law_639 ?_
  refine sl_ld (j := iv) (d := 2) hx hb hX hbl hbA hS hL (by omega) d_L_law_640 ?_
  refine lv_i2l (v := (xs (iv + 2)).toInt64) hx hb d_L_law_641 rfl ?_
  refine lv_bipush (v := 32) hx hb d_L_law_642 (by decide) ?_
  refine lv_lshl (v := ((xs (iv + 2)).toInt64) <<< ((32 : Int32).toInt64 &&& 63)) hx hb d_L_law_644 rfl ?_
  refine lv_aload_n hx hb d_L_law_645 rfl (lv_at hl 5 rfl) ?_
  refine lv_iload hx hb d_L_law_646 (lv_at hl 1 rfl) ?_
  refine lv_iconst (v := 3) hx hb d_L_law_648 (by decide) ?_
  refine lv_iadd hx hb d_L_law_649 ?_
  refine sl_ld (j := iv) (d := 3) hx hb hX hbl hbA hS hL (by omega) d_L_law_650 ?_
  refine lv_i2l (v := (xs (iv + 3)).toInt64) hx hb d_L_law_651 rfl ?_
  refine lv_ldc2 (v := 4294967295) hx hb hown (hw _ ww_884) d_L_law_652 ?_
  refine lv_land hx hb d_L_law_655 ?_
  refine lv_lor hx hb d_L_law_656 ?_
  refine tp_l (rfl) ?_
  have hPc : va_P G classes [(hm, .inr (4, [.int th, .long ns.toInt64, .int ck, .long hh, .ref (qa 1), .ref (qa 2), .ref (qa 3), .ref (qa 4), .ref (qa 5), .ref (qa 6), .ref (qa 7), .ref (qa 8), .int (nI n), .ref (qa 9), .ref (qa 10), .ref (qa 11), .ref (qa 12), .ref (qa 13), .ref (qa 14), .ref (qa 15), .ref (qa 16), .ref (qa 17), .ref (qa 18), .ref (qa 19), .ref (qa 20)])), ((qa 12), .inl ((ct 0), 40, .inl b2)), ((qa 13), .inl ((ct 0), 40, .inl b3))] H := hP.sub [0, 12, 13] rfl
  have hDc := hD.sub (ws' := [(hm, .inr (4, [.int th, .long ns.toInt64, .int ck, .long hh, .ref (qa 1), .ref (qa 2), .ref (qa 3), .ref (qa 4), .ref (qa 5), .ref (qa 6), .ref (qa 7), .ref (qa 8), .int (nI n), .ref (qa 9), .ref (qa 10), .ref (qa 11), .ref (qa 12), .ref (qa 13), .ref (qa 14), .ref (qa 15), .ref (qa 16), .ref (qa 17), .ref (qa 18), .ref (qa 19), .ref (qa 20)])), ((qa 12), .inl ((ct 0), 40, .inl b2)), ((qa 13), .inl ((ct 0), 40, .inl b3))]) [0, 12, 13] (by decide) rfl
  refine wk_i (va_runV (As := [.int (nI k), .long (lj (xs (iv + 2)) (xs (iv + 3)))]) (rest := []) ⟨hx, hb, hml, hown, hts⟩ (c_M_receive_R2 l G ct H.size hm th ns.toInt64 ck hh (qa 1) (qa 2) (qa 3) (qa 4) (qa 5) (qa 6) (qa 7) (qa 8) (qa 9) (qa 10) (qa 11) (qa 12) (qa 13) (qa 14) (qa 15) (qa 16) (qa 17) (qa 18) (qa 19) (qa 20) n b2 b3 k (lj (xs (iv + 2)) (xs (iv + 3))) m_hn m_hkn m_hst) (tb_V hw cy_M_receive ww_804 ww_805 ww_806 rfl rfl ⟨Nat.le_of_ble_eq_true rfl, Nat.le_of_ble_eq_true rfl⟩) (wk_preV (ci := 4) (q0 := 0) hPc hK hDc rfl rfl) rfl rfl hl.1 rfl (lv_room (Nat.le_of_ble_eq_true rfl)) d_L_law_657 ⟨by omega, by omega⟩) hP hD hS hA [0, 12, 13] (by decide) rfl (fun _ => by simp only [List.map_cons, List.map_nil]) (fun _ H locs ok1202 hP hD hS => ?_)
  have hP : va_P G classes (lw_W ct hd us op hm qo qa fu au ns n ck n ck 2 hh a1 a2 a3 a4 a5 a6 a7 a8 a9 b0 b1 b2 b3 b4 b5 b6 b7 b8 b9 b10 og fo ad eu es) H := hP
  have hD : va_D A (lw_W ct hd us op hm qo qa fu au ns n ck n ck 2 hh a1 a2 a3 a4 a5 a6 a7 a8 a9 b0 b1 b2 b3 b4 b5 b6 b7 b8 b9 b10 og fo ad eu es) := hD
  refine lv_istore (lv' := [(6, .int 0), (5, .int 2), (4, .int (nI iv)), (3, .ref qo), (2, .ref hm), (1, .ref hd), (0, .ref b)]) hx hb d_L_law_660 hl (Nat.le_of_ble_eq_true rfl) rfl (fun ls hl => ?_)
  refine lv_aload_n hx hb d_L_law_662 rfl (lv_at hl 4 rfl) ?_
  have hPc : va_P G classes [(hm, .inr (4, [.int 2, .long ns.toInt64, .int ck, .long hh, .ref (qa 1), .ref (qa 2), .ref (qa 3), .ref (qa 4), .ref (qa 5), .ref (qa 6), .ref (qa 7), .ref (qa 8), .int (nI n), .ref (qa 9), .ref (qa 10), .ref (qa 11), .ref (qa 12), .ref (qa 13), .ref (qa 14), .ref (qa 15), .ref (qa 16), .ref (qa 17), .ref (qa 18), .ref (qa 19), .ref (qa 20)]))] H := hP.sub [0] rfl
  have hDc := hD.sub (ws' := [(hm, .inr (4, [.int 2, .long ns.toInt64, .int ck, .long hh, .ref (qa 1), .ref (qa 2), .ref (qa 3), .ref (qa 4), .ref (qa 5), .ref (qa 6), .ref (qa 7), .ref (qa 8), .int (nI n), .ref (qa 9), .ref (qa 10), .ref (qa 11), .ref (qa 12), .ref (qa 13), .ref (qa 14), .ref (qa 15), .ref (qa 16), .ref (qa 17), .ref (qa 18), .ref (qa 19), .ref (qa 20)]))]) [0] (by decide) rfl
  refine vp_callSi (W.runV (As := []) (rest := []) ⟨hx, hb, hml, hown, hts⟩ (c_M_thrown l G ct H.size hm 2 ns.toInt64 ck hh (qa 1) (qa 2) (qa 3) (qa 4) (qa 5) (qa 6) (qa 7) (qa 8) (qa 9) (qa 10) (qa 11) (qa 12) (qa 13) (qa 14) (qa 15) (qa 16) (qa 17) (qa 18) (qa 19) (qa 20) n) (tb_V hw cy_M_thrown ww_719 ww_720 ww_721 rfl rfl ⟨Nat.le_of_ble_eq_true rfl, Nat.le_of_ble_eq_true rfl⟩) (wk_preV (ci := 4) (q0 := 0) hPc hK hDc rfl rfl) rfl rfl hl.1 rfl (lv_room (Nat.le_of_ble_eq_true rfl)) d_L_law_663 ⟨by omega, by omega⟩) (fun r1203 er1203 => ?_)
  subst er1203
  refine lv_iload hx hb d_L_law_666 (lv_at hl 1 rfl) ?_
  refine lv_icmp_eq (tgt := 673) hx hb d_L_law_668 (by decide) (fun h1204 => ?_) (fun h1204 => ?_)
  · refine lv_iload hx hb d_L_law_673 (lv_at hl 1 rfl) ?_
    refine lv_if_ne (tgt := 690) hx hb d_L_law_675 (by decide) (fun h1205 => ?_) (fun h1205 => ?_)
    · refine lv_goto (tgt := 1005) hx hb d_L_law_690 (by decide) ?_
      refine W.widen (k := cells + 1) (n := slots + 13) (by omega) (by omega) ?_
      exact kk n ck 2 hh a1 a2 a3 a4 a5 a6 a7 a8 a9 b0 b1 b2 b3 b4 b5 b6 b7 b8 b9 b10 og fo ad eu es H locs _ hnew hP hD hS (lv_sub hl [2, 3, 4, 5, 6] rfl)
    · exact absurd h1205 (by decide)
  · exact absurd h1204 (by decide)
set_option maxHeartbeats 4000000 in
set_option maxRecDepth 100000 in
theorem lq_receive_ZV_R2 {k : Nat} {u : Nat} {sec : Nat} {x : Nat} {y : Nat} {rc : Nat} {c1 : Int64} {c2 : Int64} (C0 : lc_C p l s m meth c b L xs G ct A) (hiv : iv + 7 ≤ L) (hcc : cells + 1 ≤ room_1.cells) (hzz : slots + 13 ≤ room_1.slots)
    (hP : va_P G classes (lw_W ct hd us op hm qo qa fu au ns n ck n ck th hh a1 a2 a3 a4 a5 a6 a7 a8 a9 b0 b1 b2 b3 b4 b5 b6 b7 b8 b9 b10 og fo ad eu es) H) (hD : va_D A (lw_W ct hd us op hm qo qa fu au ns n ck n ck th hh a1 a2 a3 a4 a5 a6 a7 a8 a9 b0 b1 b2 b3 b4 b5 b6 b7 b8 b9 b10 og fo ad eu es)) (hS : va_S A s.heap H locs) (hl : lv_has ls 8 [(4, .int (nI iv)), (3, .ref qo), (2, .ref hm), (1, .ref hd), (0, .ref b)])
    (kk : lc_K p l e s m below meth c b L xs G ct A hd us op hm qo qa fu au ns iv (cells + 1) (slots + 13) Q)
    (hv1 : xs (iv + 1) = nI k) (hkn : k < n) (hes : es k = .inr (3, [.ref (au u), .int (b0 k), .long (lN sec), .int (b3 k), .int (b2 k), .long (lN x), .long (lN y), .long (b9 k), .long c1, .long c2, .long (b10 k), .long (lN rc)])) (d_hn : n ≤ 40) (d_hkn : k < n) (d_hfo : fo k = some (ad k)) (d_hs0 : ¬ se_at (b2 k) (b3 k) ck = 0) (d_hs1 : ¬ se_at (b2 k) (b3 k) ck = 1) (m_hn : n ≤ 40) (m_hkn : k < n) (m_hst : 1 < sm_at (b2 k) (b3 k) ck)  (hnew : li_R fu au ns n a1 a2 a3 a4 a5 a6 a7 a8 a9 b0 b1 b2 b3 b4 b5 b6 b7 b8 b9 b10 fo ad eu es)  : W p l e room_1 s m #[Value.ref b] below meth c H locs cells slots Q (F0 m 593 ls []) := by
  obtain ⟨hx, hb, hr, hml, hown, hw, hK, hZ, hR, hN, hfl, hA, hbA, hX, hbl, hL, hlocks⟩ := C0
  have hts := hw
  have hP : va_P G classes (lw_W ct hd us op hm qo qa fu au ns n ck n ck th hh a1 a2 a3 a4 a5 a6 a7 a8 a9 b0 b1 b2 b3 b4 b5 b6 b7 b8 b9 b10 og fo ad eu es) H := hP
  have hD : va_D A (lw_W ct hd us op hm qo qa fu au ns n ck n ck th hh a1 a2 a3 a4 a5 a6 a7 a8 a9 b0 b1 b2 b3 b4 b5 b6 b7 b8 b9 b10 og fo ad eu es) := hD
  refine lv_aload_n hx hb d_L_law_593 rfl (lv_at hl 3 rfl) ?_
  refine lv_aload_n hx hb d_L_law_594 rfl (lv_at hl 4 rfl) ?_
  refine lv_iload hx hb d_L_law_595 (lv_at hl 0 rfl) ?_
  refine lv_iconst (v := 1) hx hb d_L_law_597 (by decide) ?_
  refine lv_iadd hx hb d_L_law_598 ?_
  refine sl_ld (j := iv) (d := 1) hx hb hX hbl hbA hS hL (by omega) d_L_law_599 ?_
  refine tp_i (hv1) ?_
  refine lv_aload_n hx hb d_L_law_600 rfl (lv_at hl 4 rfl) ?_
  refine lv_iload hx hb d_L_law_601 (lv_at hl 0 rfl) ?_
  refine lv_iconst (v := 2) hx hb d_L_law_603 (by decide) ?_
  refine lv_iadd hx hb d_L_law_604 ?_
  refine sl_ld (j := iv) (d := 2) hx hb hX hbl hbA hS hL (by omega) d_L_law_605 ?_
  refine lv_i2l (v := (xs (iv + 2)).toInt64) hx hb d_L_law_606 rfl ?_
  refine lv_bipush (v := 32) hx hb d_L_law_607 (by decide) ?_
  refine lv_lshl (v := ((xs (iv + 2)).toInt64) <<< ((32 : Int32).toInt64 &&& 63)) hx hb d_L_law_609 rfl ?_
  refine lv_aload_n hx hb d_L_law_610 rfl (lv_at hl 4 rfl) ?_
  refine lv_iload hx hb d_L_law_611 (lv_at hl 0 rfl) ?_
  refine lv_iconst (v := 3) hx hb d_L_law_613 (by decide) ?_
  refine lv_iadd hx hb d_L_law_614 ?_
  refine sl_ld (j := iv) (d := 3) hx hb hX hbl hbA hS hL (by omega) d_L_law_615 ?_
  refine lv_i2l (v := (xs (iv + 3)).toInt64) hx hb d_L_law_616 rfl ?_
  refine lv_ldc2 (v := 4294967295) hx hb hown (hw _ ww_884) d_L_law_617 ?_
  refine lv_land hx hb d_L_law_620 ?_
  refine lv_lor hx hb d_L_law_621 ?_
  refine tp_l (rfl) ?_
  refine lv_aload_n hx hb d_L_law_622 rfl (lv_at hl 1 rfl) ?_
  have hC9 : List.map (fun i => ((lw_W ct hd us op hm qo qa fu au ns n ck n ck th hh a1 a2 a3 a4 a5 a6 a7 a8 a9 b0 b1 b2 b3 b4 b5 b6 b7 b8 b9 b10 og fo ad eu es) : va_W)[i]?) [22, 24, 25 + (8 + k), 21] = List.map some ([(hd, .inr (0, [.ref us, .ref op, .int (nI n), .int ck])), (op, .inl ((ct 4), 40, .inr (.inr (.inr (.inr fo))))), ((ad k), .inr (3, [.ref (au u), .int (b0 k), .long (lN sec), .int (b3 k), .int (b2 k), .long (lN x), .long (lN y), .long (b9 k), .long c1, .long c2, .long (b10 k), .long (lN rc)])), (qo, .inl ((ct 1), 1, .inr (.inl og)))] : va_W) := (wc_c rfl (wc_c rfl (wc_c (lw_s rfl hkn hes) (wc_c rfl rfl))))
  have hn9 : va_nd [22, 24, 25 + (8 + k), 21] = true := (nd_c (by simp only [List.mem_cons, List.not_mem_nil, or_false]; omega) (nd_c (by simp only [List.mem_cons, List.not_mem_nil, or_false]; omega) (nd_c (by simp only [List.mem_cons, List.not_mem_nil, or_false]; omega) (nd_c List.not_mem_nil rfl))))
  have hPc : va_P G classes [(hd, .inr (0, [.ref us, .ref op, .int (nI n), .int ck])), (op, .inl ((ct 4), 40, .inr (.inr (.inr (.inr fo))))), ((ad k), .inr (3, [.ref (au u), .int (b0 k), .long (lN sec), .int (b3 k), .int (b2 k), .long (lN x), .long (lN y), .long (b9 k), .long c1, .long c2, .long (b10 k), .long (lN rc)])), (qo, .inl ((ct 1), 1, .inr (.inl og)))] H := lp_sub hP [22, 24, 25 + (8 + k), 21] hC9
  have hDc := hD.sub (ws' := [(hd, .inr (0, [.ref us, .ref op, .int (nI n), .int ck])), (op, .inl ((ct 4), 40, .inr (.inr (.inr (.inr fo))))), ((ad k), .inr (3, [.ref (au u), .int (b0 k), .long (lN sec), .int (b3 k), .int (b2 k), .long (lN x), .long (lN y), .long (b9 k), .long c1, .long c2, .long (b10 k), .long (lN rc)])), (qo, .inl ((ct 1), 1, .inr (.inl og)))]) [22, 24, 25 + (8 + k), 21] hn9 hC9
  have hW9 : wk_sets ((lw_W ct hd us op hm qo qa fu au ns n ck n ck th hh a1 a2 a3 a4 a5 a6 a7 a8 a9 b0 b1 b2 b3 b4 b5 b6 b7 b8 b9 b10 og fo ad eu es) : va_W) [22, 24, 25 + (8 + k), 21] ([(hd, .inr (0, [.ref us, .ref op, .int (nI n), .int ck])), (op, .inl ((ct 4), 40, .inr (.inr (.inr (.inr fo))))), ((ad k), .inr (3, [.ref (au u), .int (b0 k), .long (lN sec), .int (b3 k), .int (b2 k), .long (lN x), .long (lN y), .long (b9 k), .long c1, .long c2, .long (b10 k), .long (lN rc)])), (qo, .inl ((ct 1), 1, .inr (.inl og)))] : va_W) = ((lw_W ct hd us op hm qo qa fu au ns n ck n ck th hh a1 a2 a3 a4 a5 a6 a7 a8 a9 b0 b1 b2 b3 b4 b5 b6 b7 b8 b9 b10 og fo ad eu es) : va_W) := (ws_k rfl (ws_k rfl (ws_k (lw_s rfl hkn hes) (ws_k rfl rfl))))
  refine wk_i (sh_run (As := [.ref hd, .int (nI k), .long (lj (xs (iv + 2)) (xs (iv + 3))), .ref qo]) (rest := []) (hs := [(0, 11, 14, 25), (0, 11, 18, 15), (0, 11, 22, 13), (0, 11, 26, 27)]) ⟨hx, hb, hml, hown, hts⟩ (c_L_receive_ZV l hfl G ct H.size hd us op n ck fo k (ad k) (au u) (b0 k) sec (b3 k) (b2 k) x y (b9 k) c1 c2 (b10 k) rc (lj (xs (iv + 2)) (xs (iv + 3))) qo og d_hn d_hkn d_hfo d_hs0 d_hs1) wk_ret ⟨hw, ww_417, ww_0, ⟨by decide, by decide⟩, np_L_receive, ww_415, ww_416, rfl, rfl, Nat.le_of_ble_eq_true rfl, Nat.le_of_ble_eq_true rfl⟩ (wk_pre5 hPc hK hDc hD hS hA [22, 24, 25 + (8 + k), 21] hC9 hZ hR hN) rfl hl.1 rfl (lv_room (Nat.le_of_ble_eq_true rfl)) d_L_law_623 ⟨by omega, by omega⟩) hP hD hS hA [22, 24, 25 + (8 + k), 21] hn9 hC9 (fun _ => by simp only [List.map_cons, List.map_nil]) (fun _ H locs _ hP hD hS => ?_)
  have hP : va_P G classes (lw_W ct hd us op hm qo qa fu au ns n ck n ck th hh a1 a2 a3 a4 a5 a6 a7 a8 a9 b0 b1 b2 b3 b4 b5 b6 b7 b8 b9 b10 og fo ad eu es) H := lp_P hW9 hP
  have hD : va_D A (lw_W ct hd us op hm qo qa fu au ns n ck n ck th hh a1 a2 a3 a4 a5 a6 a7 a8 a9 b0 b1 b2 b3 b4 b5 b6 b7 b8 b9 b10 og fo ad eu es) := lp_D hW9 hD
  refine lv_istore (lv' := [(5, .int 2), (4, .int (nI iv)), (3, .ref qo), (2, .ref hm), (1, .ref hd), (0, .ref b)]) hx hb d_L_law_626 hl (Nat.le_of_ble_eq_true rfl) rfl (fun ls hl => ?_)
  refine lv_aload_n hx hb d_L_law_628 rfl (lv_at hl 3 rfl) ?_
  refine lv_aload_n hx hb d_L_law_629 rfl (lv_at hl 5 rfl) ?_
  refine lv_iload hx hb d_L_law_630 (lv_at hl 1 rfl) ?_
  refine lv_iconst (v := 1) hx hb d_L_law_632 (by decide) ?_
  refine lv_iadd hx hb d_L_law_633 ?_
  refine sl_ld (j := iv) (d := 1) hx hb hX hbl hbA hS hL (by omega) d_L_law_634 ?_
  refine tp_i (hv1) ?_
  refine lv_aload_n hx hb d_L_law_635 rfl (lv_at hl 5 rfl) ?_
  refine lv_iload hx hb d_L_law_636 (lv_at hl 1 rfl) ?_
  refine lv_iconst (v := 2) hx hb d_L_law_638 (by decide) ?_
  refine lv_iadd hx hb d_L_law_639 ?_
  refine sl_ld (j := iv) (d := 2) hx hb hX hbl hbA hS hL (by omega) d_L_law_640 ?_
  refine lv_i2l (v := (xs (iv + 2)).toInt64) hx hb d_L_law_641 rfl ?_
  refine lv_bipush (v := 32) hx hb d_L_law_642 (by decide) ?_
  refine lv_lshl (v := ((xs (iv + 2)).toInt64) <<< ((32 : Int32).toInt64 &&& 63)) hx hb d_L_law_644 rfl ?_
  refine lv_aload_n hx hb d_L_law_645 rfl (lv_at hl 5 rfl) ?_
  refine lv_iload hx hb d_L_law_646 (lv_at hl 1 rfl) ?_
  refine lv_iconst (v := 3) hx hb d_L_law_648 (by decide) ?_
  refine lv_iadd hx hb d_L_law_649 ?_
  refine sl_ld (j := iv) (d := 3) hx hb hX hbl hbA hS hL (by omega) d_L_law_650 ?_
  refine lv_i2l (v := (xs (iv + 3)).toInt64) hx hb d_L_law_651 rfl ?_
  refine lv_ldc2 (v := 4294967295) hx hb hown (hw _ ww_884) d_L_law_652 ?_
  refine lv_land hx hb d_L_law_655 ?_
  refine lv_lor hx hb d_L_law_656 ?_
  refine tp_l (rfl) ?_
  have hPc : va_P G classes [(hm, .inr (4, [.int th, .long ns.toInt64, .int ck, .long hh, .ref (qa 1), .ref (qa 2), .ref (qa 3), .ref (qa 4), .ref (qa 5), .ref (qa 6), .ref (qa 7), .ref (qa 8), .int (nI n), .ref (qa 9), .ref (qa 10), .ref (qa 11), .ref (qa 12), .ref (qa 13), .ref (qa 14), .ref (qa 15), .ref (qa 16), .ref (qa 17), .ref (qa 18), .ref (qa 19), .ref (qa 20)])), ((qa 12), .inl ((ct 0), 40, .inl b2)), ((qa 13), .inl ((ct 0), 40, .inl b3))] H := hP.sub [0, 12, 13] rfl
  have hDc := hD.sub (ws' := [(hm, .inr (4, [.int th, .long ns.toInt64, .int ck, .long hh, .ref (qa 1), .ref (qa 2), .ref (qa 3), .ref (qa 4), .ref (qa 5), .ref (qa 6), .ref (qa 7), .ref (qa 8), .int (nI n), .ref (qa 9), .ref (qa 10), .ref (qa 11), .ref (qa 12), .ref (qa 13), .ref (qa 14), .ref (qa 15), .ref (qa 16), .ref (qa 17), .ref (qa 18), .ref (qa 19), .ref (qa 20)])), ((qa 12), .inl ((ct 0), 40, .inl b2)), ((qa 13), .inl ((ct 0), 40, .inl b3))]) [0, 12, 13] (by decide) rfl
  refine wk_i (va_runV (As := [.int (nI k), .long (lj (xs (iv + 2)) (xs (iv + 3)))]) (rest := []) ⟨hx, hb, hml, hown, hts⟩ (c_M_receive_R2 l G ct H.size hm th ns.toInt64 ck hh (qa 1) (qa 2) (qa 3) (qa 4) (qa 5) (qa 6) (qa 7) (qa 8) (qa 9) (qa 10) (qa 11) (qa 12) (qa 13) (qa 14) (qa 15) (qa 16) (qa 17) (qa 18) (qa 19) (qa 20) n b2 b3 k (lj (xs (iv + 2)) (xs (iv + 3))) m_hn m_hkn m_hst) (tb_V hw cy_M_receive ww_804 ww_805 ww_806 rfl rfl ⟨Nat.le_of_ble_eq_true rfl, Nat.le_of_ble_eq_true rfl⟩) (wk_preV (ci := 4) (q0 := 0) hPc hK hDc rfl rfl) rfl rfl hl.1 rfl (lv_room (Nat.le_of_ble_eq_true rfl)) d_L_law_657 ⟨by omega, by omega⟩) hP hD hS hA [0, 12, 13] (by decide) rfl (fun _ => by simp only [List.map_cons, List.map_nil]) (fun _ H locs ok1206 hP hD hS => ?_)
  have hP : va_P G classes (lw_W ct hd us op hm qo qa fu au ns n ck n ck 2 hh a1 a2 a3 a4 a5 a6 a7 a8 a9 b0 b1 b2 b3 b4 b5 b6 b7 b8 b9 b10 og fo ad eu es) H := hP
  have hD : va_D A (lw_W ct hd us op hm qo qa fu au ns n ck n ck 2 hh a1 a2 a3 a4 a5 a6 a7 a8 a9 b0 b1 b2 b3 b4 b5 b6 b7 b8 b9 b10 og fo ad eu es) := hD
  refine lv_istore (lv' := [(6, .int 0), (5, .int 2), (4, .int (nI iv)), (3, .ref qo), (2, .ref hm), (1, .ref hd), (0, .ref b)]) hx hb d_L_law_660 hl (Nat.le_of_ble_eq_true rfl) rfl (fun ls hl => ?_)
  refine lv_aload_n hx hb d_L_law_662 rfl (lv_at hl 4 rfl) ?_
  have hPc : va_P G classes [(hm, .inr (4, [.int 2, .long ns.toInt64, .int ck, .long hh, .ref (qa 1), .ref (qa 2), .ref (qa 3), .ref (qa 4), .ref (qa 5), .ref (qa 6), .ref (qa 7), .ref (qa 8), .int (nI n), .ref (qa 9), .ref (qa 10), .ref (qa 11), .ref (qa 12), .ref (qa 13), .ref (qa 14), .ref (qa 15), .ref (qa 16), .ref (qa 17), .ref (qa 18), .ref (qa 19), .ref (qa 20)]))] H := hP.sub [0] rfl
  have hDc := hD.sub (ws' := [(hm, .inr (4, [.int 2, .long ns.toInt64, .int ck, .long hh, .ref (qa 1), .ref (qa 2), .ref (qa 3), .ref (qa 4), .ref (qa 5), .ref (qa 6), .ref (qa 7), .ref (qa 8), .int (nI n), .ref (qa 9), .ref (qa 10), .ref (qa 11), .ref (qa 12), .ref (qa 13), .ref (qa 14), .ref (qa 15), .ref (qa 16), .ref (qa 17), .ref (qa 18), .ref (qa 19), .ref (qa 20)]))]) [0] (by decide) rfl
  refine vp_callSi (W.runV (As := []) (rest := []) ⟨hx, hb, hml, hown, hts⟩ (c_M_thrown l G ct H.size hm 2 ns.toInt64 ck hh (qa 1) (qa 2) (qa 3) (qa 4) (qa 5) (qa 6) (qa 7) (qa 8) (qa 9) (qa 10) (qa 11) (qa 12) (qa 13) (qa 14) (qa 15) (qa 16) (qa 17) (qa 18) (qa 19) (qa 20) n) (tb_V hw cy_M_thrown ww_719 ww_720 ww_721 rfl rfl ⟨Nat.le_of_ble_eq_true rfl, Nat.le_of_ble_eq_true rfl⟩) (wk_preV (ci := 4) (q0 := 0) hPc hK hDc rfl rfl) rfl rfl hl.1 rfl (lv_room (Nat.le_of_ble_eq_true rfl)) d_L_law_663 ⟨by omega, by omega⟩) (fun r1207 er1207 => ?_)
  subst er1207
  refine lv_iload hx hb d_L_law_666 (lv_at hl 1 rfl) ?_
  refine lv_icmp_eq (tgt := 673) hx hb d_L_law_668 (by decide) (fun h1208 => ?_) (fun h1208 => ?_)
  · refine lv_iload hx hb d_L_law_673 (lv_at hl 1 rfl) ?_
    refine lv_if_ne (tgt := 690) hx hb d_L_law_675 (by decide) (fun h1209 => ?_) (fun h1209 => ?_)
    · refine lv_goto (tgt := 1005) hx hb d_L_law_690 (by decide) ?_
      refine W.widen (k := cells + 1) (n := slots + 13) (by omega) (by omega) ?_
      exact kk n ck 2 hh a1 a2 a3 a4 a5 a6 a7 a8 a9 b0 b1 b2 b3 b4 b5 b6 b7 b8 b9 b10 og fo ad eu es H locs _ hnew hP hD hS (lv_sub hl [2, 3, 4, 5, 6] rfl)
    · exact absurd h1209 (by decide)
  · exact absurd h1208 (by decide)
set_option maxHeartbeats 4000000 in
set_option maxRecDepth 100000 in
theorem lq_receive_N_R1  (C0 : lc_C p l s m meth c b L xs G ct A) (hiv : iv + 7 ≤ L) (hcc : cells + 1 ≤ room_1.cells) (hzz : slots + 13 ≤ room_1.slots)
    (hP : va_P G classes (lw_W ct hd us op hm qo qa fu au ns n ck n ck th hh a1 a2 a3 a4 a5 a6 a7 a8 a9 b0 b1 b2 b3 b4 b5 b6 b7 b8 b9 b10 og fo ad eu es) H) (hD : va_D A (lw_W ct hd us op hm qo qa fu au ns n ck n ck th hh a1 a2 a3 a4 a5 a6 a7 a8 a9 b0 b1 b2 b3 b4 b5 b6 b7 b8 b9 b10 og fo ad eu es)) (hS : va_S A s.heap H locs) (hl : lv_has ls 8 [(4, .int (nI iv)), (3, .ref qo), (2, .ref hm), (1, .ref hd), (0, .ref b)])
    (kk : lc_K p l e s m below meth c b L xs G ct A hd us op hm qo qa fu au ns iv (cells + 1) (slots + 13) Q)
     (d_hno : ¬ th_in (xs (iv + 1)) n) (m_hno : ¬ th_in (xs (iv + 1)) n)  (hnew : li_R fu au ns n a1 a2 a3 a4 a5 a6 a7 a8 a9 b0 b1 b2 b3 b4 b5 b6 b7 b8 b9 b10 fo ad eu es)  : W p l e room_1 s m #[Value.ref b] below meth c H locs cells slots Q (F0 m 593 ls []) := by
  obtain ⟨hx, hb, hr, hml, hown, hw, hK, hZ, hR, hN, hfl, hA, hbA, hX, hbl, hL, hlocks⟩ := C0
  have hts := hw
  have hP : va_P G classes (lw_W ct hd us op hm qo qa fu au ns n ck n ck th hh a1 a2 a3 a4 a5 a6 a7 a8 a9 b0 b1 b2 b3 b4 b5 b6 b7 b8 b9 b10 og fo ad eu es) H := hP
  have hD : va_D A (lw_W ct hd us op hm qo qa fu au ns n ck n ck th hh a1 a2 a3 a4 a5 a6 a7 a8 a9 b0 b1 b2 b3 b4 b5 b6 b7 b8 b9 b10 og fo ad eu es) := hD
  refine lv_aload_n hx hb d_L_law_593 rfl (lv_at hl 3 rfl) ?_
  refine lv_aload_n hx hb d_L_law_594 rfl (lv_at hl 4 rfl) ?_
  refine lv_iload hx hb d_L_law_595 (lv_at hl 0 rfl) ?_
  refine lv_iconst (v := 1) hx hb d_L_law_597 (by decide) ?_
  refine lv_iadd hx hb d_L_law_598 ?_
  refine sl_ld (j := iv) (d := 1) hx hb hX hbl hbA hS hL (by omega) d_L_law_599 ?_
  refine lv_aload_n hx hb d_L_law_600 rfl (lv_at hl 4 rfl) ?_
  refine lv_iload hx hb d_L_law_601 (lv_at hl 0 rfl) ?_
  refine lv_iconst (v := 2) hx hb d_L_law_603 (by decide) ?_
  refine lv_iadd hx hb d_L_law_604 ?_
  refine sl_ld (j := iv) (d := 2) hx hb hX hbl hbA hS hL (by omega) d_L_law_605 ?_
  refine lv_i2l (v := (xs (iv + 2)).toInt64) hx hb d_L_law_606 rfl ?_
  refine lv_bipush (v := 32) hx hb d_L_law_607 (by decide) ?_
  refine lv_lshl (v := ((xs (iv + 2)).toInt64) <<< ((32 : Int32).toInt64 &&& 63)) hx hb d_L_law_609 rfl ?_
  refine lv_aload_n hx hb d_L_law_610 rfl (lv_at hl 4 rfl) ?_
  refine lv_iload hx hb d_L_law_611 (lv_at hl 0 rfl) ?_
  refine lv_iconst (v := 3) hx hb d_L_law_613 (by decide) ?_
  refine lv_iadd hx hb d_L_law_614 ?_
  refine sl_ld (j := iv) (d := 3) hx hb hX hbl hbA hS hL (by omega) d_L_law_615 ?_
  refine lv_i2l (v := (xs (iv + 3)).toInt64) hx hb d_L_law_616 rfl ?_
  refine lv_ldc2 (v := 4294967295) hx hb hown (hw _ ww_884) d_L_law_617 ?_
  refine lv_land hx hb d_L_law_620 ?_
  refine lv_lor hx hb d_L_law_621 ?_
  refine tp_l (rfl) ?_
  refine lv_aload_n hx hb d_L_law_622 rfl (lv_at hl 1 rfl) ?_
  have hC9 : List.map (fun i => ((lw_W ct hd us op hm qo qa fu au ns n ck n ck th hh a1 a2 a3 a4 a5 a6 a7 a8 a9 b0 b1 b2 b3 b4 b5 b6 b7 b8 b9 b10 og fo ad eu es) : va_W)[i]?) [22, 21] = List.map some ([(hd, .inr (0, [.ref us, .ref op, .int (nI n), .int ck])), (qo, .inl ((ct 1), 1, .inr (.inl og)))] : va_W) := (wc_c rfl (wc_c rfl rfl))
  have hn9 : va_nd [22, 21] = true := by decide
  have hPc : va_P G classes [(hd, .inr (0, [.ref us, .ref op, .int (nI n), .int ck])), (qo, .inl ((ct 1), 1, .inr (.inl og)))] H := lp_sub hP [22, 21] hC9
  have hDc := hD.sub (ws' := [(hd, .inr (0, [.ref us, .ref op, .int (nI n), .int ck])), (qo, .inl ((ct 1), 1, .inr (.inl og)))]) [22, 21] hn9 hC9
  have hW9 : wk_sets ((lw_W ct hd us op hm qo qa fu au ns n ck n ck th hh a1 a2 a3 a4 a5 a6 a7 a8 a9 b0 b1 b2 b3 b4 b5 b6 b7 b8 b9 b10 og fo ad eu es) : va_W) [22, 21] ([(hd, .inr (0, [.ref us, .ref op, .int (nI n), .int ck])), (qo, .inl ((ct 1), 1, .inr (.inl og)))] : va_W) = ((lw_W ct hd us op hm qo qa fu au ns n ck n ck th hh a1 a2 a3 a4 a5 a6 a7 a8 a9 b0 b1 b2 b3 b4 b5 b6 b7 b8 b9 b10 og fo ad eu es) : va_W) := (ws_k rfl (ws_k rfl rfl))
  refine wk_i (sh_run (As := [.ref hd, .int (xs (iv + 1)), .long (lj (xs (iv + 2)) (xs (iv + 3))), .ref qo]) (rest := []) (hs := [(0, 11, 14, 25), (0, 11, 18, 15), (0, 11, 22, 13), (0, 11, 26, 27)]) ⟨hx, hb, hml, hown, hts⟩ (c_L_receive_N l hfl G ct H.size hd us op n ck (xs (iv + 1)) (lj (xs (iv + 2)) (xs (iv + 3))) qo og d_hno) wk_ret ⟨hw, ww_417, ww_0, ⟨by decide, by decide⟩, np_L_receive, ww_415, ww_416, rfl, rfl, Nat.le_of_ble_eq_true rfl, Nat.le_of_ble_eq_true rfl⟩ (wk_pre5 hPc hK hDc hD hS hA [22, 21] hC9 hZ hR hN) rfl hl.1 rfl (lv_room (Nat.le_of_ble_eq_true rfl)) d_L_law_623 ⟨by omega, by omega⟩) hP hD hS hA [22, 21] hn9 hC9 (fun _ => by simp only [List.map_cons, List.map_nil]) (fun _ H locs _ hP hD hS => ?_)
  have hP : va_P G classes (lw_W ct hd us op hm qo qa fu au ns n ck n ck th hh a1 a2 a3 a4 a5 a6 a7 a8 a9 b0 b1 b2 b3 b4 b5 b6 b7 b8 b9 b10 og fo ad eu es) H := lp_P hW9 hP
  have hD : va_D A (lw_W ct hd us op hm qo qa fu au ns n ck n ck th hh a1 a2 a3 a4 a5 a6 a7 a8 a9 b0 b1 b2 b3 b4 b5 b6 b7 b8 b9 b10 og fo ad eu es) := lp_D hW9 hD
  refine lv_istore (lv' := [(5, .int 1), (4, .int (nI iv)), (3, .ref qo), (2, .ref hm), (1, .ref hd), (0, .ref b)]) hx hb d_L_law_626 hl (Nat.le_of_ble_eq_true rfl) rfl (fun ls hl => ?_)
  refine lv_aload_n hx hb d_L_law_628 rfl (lv_at hl 3 rfl) ?_
  refine lv_aload_n hx hb d_L_law_629 rfl (lv_at hl 5 rfl) ?_
  refine lv_iload hx hb d_L_law_630 (lv_at hl 1 rfl) ?_
  refine lv_iconst (v := 1) hx hb d_L_law_632 (by decide) ?_
  refine lv_iadd hx hb d_L_law_633 ?_
  refine sl_ld (j := iv) (d := 1) hx hb hX hbl hbA hS hL (by omega) d_L_law_634 ?_
  refine lv_aload_n hx hb d_L_law_635 rfl (lv_at hl 5 rfl) ?_
  refine lv_iload hx hb d_L_law_636 (lv_at hl 1 rfl) ?_
  refine lv_iconst (v := 2) hx hb d_L_law_638 (by decide) ?_
  refine lv_iadd hx hb d_L_law_639 ?_
  refine sl_ld (j := iv) (d := 2) hx hb hX hbl hbA hS hL (by omega) d_L_law_640 ?_
  refine lv_i2l (v := (xs (iv + 2)).toInt64) hx hb d_L_law_641 rfl ?_
  refine lv_bipush (v := 32) hx hb d_L_law_642 (by decide) ?_
  refine lv_lshl (v := ((xs (iv + 2)).toInt64) <<< ((32 : Int32).toInt64 &&& 63)) hx hb d_L_law_644 rfl ?_
  refine lv_aload_n hx hb d_L_law_645 rfl (lv_at hl 5 rfl) ?_
  refine lv_iload hx hb d_L_law_646 (lv_at hl 1 rfl) ?_
  refine lv_iconst (v := 3) hx hb d_L_law_648 (by decide) ?_
  refine lv_iadd hx hb d_L_law_649 ?_
  refine sl_ld (j := iv) (d := 3) hx hb hX hbl hbA hS hL (by omega) d_L_law_650 ?_
  refine lv_i2l (v := (xs (iv + 3)).toInt64) hx hb d_L_law_651 rfl ?_
  refine lv_ldc2 (v := 4294967295) hx hb hown (hw _ ww_884) d_L_law_652 ?_
  refine lv_land hx hb d_L_law_655 ?_
  refine lv_lor hx hb d_L_law_656 ?_
  refine tp_l (rfl) ?_
  have hPc : va_P G classes [(hm, .inr (4, [.int th, .long ns.toInt64, .int ck, .long hh, .ref (qa 1), .ref (qa 2), .ref (qa 3), .ref (qa 4), .ref (qa 5), .ref (qa 6), .ref (qa 7), .ref (qa 8), .int (nI n), .ref (qa 9), .ref (qa 10), .ref (qa 11), .ref (qa 12), .ref (qa 13), .ref (qa 14), .ref (qa 15), .ref (qa 16), .ref (qa 17), .ref (qa 18), .ref (qa 19), .ref (qa 20)]))] H := hP.sub [0] rfl
  have hDc := hD.sub (ws' := [(hm, .inr (4, [.int th, .long ns.toInt64, .int ck, .long hh, .ref (qa 1), .ref (qa 2), .ref (qa 3), .ref (qa 4), .ref (qa 5), .ref (qa 6), .ref (qa 7), .ref (qa 8), .int (nI n), .ref (qa 9), .ref (qa 10), .ref (qa 11), .ref (qa 12), .ref (qa 13), .ref (qa 14), .ref (qa 15), .ref (qa 16), .ref (qa 17), .ref (qa 18), .ref (qa 19), .ref (qa 20)]))]) [0] (by decide) rfl
  refine wk_i (va_runV (As := [.int (xs (iv + 1)), .long (lj (xs (iv + 2)) (xs (iv + 3)))]) (rest := []) ⟨hx, hb, hml, hown, hts⟩ (c_M_receive_R1 l G ct H.size hm th ns.toInt64 ck hh (qa 1) (qa 2) (qa 3) (qa 4) (qa 5) (qa 6) (qa 7) (qa 8) (qa 9) (qa 10) (qa 11) (qa 12) (qa 13) (qa 14) (qa 15) (qa 16) (qa 17) (qa 18) (qa 19) (qa 20) n (xs (iv + 1)) (lj (xs (iv + 2)) (xs (iv + 3))) m_hno) (tb_V hw cy_M_receive ww_804 ww_805 ww_806 rfl rfl ⟨Nat.le_of_ble_eq_true rfl, Nat.le_of_ble_eq_true rfl⟩) (wk_preV (ci := 4) (q0 := 0) hPc hK hDc rfl rfl) rfl rfl hl.1 rfl (lv_room (Nat.le_of_ble_eq_true rfl)) d_L_law_657 ⟨by omega, by omega⟩) hP hD hS hA [0] (by decide) rfl (fun _ => by simp only [List.map_cons, List.map_nil]) (fun _ H locs ok1210 hP hD hS => ?_)
  have hP : va_P G classes (lw_W ct hd us op hm qo qa fu au ns n ck n ck 1 hh a1 a2 a3 a4 a5 a6 a7 a8 a9 b0 b1 b2 b3 b4 b5 b6 b7 b8 b9 b10 og fo ad eu es) H := hP
  have hD : va_D A (lw_W ct hd us op hm qo qa fu au ns n ck n ck 1 hh a1 a2 a3 a4 a5 a6 a7 a8 a9 b0 b1 b2 b3 b4 b5 b6 b7 b8 b9 b10 og fo ad eu es) := hD
  refine lv_istore (lv' := [(6, .int 0), (5, .int 1), (4, .int (nI iv)), (3, .ref qo), (2, .ref hm), (1, .ref hd), (0, .ref b)]) hx hb d_L_law_660 hl (Nat.le_of_ble_eq_true rfl) rfl (fun ls hl => ?_)
  refine lv_aload_n hx hb d_L_law_662 rfl (lv_at hl 4 rfl) ?_
  have hPc : va_P G classes [(hm, .inr (4, [.int 1, .long ns.toInt64, .int ck, .long hh, .ref (qa 1), .ref (qa 2), .ref (qa 3), .ref (qa 4), .ref (qa 5), .ref (qa 6), .ref (qa 7), .ref (qa 8), .int (nI n), .ref (qa 9), .ref (qa 10), .ref (qa 11), .ref (qa 12), .ref (qa 13), .ref (qa 14), .ref (qa 15), .ref (qa 16), .ref (qa 17), .ref (qa 18), .ref (qa 19), .ref (qa 20)]))] H := hP.sub [0] rfl
  have hDc := hD.sub (ws' := [(hm, .inr (4, [.int 1, .long ns.toInt64, .int ck, .long hh, .ref (qa 1), .ref (qa 2), .ref (qa 3), .ref (qa 4), .ref (qa 5), .ref (qa 6), .ref (qa 7), .ref (qa 8), .int (nI n), .ref (qa 9), .ref (qa 10), .ref (qa 11), .ref (qa 12), .ref (qa 13), .ref (qa 14), .ref (qa 15), .ref (qa 16), .ref (qa 17), .ref (qa 18), .ref (qa 19), .ref (qa 20)]))]) [0] (by decide) rfl
  refine vp_callSi (W.runV (As := []) (rest := []) ⟨hx, hb, hml, hown, hts⟩ (c_M_thrown l G ct H.size hm 1 ns.toInt64 ck hh (qa 1) (qa 2) (qa 3) (qa 4) (qa 5) (qa 6) (qa 7) (qa 8) (qa 9) (qa 10) (qa 11) (qa 12) (qa 13) (qa 14) (qa 15) (qa 16) (qa 17) (qa 18) (qa 19) (qa 20) n) (tb_V hw cy_M_thrown ww_719 ww_720 ww_721 rfl rfl ⟨Nat.le_of_ble_eq_true rfl, Nat.le_of_ble_eq_true rfl⟩) (wk_preV (ci := 4) (q0 := 0) hPc hK hDc rfl rfl) rfl rfl hl.1 rfl (lv_room (Nat.le_of_ble_eq_true rfl)) d_L_law_663 ⟨by omega, by omega⟩) (fun r1211 er1211 => ?_)
  subst er1211
  refine lv_iload hx hb d_L_law_666 (lv_at hl 1 rfl) ?_
  refine lv_icmp_eq (tgt := 673) hx hb d_L_law_668 (by decide) (fun h1212 => ?_) (fun h1212 => ?_)
  · refine lv_iload hx hb d_L_law_673 (lv_at hl 1 rfl) ?_
    refine lv_if_ne (tgt := 690) hx hb d_L_law_675 (by decide) (fun h1213 => ?_) (fun h1213 => ?_)
    · refine lv_goto (tgt := 1005) hx hb d_L_law_690 (by decide) ?_
      refine W.widen (k := cells + 1) (n := slots + 13) (by omega) (by omega) ?_
      exact kk n ck 1 hh a1 a2 a3 a4 a5 a6 a7 a8 a9 b0 b1 b2 b3 b4 b5 b6 b7 b8 b9 b10 og fo ad eu es H locs _ hnew hP hD hS (lv_sub hl [2, 3, 4, 5, 6] rfl)
    · exact absurd h1213 (by decide)
  · exact absurd h1212 (by decide)
end LQ
