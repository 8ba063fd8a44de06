section LQ
variable {p : Program} {l : Launch} {e : Env} {s : State} {m : MethodId} {below : List Frame} {meth : Method} {c : Code} {b : Nat} {L : Nat} {xs : Nat → Int32} {G : va_G} {ct : Nat → ClassId} {A : Nat → Prop} {hd : Nat} {us : Nat} {op : Nat} {hm : Nat} {qo : Nat} {qa : Nat → Nat} {fu : Nat → Option Nat} {au : Nat → Nat} {ns : Int32} {iv cells slots : Nat} {Q : State → Prop} {H : Heap} {locs : List Loc} {ls : Array Slot} {n : Nat} {ck : Int32} {th : Int32} {hh : Int64} {a1 : Nat → Int32} {a2 : Nat → Int64} {a3 : Nat → Int64} {a4 : Nat → Int64} {a5 : Nat → Int32} {a6 : Nat → Int32} {a7 : Nat → Int32} {a8 : Nat → Int32} {a9 : Nat → Int32} {b0 : Nat → Int32} {b1 : Nat → Int32} {b2 : Nat → Int32} {b3 : Nat → Int32} {b4 : Nat → Int64} {b5 : Nat → Int64} {b6 : Nat → Int64} {b7 : Nat → Int64} {b8 : Nat → Int64} {b9 : Nat → Int64} {b10 : Nat → Int64} {og : Nat → Int64} {fo : Nat → Option Nat} {ad : Nat → Nat} {eu : Nat → va_E} {es : Nat → va_E}
set_option maxHeartbeats 4000000 in
set_option maxRecDepth 100000 in
theorem lq_passV_YV_FV0 {k : Nat} {u : Nat} {sec : Nat} {x : Nat} {y : Nat} {rc : Nat} {c1 : Int64} {c2 : Int64} {uo : Nat} {ul : Int64} {uv : Nat} {zj : Nat} {uz : Nat} {zs : Nat} {zx : Nat} {zy : Nat} {zr : Nat} {zc : Int64} {zd : Int64} {a : Int64} (C0 : lc_C p l s m meth c b L xs G ct A) (hiv : iv + 7 ≤ L) (hcc : cells + 1 ≤ room_1.cells) (hzz : slots + 13 ≤ room_1.slots)
    (hP : va_P G classes (lw_W ct hd us op hm qo qa fu au ns n ck n ck th hh a1 a2 a3 a4 a5 a6 a7 a8 a9 b0 b1 b2 b3 b4 b5 b6 b7 b8 b9 b10 og fo ad eu es) H) (hD : va_D A (lw_W ct hd us op hm qo qa fu au ns n ck n ck th hh a1 a2 a3 a4 a5 a6 a7 a8 a9 b0 b1 b2 b3 b4 b5 b6 b7 b8 b9 b10 og fo ad eu es)) (hS : va_S A s.heap H locs) (hl : lv_has ls 8 [(4, .int (nI iv)), (3, .ref qo), (2, .ref hm), (1, .ref hd), (0, .ref b)])
    (kk : lc_K p l e s m below meth c b L xs G ct A hd us op hm qo qa fu au ns iv (cells + 1) (slots + 13) Q)
    (hv1 : xs (iv + 1) = nI zj) (hv2 : xs (iv + 2) = nI k) (hkn : k < n) (hes : es k = .inr (3, [.ref (au u), .int (b0 k), .long (lN sec), .int (b3 k), .int (b2 k), .long (lN x), .long (lN y), .long (b9 k), .long c1, .long c2, .long (b10 k), .long (lN rc)])) (hu8 : u < 8) (heu : eu u = .inr (1, [.int (nI u), .int ns, .int (a1 u), .long (lN uo), .long ul, .long (lN uv), .int (a5 u), .int (a6 u), .int (a7 u), .int (a8 u)])) (hzn : zj < n) (hez : es zj = .inr (3, [.ref (au uz), .int (b0 zj), .long (lN zs), .int (b3 zj), .int (b2 zj), .long (lN zx), .long (lN zy), .long (b9 zj), .long zc, .long zd, .long (b10 zj), .long (lN zr)])) (hjk : ¬ zj = k) (d_hn : n ≤ 40) (d_hkn : k < n) (d_hfo : fo k = some (ad k)) (d_hst : se_at (b2 k) (b3 k) ck = 1) (d_haw : ¬ a = c1) (d_hzn : zj < n) (d_hzf : fo zj = some (ad zj)) (d_hxr : (b10 zj) ^^^ (lj (xs (iv + 3)) (xs (iv + 4))) = a) (m_hn : n ≤ 40) (m_hkn : k < n) (m_hst : sm_at (b2 k) (b3 k) ck = 1) (m_hsv : a9 k = 1) (m_hu : b1 k = nI u) (m_hu8 : u < 8) (m_haw : ¬ a = dg_4 9 (b9 k) (b7 k) (b8 k)) (m_hpm : ∀ j, j < n → (nI zj) = nI j → b10 j ^^^ (lj (xs (iv + 3)) (xs (iv + 4))) = a) (m_hpn : ¬ th_in (nI zj) n → (lj (xs (iv + 3)) (xs (iv + 4))) = a)  (hnew : li_R fu au ns n a1 a2 a3 a4 (upd a5 u (a5 u + 1)) (upd a6 u ck) (upd a7 u (a6 u)) (upd a8 u (a7 u)) a9 b0 b1 (upd b2 k 3) b3 b4 b5 b6 b7 b8 b9 b10 fo ad (va_up eu u (.inr (1, [.int (nI u), .int ns, .int (a1 u), .long (lN uo), .long ul, .long (lN uv), .int ((a5 u) + 1), .int ck, .int (a6 u), .int (a7 u)]))) (va_up es k (.inr (3, [.ref (au u), .int (b0 k), .long (lN sec), .int (b3 k), .int 3, .long (lN x), .long (lN y), .long (b9 k), .long c1, .long c2, .long (b10 k), .long (lN rc)]))))  : W p l e room_1 s m #[Value.ref b] below meth c H locs cells slots Q (F0 m 693 ls []) := by
  obtain ⟨hx, hb, hr, hml, hown, hw, hK, hZ, hR, hN, hfl, hA, hbA, hX, hbl, hL, hlocks⟩ := C0
  have hts := hw
  have hP : va_P G classes (lw_W ct hd us op hm qo qa fu au ns n ck n ck th hh a1 a2 a3 a4 a5 a6 a7 a8 a9 b0 b1 b2 b3 b4 b5 b6 b7 b8 b9 b10 og fo ad eu es) H := hP
  have hD : va_D A (lw_W ct hd us op hm qo qa fu au ns n ck n ck th hh a1 a2 a3 a4 a5 a6 a7 a8 a9 b0 b1 b2 b3 b4 b5 b6 b7 b8 b9 b10 og fo ad eu es) := hD
  refine lv_aload_n hx hb d_L_law_693 rfl (lv_at hl 3 rfl) ?_
  refine lv_aload_n hx hb d_L_law_694 rfl (lv_at hl 4 rfl) ?_
  refine lv_iload hx hb d_L_law_695 (lv_at hl 0 rfl) ?_
  refine lv_iconst (v := 1) hx hb d_L_law_697 (by decide) ?_
  refine lv_iadd hx hb d_L_law_698 ?_
  refine sl_ld (j := iv) (d := 1) hx hb hX hbl hbA hS hL (by omega) d_L_law_699 ?_
  refine tp_i (hv1) ?_
  refine lv_aload_n hx hb d_L_law_700 rfl (lv_at hl 4 rfl) ?_
  refine lv_iload hx hb d_L_law_701 (lv_at hl 0 rfl) ?_
  refine lv_iconst (v := 2) hx hb d_L_law_703 (by decide) ?_
  refine lv_iadd hx hb d_L_law_704 ?_
  refine sl_ld (j := iv) (d := 2) hx hb hX hbl hbA hS hL (by omega) d_L_law_705 ?_
  refine tp_i (hv2) ?_
  refine lv_aload_n hx hb d_L_law_706 rfl (lv_at hl 4 rfl) ?_
  refine lv_iload hx hb d_L_law_707 (lv_at hl 0 rfl) ?_
  refine lv_iconst (v := 3) hx hb d_L_law_709 (by decide) ?_
  refine lv_iadd hx hb d_L_law_710 ?_
  refine sl_ld (j := iv) (d := 3) hx hb hX hbl hbA hS hL (by omega) d_L_law_711 ?_
  refine lv_i2l (v := (xs (iv + 3)).toInt64) hx hb d_L_law_712 rfl ?_
  refine lv_bipush (v := 32) hx hb d_L_law_713 (by decide) ?_
  refine lv_lshl (v := ((xs (iv + 3)).toInt64) <<< ((32 : Int32).toInt64 &&& 63)) hx hb d_L_law_715 rfl ?_
  refine lv_aload_n hx hb d_L_law_716 rfl (lv_at hl 4 rfl) ?_
  refine lv_iload hx hb d_L_law_717 (lv_at hl 0 rfl) ?_
  refine lv_iconst (v := 4) hx hb d_L_law_719 (by decide) ?_
  refine lv_iadd hx hb d_L_law_720 ?_
  refine sl_ld (j := iv) (d := 4) hx hb hX hbl hbA hS hL (by omega) d_L_law_721 ?_
  refine lv_i2l (v := (xs (iv + 4)).toInt64) hx hb d_L_law_722 rfl ?_
  refine lv_ldc2 (v := 4294967295) hx hb hown (hw _ ww_884) d_L_law_723 ?_
  refine lv_land hx hb d_L_law_726 ?_
  refine lv_lor hx hb d_L_law_727 ?_
  refine tp_l (rfl) ?_
  refine lv_aload_n hx hb d_L_law_728 rfl (lv_at hl 1 rfl) ?_
  have hC9 : List.map (fun i => ((lw_W ct hd us op hm qo qa fu au ns n ck n ck th hh a1 a2 a3 a4 a5 a6 a7 a8 a9 b0 b1 b2 b3 b4 b5 b6 b7 b8 b9 b10 og fo ad eu es) : va_W)[i]?) [22, 24, 25 + (8 + k), 25 + u, 25 + (8 + zj), 21] = List.map some ([(hd, .inr (0, [.ref us, .ref op, .int (nI n), .int ck])), (op, .inl ((ct 4), 40, .inr (.inr (.inr (.inr fo))))), ((ad k), .inr (3, [.ref (au u), .int (b0 k), .long (lN sec), .int (b3 k), .int (b2 k), .long (lN x), .long (lN y), .long (b9 k), .long c1, .long c2, .long (b10 k), .long (lN rc)])), ((au u), .inr (1, [.int (nI u), .int ns, .int (a1 u), .long (lN uo), .long ul, .long (lN uv), .int (a5 u), .int (a6 u), .int (a7 u), .int (a8 u)])), ((ad zj), .inr (3, [.ref (au uz), .int (b0 zj), .long (lN zs), .int (b3 zj), .int (b2 zj), .long (lN zx), .long (lN zy), .long (b9 zj), .long zc, .long zd, .long (b10 zj), .long (lN zr)])), (qo, .inl ((ct 1), 1, .inr (.inl og)))] : va_W) := (wc_c rfl (wc_c rfl (wc_c (lw_s rfl hkn hes) (wc_c (lw_u rfl hu8 heu) (wc_c (lw_s rfl hzn hez) (wc_c rfl rfl))))))
  have hn9 : va_nd [22, 24, 25 + (8 + k), 25 + u, 25 + (8 + zj), 21] = true := (nd_c (by simp only [List.mem_cons, List.not_mem_nil, or_false]; omega) (nd_c (by simp only [List.mem_cons, List.not_mem_nil, or_false]; omega) (nd_c (by simp only [List.mem_cons, List.not_mem_nil, or_false]; omega) (nd_c (by simp only [List.mem_cons, List.not_mem_nil, or_false]; omega) (nd_c (by simp only [List.mem_cons, List.not_mem_nil, or_false]; omega) (nd_c List.not_mem_nil rfl))))))
  have hPc : va_P G classes [(hd, .inr (0, [.ref us, .ref op, .int (nI n), .int ck])), (op, .inl ((ct 4), 40, .inr (.inr (.inr (.inr fo))))), ((ad k), .inr (3, [.ref (au u), .int (b0 k), .long (lN sec), .int (b3 k), .int (b2 k), .long (lN x), .long (lN y), .long (b9 k), .long c1, .long c2, .long (b10 k), .long (lN rc)])), ((au u), .inr (1, [.int (nI u), .int ns, .int (a1 u), .long (lN uo), .long ul, .long (lN uv), .int (a5 u), .int (a6 u), .int (a7 u), .int (a8 u)])), ((ad zj), .inr (3, [.ref (au uz), .int (b0 zj), .long (lN zs), .int (b3 zj), .int (b2 zj), .long (lN zx), .long (lN zy), .long (b9 zj), .long zc, .long zd, .long (b10 zj), .long (lN zr)])), (qo, .inl ((ct 1), 1, .inr (.inl og)))] H := lp_sub hP [22, 24, 25 + (8 + k), 25 + u, 25 + (8 + zj), 21] hC9
  have hDc := hD.sub (ws' := [(hd, .inr (0, [.ref us, .ref op, .int (nI n), .int ck])), (op, .inl ((ct 4), 40, .inr (.inr (.inr (.inr fo))))), ((ad k), .inr (3, [.ref (au u), .int (b0 k), .long (lN sec), .int (b3 k), .int (b2 k), .long (lN x), .long (lN y), .long (b9 k), .long c1, .long c2, .long (b10 k), .long (lN rc)])), ((au u), .inr (1, [.int (nI u), .int ns, .int (a1 u), .long (lN uo), .long ul, .long (lN uv), .int (a5 u), .int (a6 u), .int (a7 u), .int (a8 u)])), ((ad zj), .inr (3, [.ref (au uz), .int (b0 zj), .long (lN zs), .int (b3 zj), .int (b2 zj), .long (lN zx), .long (lN zy), .long (b9 zj), .long zc, .long zd, .long (b10 zj), .long (lN zr)])), (qo, .inl ((ct 1), 1, .inr (.inl og)))]) [22, 24, 25 + (8 + k), 25 + u, 25 + (8 + zj), 21] hn9 hC9
  have hW9 : wk_sets ((lw_W ct hd us op hm qo qa fu au ns n ck n ck th hh a1 a2 a3 a4 a5 a6 a7 a8 a9 b0 b1 b2 b3 b4 b5 b6 b7 b8 b9 b10 og fo ad eu es) : va_W) [22, 24, 25 + (8 + k), 25 + u, 25 + (8 + zj), 21] ([(hd, .inr (0, [.ref us, .ref op, .int (nI n), .int ck])), (op, .inl ((ct 4), 40, .inr (.inr (.inr (.inr fo))))), ((ad k), .inr (3, [.ref (au u), .int (b0 k), .long (lN sec), .int (b3 k), .int 3, .long (lN x), .long (lN y), .long (b9 k), .long c1, .long c2, .long (b10 k), .long (lN rc)])), ((au u), .inr (1, [.int (nI u), .int ns, .int (a1 u), .long (lN uo), .long ul, .long (lN uv), .int ((a5 u) + 1), .int ck, .int (a6 u), .int (a7 u)])), ((ad zj), .inr (3, [.ref (au uz), .int (b0 zj), .long (lN zs), .int (b3 zj), .int (b2 zj), .long (lN zx), .long (lN zy), .long (b9 zj), .long zc, .long zd, .long (b10 zj), .long (lN zr)])), (qo, .inl ((ct 1), 1, .inr (.inl og)))] : va_W) = ((lw_W ct hd us op hm qo qa fu au ns n ck n ck th hh a1 a2 a3 a4 a5 a6 a7 a8 a9 b0 b1 b2 b3 b4 b5 b6 b7 b8 b9 b10 og fo ad (va_up eu u (.inr (1, [.int (nI u), .int ns, .int (a1 u), .long (lN uo), .long ul, .long (lN uv), .int ((a5 u) + 1), .int ck, .int (a6 u), .int (a7 u)]))) (va_up es k (.inr (3, [.ref (au u), .int (b0 k), .long (lN sec), .int (b3 k), .int 3, .long (lN x), .long (lN y), .long (b9 k), .long c1, .long c2, .long (b10 k), .long (lN rc)])))) : va_W) := (ws_k rfl (ws_k rfl (ws_c (lw_ss rfl) (ws_c (lw_su rfl hu8) (ws_k (lw_s rfl hzn ((va_up_ne _ _ hjk).trans hez)) (ws_k rfl rfl))))))
  refine wk_i (sh_run (As := [.ref hd, .int (nI zj), .int (nI k), .long (lj (xs (iv + 3)) (xs (iv + 4))), .ref qo]) (rest := []) (hs := [(0, 12, 15, 25), (0, 12, 19, 15), (0, 12, 23, 13), (0, 12, 27, 27)]) ⟨hx, hb, hml, hown, hts⟩ (c_L_passV_YV l hfl G ct H.size hd us op n ck fo k (ad k) (au u) (b0 k) sec (b3 k) (b2 k) x y (b9 k) c1 c2 (b10 k) rc (nI u) ns (a1 u) uo ul uv (a5 u) (a6 u) (a7 u) (a8 u) a zj (ad zj) (au uz) (b0 zj) zs (b3 zj) (b2 zj) zx zy (b9 zj) zc zd (b10 zj) zr (lj (xs (iv + 3)) (xs (iv + 4))) qo og d_hn d_hkn d_hfo d_hst d_haw d_hzn d_hzf d_hxr) ⟨hw, ww_613, ww_0, ⟨by decide, by decide⟩, np_L_pass, ww_611, ww_612, rfl, rfl, Nat.le_of_ble_eq_true rfl, Nat.le_of_ble_eq_true rfl⟩ (wk_pre5 hPc hK hDc hD hS hA [22, 24, 25 + (8 + k), 25 + u, 25 + (8 + zj), 21] hC9 hZ hR hN) rfl hl.1 rfl (lv_room (Nat.le_of_ble_eq_true rfl)) d_L_law_729 ⟨by omega, by omega⟩) hP hD hS hA [22, 24, 25 + (8 + k), 25 + u, 25 + (8 + zj), 21] hn9 hC9 (fun _ => by simp only [List.map_cons, List.map_nil]) (fun _ H locs _ hP hD hS => ?_)
  have hP : va_P G classes (lw_W ct hd us op hm qo qa fu au ns n ck n ck th hh a1 a2 a3 a4 a5 a6 a7 a8 a9 b0 b1 b2 b3 b4 b5 b6 b7 b8 b9 b10 og fo ad (va_up eu u (.inr (1, [.int (nI u), .int ns, .int (a1 u), .long (lN uo), .long ul, .long (lN uv), .int ((a5 u) + 1), .int ck, .int (a6 u), .int (a7 u)]))) (va_up es k (.inr (3, [.ref (au u), .int (b0 k), .long (lN sec), .int (b3 k), .int 3, .long (lN x), .long (lN y), .long (b9 k), .long c1, .long c2, .long (b10 k), .long (lN rc)])))) H := lp_P hW9 hP
  have hD : va_D A (lw_W ct hd us op hm qo qa fu au ns n ck n ck th hh a1 a2 a3 a4 a5 a6 a7 a8 a9 b0 b1 b2 b3 b4 b5 b6 b7 b8 b9 b10 og fo ad (va_up eu u (.inr (1, [.int (nI u), .int ns, .int (a1 u), .long (lN uo), .long ul, .long (lN uv), .int ((a5 u) + 1), .int ck, .int (a6 u), .int (a7 u)]))) (va_up es k (.inr (3, [.ref (au u), .int (b0 k), .long (lN sec), .int (b3 k), .int 3, .long (lN x), .long (lN y), .long (b9 k), .long c1, .long c2, .long (b10 k), .long (lN rc)])))) := lp_D hW9 hD
  refine lv_istore (lv' := [(5, .int 4), (4, .int (nI iv)), (3, .ref qo), (2, .ref hm), (1, .ref hd), (0, .ref b)]) hx hb d_L_law_732 hl (Nat.le_of_ble_eq_true rfl) rfl (fun ls hl => ?_)
  refine lv_aload_n hx hb d_L_law_734 rfl (lv_at hl 3 rfl) ?_
  refine lv_aload_n hx hb d_L_law_735 rfl (lv_at hl 5 rfl) ?_
  refine lv_iload hx hb d_L_law_736 (lv_at hl 1 rfl) ?_
  refine lv_iconst (v := 1) hx hb d_L_law_738 (by decide) ?_
  refine lv_iadd hx hb d_L_law_739 ?_
  refine sl_ld (j := iv) (d := 1) hx hb hX hbl hbA hS hL (by omega) d_L_law_740 ?_
  refine tp_i (hv1) ?_
  refine lv_aload_n hx hb d_L_law_741 rfl (lv_at hl 5 rfl) ?_
  refine lv_iload hx hb d_L_law_742 (lv_at hl 1 rfl) ?_
  refine lv_iconst (v := 2) hx hb d_L_law_744 (by decide) ?_
  refine lv_iadd hx hb d_L_law_745 ?_
  refine sl_ld (j := iv) (d := 2) hx hb hX hbl hbA hS hL (by omega) d_L_law_746 ?_
  refine tp_i (hv2) ?_
  refine lv_aload_n hx hb d_L_law_747 rfl (lv_at hl 5 rfl) ?_
  refine lv_iload hx hb d_L_law_748 (lv_at hl 1 rfl) ?_
  refine lv_iconst (v := 3) hx hb d_L_law_750 (by decide) ?_
  refine lv_iadd hx hb d_L_law_751 ?_
  refine sl_ld (j := iv) (d := 3) hx hb hX hbl hbA hS hL (by omega) d_L_law_752 ?_
  refine lv_i2l (v := (xs (iv + 3)).toInt64) hx hb d_L_law_753 rfl ?_
  refine lv_bipush (v := 32) hx hb d_L_law_754 (by decide) ?_
  refine lv_lshl (v := ((xs (iv + 3)).toInt64) <<< ((32 : Int32).toInt64 &&& 63)) hx hb d_L_law_756 rfl ?_
  refine lv_aload_n hx hb d_L_law_757 rfl (lv_at hl 5 rfl) ?_
  refine lv_iload hx hb d_L_law_758 (lv_at hl 1 rfl) ?_
  refine lv_iconst (v := 4) hx hb d_L_law_760 (by decide) ?_
  refine lv_iadd hx hb d_L_law_761 ?_
  refine sl_ld (j := iv) (d := 4) hx hb hX hbl hbA hS hL (by omega) d_L_law_762 ?_
  refine lv_i2l (v := (xs (iv + 4)).toInt64) hx hb d_L_law_763 rfl ?_
  refine lv_ldc2 (v := 4294967295) hx hb hown (hw _ ww_884) d_L_law_764 ?_
  refine lv_land hx hb d_L_law_767 ?_
  refine lv_lor hx hb d_L_law_768 ?_
  refine tp_l (rfl) ?_
  have hC9 : List.map (fun i => ((lw_W ct hd us op hm qo qa fu au ns n ck n ck th hh a1 a2 a3 a4 a5 a6 a7 a8 a9 b0 b1 b2 b3 b4 b5 b6 b7 b8 b9 b10 og fo ad (va_up eu u (.inr (1, [.int (nI u), .int ns, .int (a1 u), .long (lN uo), .long ul, .long (lN uv), .int ((a5 u) + 1), .int ck, .int (a6 u), .int (a7 u)]))) (va_up es k (.inr (3, [.ref (au u), .int (b0 k), .long (lN sec), .int (b3 k), .int 3, .long (lN x), .long (lN y), .long (b9 k), .long c1, .long c2, .long (b10 k), .long (lN rc)])))) : va_W)[i]?) [0, 5, 6, 7, 8, 9, 11, 12, 13, 17, 18, 19, 20] = List.map some ([(hm, .inr (4, [.int th, .long ns.toInt64, .int ck, .long hh, .ref (qa 1), .ref (qa 2), .ref (qa 3), .ref (qa 4), .ref (qa 5), .ref (qa 6), .ref (qa 7), .ref (qa 8), .int (nI n), .ref (qa 9), .ref (qa 10), .ref (qa 11), .ref (qa 12), .ref (qa 13), .ref (qa 14), .ref (qa 15), .ref (qa 16), .ref (qa 17), .ref (qa 18), .ref (qa 19), .ref (qa 20)])), ((qa 5), .inl ((ct 0), 8, .inl a5)), ((qa 6), .inl ((ct 0), 8, .inl a6)), ((qa 7), .inl ((ct 0), 8, .inl a7)), ((qa 8), .inl ((ct 0), 8, .inl a8)), ((qa 9), .inl ((ct 2), 40, .inl a9)), ((qa 11), .inl ((ct 0), 40, .inl b1)), ((qa 12), .inl ((ct 0), 40, .inl b2)), ((qa 13), .inl ((ct 0), 40, .inl b3)), ((qa 17), .inl ((ct 1), 40, .inr (.inl b7))), ((qa 18), .inl ((ct 1), 40, .inr (.inl b8))), ((qa 19), .inl ((ct 1), 40, .inr (.inl b9))), ((qa 20), .inl ((ct 1), 40, .inr (.inl b10)))] : va_W) := (wc_c rfl (wc_c rfl (wc_c rfl (wc_c rfl (wc_c rfl (wc_c rfl (wc_c rfl (wc_c rfl (wc_c rfl (wc_c rfl (wc_c rfl (wc_c rfl (wc_c rfl rfl)))))))))))))
  have hn9 : va_nd [0, 5, 6, 7, 8, 9, 11, 12, 13, 17, 18, 19, 20] = true := by decide
  have hPc : va_P G classes [(hm, .inr (4, [.int th, .long ns.toInt64, .int ck, .long hh, .ref (qa 1), .ref (qa 2), .ref (qa 3), .ref (qa 4), .ref (qa 5), .ref (qa 6), .ref (qa 7), .ref (qa 8), .int (nI n), .ref (qa 9), .ref (qa 10), .ref (qa 11), .ref (qa 12), .ref (qa 13), .ref (qa 14), .ref (qa 15), .ref (qa 16), .ref (qa 17), .ref (qa 18), .ref (qa 19), .ref (qa 20)])), ((qa 5), .inl ((ct 0), 8, .inl a5)), ((qa 6), .inl ((ct 0), 8, .inl a6)), ((qa 7), .inl ((ct 0), 8, .inl a7)), ((qa 8), .inl ((ct 0), 8, .inl a8)), ((qa 9), .inl ((ct 2), 40, .inl a9)), ((qa 11), .inl ((ct 0), 40, .inl b1)), ((qa 12), .inl ((ct 0), 40, .inl b2)), ((qa 13), .inl ((ct 0), 40, .inl b3)), ((qa 17), .inl ((ct 1), 40, .inr (.inl b7))), ((qa 18), .inl ((ct 1), 40, .inr (.inl b8))), ((qa 19), .inl ((ct 1), 40, .inr (.inl b9))), ((qa 20), .inl ((ct 1), 40, .inr (.inl b10)))] H := lp_sub hP [0, 5, 6, 7, 8, 9, 11, 12, 13, 17, 18, 19, 20] hC9
  have hDc := hD.sub (ws' := [(hm, .inr (4, [.int th, .long ns.toInt64, .int ck, .long hh, .ref (qa 1), .ref (qa 2), .ref (qa 3), .ref (qa 4), .ref (qa 5), .ref (qa 6), .ref (qa 7), .ref (qa 8), .int (nI n), .ref (qa 9), .ref (qa 10), .ref (qa 11), .ref (qa 12), .ref (qa 13), .ref (qa 14), .ref (qa 15), .ref (qa 16), .ref (qa 17), .ref (qa 18), .ref (qa 19), .ref (qa 20)])), ((qa 5), .inl ((ct 0), 8, .inl a5)), ((qa 6), .inl ((ct 0), 8, .inl a6)), ((qa 7), .inl ((ct 0), 8, .inl a7)), ((qa 8), .inl ((ct 0), 8, .inl a8)), ((qa 9), .inl ((ct 2), 40, .inl a9)), ((qa 11), .inl ((ct 0), 40, .inl b1)), ((qa 12), .inl ((ct 0), 40, .inl b2)), ((qa 13), .inl ((ct 0), 40, .inl b3)), ((qa 17), .inl ((ct 1), 40, .inr (.inl b7))), ((qa 18), .inl ((ct 1), 40, .inr (.inl b8))), ((qa 19), .inl ((ct 1), 40, .inr (.inl b9))), ((qa 20), .inl ((ct 1), 40, .inr (.inl b10)))]) [0, 5, 6, 7, 8, 9, 11, 12, 13, 17, 18, 19, 20] hn9 hC9
  refine wk_i (va_runV (As := [.int (nI zj), .int (nI k), .long (lj (xs (iv + 3)) (xs (iv + 4)))]) (rest := []) ⟨hx, hb, hml, hown, hts⟩ (c_M_pass_FV0 l G ct H.size hm th ns.toInt64 ck hh (qa 1) (qa 2) (qa 3) (qa 4) (qa 5) (qa 6) (qa 7) (qa 8) (qa 9) (qa 10) (qa 11) (qa 12) (qa 13) (qa 14) (qa 15) (qa 16) (qa 17) (qa 18) (qa 19) (qa 20) n a5 a6 a7 a8 a9 b1 b2 b3 b7 b8 b9 b10 k u a (nI zj) (lj (xs (iv + 3)) (xs (iv + 4))) m_hn m_hkn m_hst m_hsv m_hu m_hu8 m_haw m_hpm m_hpn) (tb_V hw cy_M_pass ww_856 ww_857 ww_858 rfl rfl ⟨Nat.le_of_ble_eq_true rfl, Nat.le_of_ble_eq_true rfl⟩) (wk_preV (ci := 4) (q0 := 0) hPc hK hDc rfl rfl) rfl rfl hl.1 rfl (lv_room (Nat.le_of_ble_eq_true rfl)) d_L_law_769 ⟨by omega, by omega⟩) hP hD hS hA [0, 5, 6, 7, 8, 9, 11, 12, 13, 17, 18, 19, 20] hn9 hC9 (fun _ => by simp only [List.map_cons, List.map_nil]) (fun z21334 H locs _ hP hD hS => ?_)
  have hW9 : wk_sets ((lw_W ct hd us op hm qo qa fu au ns n ck n ck th hh a1 a2 a3 a4 a5 a6 a7 a8 a9 b0 b1 b2 b3 b4 b5 b6 b7 b8 b9 b10 og fo ad (va_up eu u (.inr (1, [.int (nI u), .int ns, .int (a1 u), .long (lN uo), .long ul, .long (lN uv), .int ((a5 u) + 1), .int ck, .int (a6 u), .int (a7 u)]))) (va_up es k (.inr (3, [.ref (au u), .int (b0 k), .long (lN sec), .int (b3 k), .int 3, .long (lN x), .long (lN y), .long (b9 k), .long c1, .long c2, .long (b10 k), .long (lN rc)])))) : va_W) [0, 5, 6, 7, 8, 9, 11, 12, 13, 17, 18, 19, 20] ([(hm, .inr (4, [.int 4, .long ns.toInt64, .int ck, .long z21334, .ref (qa 1), .ref (qa 2), .ref (qa 3), .ref (qa 4), .ref (qa 5), .ref (qa 6), .ref (qa 7), .ref (qa 8), .int (nI n), .ref (qa 9), .ref (qa 10), .ref (qa 11), .ref (qa 12), .ref (qa 13), .ref (qa 14), .ref (qa 15), .ref (qa 16), .ref (qa 17), .ref (qa 18), .ref (qa 19), .ref (qa 20)])), ((qa 5), .inl ((ct 0), 8, .inl (upd a5 u (a5 u + 1)))), ((qa 6), .inl ((ct 0), 8, .inl (upd a6 u ck))), ((qa 7), .inl ((ct 0), 8, .inl (upd a7 u (a6 u)))), ((qa 8), .inl ((ct 0), 8, .inl (upd a8 u (a7 u)))), ((qa 9), .inl ((ct 2), 40, .inl a9)), ((qa 11), .inl ((ct 0), 40, .inl b1)), ((qa 12), .inl ((ct 0), 40, .inl (upd b2 k 3))), ((qa 13), .inl ((ct 0), 40, .inl b3)), ((qa 17), .inl ((ct 1), 40, .inr (.inl b7))), ((qa 18), .inl ((ct 1), 40, .inr (.inl b8))), ((qa 19), .inl ((ct 1), 40, .inr (.inl b9))), ((qa 20), .inl ((ct 1), 40, .inr (.inl b10)))] : va_W) = ((lw_W ct hd us op hm qo qa fu au ns n ck n ck 4 z21334 a1 a2 a3 a4 (upd a5 u (a5 u + 1)) (upd a6 u ck) (upd a7 u (a6 u)) (upd a8 u (a7 u)) a9 b0 b1 (upd b2 k 3) b3 b4 b5 b6 b7 b8 b9 b10 og fo ad (va_up eu u (.inr (1, [.int (nI u), .int ns, .int (a1 u), .long (lN uo), .long ul, .long (lN uv), .int ((a5 u) + 1), .int ck, .int (a6 u), .int (a7 u)]))) (va_up es k (.inr (3, [.ref (au u), .int (b0 k), .long (lN sec), .int (b3 k), .int 3, .long (lN x), .long (lN y), .long (b9 k), .long c1, .long c2, .long (b10 k), .long (lN rc)])))) : va_W) := (ws_c (ws' := (lw_W ct hd us op hm qo qa fu au ns n ck n ck 4 z21334 a1 a2 a3 a4 a5 a6 a7 a8 a9 b0 b1 b2 b3 b4 b5 b6 b7 b8 b9 b10 og fo ad (va_up eu u (.inr (1, [.int (nI u), .int ns, .int (a1 u), .long (lN uo), .long ul, .long (lN uv), .int ((a5 u) + 1), .int ck, .int (a6 u), .int (a7 u)]))) (va_up es k (.inr (3, [.ref (au u), .int (b0 k), .long (lN sec), .int (b3 k), .int 3, .long (lN x), .long (lN y), .long (b9 k), .long c1, .long c2, .long (b10 k), .long (lN rc)]))))) rfl (ws_c (ws' := (lw_W ct hd us op hm qo qa fu au ns n ck n ck 4 z21334 a1 a2 a3 a4 (upd a5 u (a5 u + 1)) a6 a7 a8 a9 b0 b1 b2 b3 b4 b5 b6 b7 b8 b9 b10 og fo ad (va_up eu u (.inr (1, [.int (nI u), .int ns, .int (a1 u), .long (lN uo), .long ul, .long (lN uv), .int ((a5 u) + 1), .int ck, .int (a6 u), .int (a7 u)]))) (va_up es k (.inr (3, [.ref (au u), .int (b0 k), .long (lN sec), .int (b3 k), .int 3, .long (lN x), .long (lN y), .long (b9 k), .long c1, .long c2, .long (b10 k), .long (lN rc)]))))) rfl (ws_c (ws' := (lw_W ct hd us op hm qo qa fu au ns n ck n ck 4 z21334 a1 a2 a3 a4 (upd a5 u (a5 u + 1)) (upd a6 u ck) a7 a8 a9 b0 b1 b2 b3 b4 b5 b6 b7 b8 b9 b10 og fo ad (va_up eu u (.inr (1, [.int (nI u), .int ns, .int (a1 u), .long (lN uo), .long ul, .long (lN uv), .int ((a5 u) + 1), .int ck, .int (a6 u), .int (a7 u)]))) (va_up es k (.inr (3, [.ref (au u), .int (b0 k), .long (lN sec), .int (b3 k), .int 3, .long (lN x), .long (lN y), .long (b9 k), .long c1, .long c2, .long (b10 k), .long (lN rc)]))))) rfl (ws_c (ws' := (lw_W ct hd us op hm qo qa fu au ns n ck n ck 4 z21334 a1 a2 a3 a4 (upd a5 u (a5 u + 1)) (upd a6 u ck) (upd a7 u (a6 u)) a8 a9 b0 b1 b2 b3 b4 b5 b6 b7 b8 b9 b10 og fo ad (va_up eu u (.inr (1, [.int (nI u), .int ns, .int (a1 u), .long (lN uo), .long ul, .long (lN uv), .int ((a5 u) + 1), .int ck, .int (a6 u), .int (a7 u)]))) (va_up es k (.inr (3, [.ref (au u), .int (b0 k), .long (lN sec), .int (b3 k), .int 3, .long (lN x), .long (lN y), .long (b9 k), .long c1, .long c2, .long (b10 k), .long (lN rc)]))))) rfl (ws_c (ws' := (lw_W ct hd us op hm qo qa fu au ns n ck n ck 4 z21334 a1 a2 a3 a4 (upd a5 u (a5 u + 1)) (upd a6 u ck) (upd a7 u (a6 u)) (upd a8 u (a7 u)) a9 b0 b1 b2 b3 b4 b5 b6 b7 b8 b9 b10 og fo ad (va_up eu u (.inr (1, [.int (nI u), .int ns, .int (a1 u), .long (lN uo), .long ul, .long (lN uv), .int ((a5 u) + 1), .int ck, .int (a6 u), .int (a7 u)]))) (va_up es k (.inr (3, [.ref (au u), .int (b0 k), .long (lN sec), .int (b3 k), .int 3, .long (lN x), .long (lN y), .long (b9 k), .long c1, .long c2, .long (b10 k), .long (lN rc)]))))) rfl (ws_k rfl (ws_k rfl (ws_c (ws' := (lw_W ct hd us op hm qo qa fu au ns n ck n ck 4 z21334 a1 a2 a3 a4 (upd a5 u (a5 u + 1)) (upd a6 u ck) (upd a7 u (a6 u)) (upd a8 u (a7 u)) a9 b0 b1 (upd b2 k 3) b3 b4 b5 b6 b7 b8 b9 b10 og fo ad (va_up eu u (.inr (1, [.int (nI u), .int ns, .int (a1 u), .long (lN uo), .long ul, .long (lN uv), .int ((a5 u) + 1), .int ck, .int (a6 u), .int (a7 u)]))) (va_up es k (.inr (3, [.ref (au u), .int (b0 k), .long (lN sec), .int (b3 k), .int 3, .long (lN x), .long (lN y), .long (b9 k), .long c1, .long c2, .long (b10 k), .long (lN rc)]))))) rfl (ws_k rfl (ws_k rfl (ws_k rfl (ws_k rfl (ws_k rfl rfl)))))))))))))
  have hP : va_P G classes (lw_W ct hd us op hm qo qa fu au ns n ck n ck 4 z21334 a1 a2 a3 a4 (upd a5 u (a5 u + 1)) (upd a6 u ck) (upd a7 u (a6 u)) (upd a8 u (a7 u)) a9 b0 b1 (upd b2 k 3) b3 b4 b5 b6 b7 b8 b9 b10 og fo ad (va_up eu u (.inr (1, [.int (nI u), .int ns, .int (a1 u), .long (lN uo), .long ul, .long (lN uv), .int ((a5 u) + 1), .int ck, .int (a6 u), .int (a7 u)]))) (va_up es k (.inr (3, [.ref (au u), .int (b0 k), .long (lN sec), .int (b3 k), .int 3, .long (lN x), .long (lN y), .long (b9 k), .long c1, .long c2, .long (b10 k), .long (lN rc)])))) H := lp_P hW9 hP
  have hD : va_D A (lw_W ct hd us op hm qo qa fu au ns n ck n ck 4 z21334 a1 a2 a3 a4 (upd a5 u (a5 u + 1)) (upd a6 u ck) (upd a7 u (a6 u)) (upd a8 u (a7 u)) a9 b0 b1 (upd b2 k 3) b3 b4 b5 b6 b7 b8 b9 b10 og fo ad (va_up eu u (.inr (1, [.int (nI u), .int ns, .int (a1 u), .long (lN uo), .long ul, .long (lN uv), .int ((a5 u) + 1), .int ck, .int (a6 u), .int (a7 u)]))) (va_up es k (.inr (3, [.ref (au u), .int (b0 k), .long (lN sec), .int (b3 k), .int 3, .long (lN x), .long (lN y), .long (b9 k), .long c1, .long c2, .long (b10 k), .long (lN rc)])))) := lp_D hW9 hD
  refine lv_istore (lv' := [(6, .int 0), (5, .int 4), (4, .int (nI iv)), (3, .ref qo), (2, .ref hm), (1, .ref hd), (0, .ref b)]) hx hb d_L_law_772 hl (Nat.le_of_ble_eq_true rfl) rfl (fun ls hl => ?_)
  refine lv_aload_n hx hb d_L_law_774 rfl (lv_at hl 4 rfl) ?_
  have hPc : va_P G classes [(hm, .inr (4, [.int 4, .long ns.toInt64, .int ck, .long z21334, .ref (qa 1), .ref (qa 2), .ref (qa 3), .ref (qa 4), .ref (qa 5), .ref (qa 6), .ref (qa 7), .ref (qa 8), .int (nI n), .ref (qa 9), .ref (qa 10), .ref (qa 11), .ref (qa 12), .ref (qa 13), .ref (qa 14), .ref (qa 15), .ref (qa 16), .ref (qa 17), .ref (qa 18), .ref (qa 19), .ref (qa 20)]))] H := hP.sub [0] rfl
  have hDc := hD.sub (ws' := [(hm, .inr (4, [.int 4, .long ns.toInt64, .int ck, .long z21334, .ref (qa 1), .ref (qa 2), .ref (qa 3), .ref (qa 4), .ref (qa 5), .ref (qa 6), .ref (qa 7), .ref (qa 8), .int (nI n), .ref (qa 9), .ref (qa 10), .ref (qa 11), .ref (qa 12), .ref (qa 13), .ref (qa 14), .ref (qa 15), .ref (qa 16), .ref (qa 17), .ref (qa 18), .ref (qa 19), .ref (qa 20)]))]) [0] (by decide) rfl
  refine vp_callSi (W.runV (As := []) (rest := []) ⟨hx, hb, hml, hown, hts⟩ (c_M_thrown l G ct H.size hm 4 ns.toInt64 ck z21334 (qa 1) (qa 2) (qa 3) (qa 4) (qa 5) (qa 6) (qa 7) (qa 8) (qa 9) (qa 10) (qa 11) (qa 12) (qa 13) (qa 14) (qa 15) (qa 16) (qa 17) (qa 18) (qa 19) (qa 20) n) (tb_V hw cy_M_thrown ww_719 ww_720 ww_721 rfl rfl ⟨Nat.le_of_ble_eq_true rfl, Nat.le_of_ble_eq_true rfl⟩) (wk_preV (ci := 4) (q0 := 0) hPc hK hDc rfl rfl) rfl rfl hl.1 rfl (lv_room (Nat.le_of_ble_eq_true rfl)) d_L_law_775 ⟨by omega, by omega⟩) (fun r1335 er1335 => ?_)
  subst er1335
  refine lv_iload hx hb d_L_law_778 (lv_at hl 1 rfl) ?_
  refine lv_icmp_eq (tgt := 785) hx hb d_L_law_780 (by decide) (fun h1336 => ?_) (fun h1336 => ?_)
  · refine lv_iload hx hb d_L_law_785 (lv_at hl 1 rfl) ?_
    refine lv_if_ne (tgt := 802) hx hb d_L_law_787 (by decide) (fun h1337 => ?_) (fun h1337 => ?_)
    · refine lv_goto (tgt := 1005) hx hb d_L_law_802 (by decide) ?_
      refine W.widen (k := cells + 1) (n := slots + 13) (by omega) (by omega) ?_
      exact kk n ck 4 z21334 a1 a2 a3 a4 (upd a5 u (a5 u + 1)) (upd a6 u ck) (upd a7 u (a6 u)) (upd a8 u (a7 u)) a9 b0 b1 (upd b2 k 3) b3 b4 b5 b6 b7 b8 b9 b10 og fo ad (va_up eu u (.inr (1, [.int (nI u), .int ns, .int (a1 u), .long (lN uo), .long ul, .long (lN uv), .int ((a5 u) + 1), .int ck, .int (a6 u), .int (a7 u)]))) (va_up es k (.inr (3, [.ref (au u), .int (b0 k), .long (lN sec), .int (b3 k), .int 3, .long (lN x), .long (lN y), .long (b9 k), .long c1, .long c2, .long (b10 k), .long (lN rc)]))) H locs _ hnew hP hD hS (lv_sub hl [2, 3, 4, 5, 6] rfl)
    · exact absurd h1337 (by decide)
  · exact absurd h1336 (by decide)
set_option maxHeartbeats 4000000 in
set_option maxRecDepth 100000 in
theorem lq_passN_ZC_R2 {k : Nat} {u : Nat} {sec : Nat} {x : Nat} {y : Nat} {rc : Nat} {c1 : Int64} {c2 : Int64} {a : Int64} (C0 : lc_C p l s m meth c b L xs G ct A) (hiv : iv + 7 ≤ L) (hcc : cells + 1 ≤ room_1.cells) (hzz : slots + 13 ≤ room_1.slots)
    (hP : va_P G classes (lw_W ct hd us op hm qo qa fu au ns n ck n ck th hh a1 a2 a3 a4 a5 a6 a7 a8 a9 b0 b1 b2 b3 b4 b5 b6 b7 b8 b9 b10 og fo ad eu es) H) (hD : va_D A (lw_W ct hd us op hm qo qa fu au ns n ck n ck th hh a1 a2 a3 a4 a5 a6 a7 a8 a9 b0 b1 b2 b3 b4 b5 b6 b7 b8 b9 b10 og fo ad eu es)) (hS : va_S A s.heap H locs) (hl : lv_has ls 8 [(4, .int (nI iv)), (3, .ref qo), (2, .ref hm), (1, .ref hd), (0, .ref b)])
    (kk : lc_K p l e s m below meth c b L xs G ct A hd us op hm qo qa fu au ns iv (cells + 1) (slots + 13) Q)
    (hv2 : xs (iv + 2) = nI k) (hkn : k < n) (hes : es k = .inr (2, [.ref (au u), .int (b0 k), .long (lN sec), .int (b3 k), .int (b2 k), .long (lN x), .long (lN y), .long (b9 k), .long c1, .long c2, .long (b10 k), .long (b5 k), .long (lN rc)])) (d_hn : n ≤ 40) (d_hkn : k < n) (d_hfo : fo k = some (ad k)) (d_hs0 : ¬ se_at (b2 k) (b3 k) ck = 0) (d_hs1 : ¬ se_at (b2 k) (b3 k) ck = 1) (d_hnf : ¬ th_in (xs (iv + 1)) n) (d_hxr : 0 ^^^ (lj (xs (iv + 3)) (xs (iv + 4))) = a) (m_hn : n ≤ 40) (m_hkn : k < n) (m_hst : 1 < sm_at (b2 k) (b3 k) ck) (m_hpm : ∀ j, j < n → (xs (iv + 1)) = nI j → b10 j ^^^ (lj (xs (iv + 3)) (xs (iv + 4))) = a) (m_hpn : ¬ th_in (xs (iv + 1)) n → (lj (xs (iv + 3)) (xs (iv + 4))) = a)  (hnew : li_R fu au ns n a1 a2 a3 a4 a5 a6 a7 a8 a9 b0 b1 b2 b3 b4 b5 b6 b7 b8 b9 b10 fo ad eu es)  : W p l e room_1 s m #[Value.ref b] below meth c H locs cells slots Q (F0 m 693 ls []) := by
  obtain ⟨hx, hb, hr, hml, hown, hw, hK, hZ, hR, hN, hfl, hA, hbA, hX, hbl, hL, hlocks⟩ := C0
  have hts := hw
  have hP : va_P G classes (lw_W ct hd us op hm qo qa fu au ns n ck n ck th hh a1 a2 a3 a4 a5 a6 a7 a8 a9 b0 b1 b2 b3 b4 b5 b6 b7 b8 b9 b10 og fo ad eu es) H := hP
  have hD : va_D A (lw_W ct hd us op hm qo qa fu au ns n ck n ck th hh a1 a2 a3 a4 a5 a6 a7 a8 a9 b0 b1 b2 b3 b4 b5 b6 b7 b8 b9 b10 og fo ad eu es) := hD
  refine lv_aload_n hx hb d_L_law_693 rfl (lv_at hl 3 rfl) ?_
  refine lv_aload_n hx hb d_L_law_694 rfl (lv_at hl 4 rfl) ?_
  refine lv_iload hx hb d_L_law_695 (lv_at hl 0 rfl) ?_
  refine lv_iconst (v := 1) hx hb d_L_law_697 (by decide) ?_
  refine lv_iadd hx hb d_L_law_698 ?_
  refine sl_ld (j := iv) (d := 1) hx hb hX hbl hbA hS hL (by omega) d_L_law_699 ?_
  refine lv_aload_n hx hb d_L_law_700 rfl (lv_at hl 4 rfl) ?_
  refine lv_iload hx hb d_L_law_701 (lv_at hl 0 rfl) ?_
  refine lv_iconst (v := 2) hx hb d_L_law_703 (by decide) ?_
  refine lv_iadd hx hb d_L_law_704 ?_
  refine sl_ld (j := iv) (d := 2) hx hb hX hbl hbA hS hL (by omega) d_L_law_705 ?_
  refine tp_i (hv2) ?_
  refine lv_aload_n hx hb d_L_law_706 rfl (lv_at hl 4 rfl) ?_
  refine lv_iload hx hb d_L_law_707 (lv_at hl 0 rfl) ?_
  refine lv_iconst (v := 3) hx hb d_L_law_709 (by decide) ?_
  refine lv_iadd hx hb d_L_law_710 ?_
  refine sl_ld (j := iv) (d := 3) hx hb hX hbl hbA hS hL (by omega) d_L_law_711 ?_
  refine lv_i2l (v := (xs (iv + 3)).toInt64) hx hb d_L_law_712 rfl ?_
  refine lv_bipush (v := 32) hx hb d_L_law_713 (by decide) ?_
  refine lv_lshl (v := ((xs (iv + 3)).toInt64) <<< ((32 : Int32).toInt64 &&& 63)) hx hb d_L_law_715 rfl ?_
  refine lv_aload_n hx hb d_L_law_716 rfl (lv_at hl 4 rfl) ?_
  refine lv_iload hx hb d_L_law_717 (lv_at hl 0 rfl) ?_
  refine lv_iconst (v := 4) hx hb d_L_law_719 (by decide) ?_
  refine lv_iadd hx hb d_L_law_720 ?_
  refine sl_ld (j := iv) (d := 4) hx hb hX hbl hbA hS hL (by omega) d_L_law_721 ?_
  refine lv_i2l (v := (xs (iv + 4)).toInt64) hx hb d_L_law_722 rfl ?_
  refine lv_ldc2 (v := 4294967295) hx hb hown (hw _ ww_884) d_L_law_723 ?_
  refine lv_land hx hb d_L_law_726 ?_
  refine lv_lor hx hb d_L_law_727 ?_
  refine tp_l (rfl) ?_
  refine lv_aload_n hx hb d_L_law_728 rfl (lv_at hl 1 rfl) ?_
  have hC9 : List.map (fun i => ((lw_W ct hd us op hm qo qa fu au ns n ck n ck th hh a1 a2 a3 a4 a5 a6 a7 a8 a9 b0 b1 b2 b3 b4 b5 b6 b7 b8 b9 b10 og fo ad eu es) : va_W)[i]?) [22, 24, 25 + (8 + k), 21] = List.map some ([(hd, .inr (0, [.ref us, .ref op, .int (nI n), .int ck])), (op, .inl ((ct 4), 40, .inr (.inr (.inr (.inr fo))))), ((ad k), .inr (2, [.ref (au u), .int (b0 k), .long (lN sec), .int (b3 k), .int (b2 k), .long (lN x), .long (lN y), .long (b9 k), .long c1, .long c2, .long (b10 k), .long (b5 k), .long (lN rc)])), (qo, .inl ((ct 1), 1, .inr (.inl og)))] : va_W) := (wc_c rfl (wc_c rfl (wc_c (lw_s rfl hkn hes) (wc_c rfl rfl))))
  have hn9 : va_nd [22, 24, 25 + (8 + k), 21] = true := (nd_c (by simp only [List.mem_cons, List.not_mem_nil, or_false]; omega) (nd_c (by simp only [List.mem_cons, List.not_mem_nil, or_false]; omega) (nd_c (by simp only [List.mem_cons, List.not_mem_nil, or_false]; omega) (nd_c List.not_mem_nil rfl))))
  have hPc : va_P G classes [(hd, .inr (0, [.ref us, .ref op, .int (nI n), .int ck])), (op, .inl ((ct 4), 40, .inr (.inr (.inr (.inr fo))))), ((ad k), .inr (2, [.ref (au u), .int (b0 k), .long (lN sec), .int (b3 k), .int (b2 k), .long (lN x), .long (lN y), .long (b9 k), .long c1, .long c2, .long (b10 k), .long (b5 k), .long (lN rc)])), (qo, .inl ((ct 1), 1, .inr (.inl og)))] H := lp_sub hP [22, 24, 25 + (8 + k), 21] hC9
  have hDc := hD.sub (ws' := [(hd, .inr (0, [.ref us, .ref op, .int (nI n), .int ck])), (op, .inl ((ct 4), 40, .inr (.inr (.inr (.inr fo))))), ((ad k), .inr (2, [.ref (au u), .int (b0 k), .long (lN sec), .int (b3 k), .int (b2 k), .long (lN x), .long (lN y), .long (b9 k), .long c1, .long c2, .long (b10 k), .long (b5 k), .long (lN rc)])), (qo, .inl ((ct 1), 1, .inr (.inl og)))]) [22, 24, 25 + (8 + k), 21] hn9 hC9
  have hW9 : wk_sets ((lw_W ct hd us op hm qo qa fu au ns n ck n ck th hh a1 a2 a3 a4 a5 a6 a7 a8 a9 b0 b1 b2 b3 b4 b5 b6 b7 b8 b9 b10 og fo ad eu es) : va_W) [22, 24, 25 + (8 + k), 21] ([(hd, .inr (0, [.ref us, .ref op, .int (nI n), .int ck])), (op, .inl ((ct 4), 40, .inr (.inr (.inr (.inr fo))))), ((ad k), .inr (2, [.ref (au u), .int (b0 k), .long (lN sec), .int (b3 k), .int (b2 k), .long (lN x), .long (lN y), .long (b9 k), .long c1, .long c2, .long (b10 k), .long (b5 k), .long (lN rc)])), (qo, .inl ((ct 1), 1, .inr (.inl og)))] : va_W) = ((lw_W ct hd us op hm qo qa fu au ns n ck n ck th hh a1 a2 a3 a4 a5 a6 a7 a8 a9 b0 b1 b2 b3 b4 b5 b6 b7 b8 b9 b10 og fo ad eu es) : va_W) := (ws_k rfl (ws_k rfl (ws_k (lw_s rfl hkn hes) (ws_k rfl rfl))))
  refine wk_i (sh_run (As := [.ref hd, .int (xs (iv + 1)), .int (nI k), .long (lj (xs (iv + 3)) (xs (iv + 4))), .ref qo]) (rest := []) (hs := [(0, 12, 15, 25), (0, 12, 19, 15), (0, 12, 23, 13), (0, 12, 27, 27)]) ⟨hx, hb, hml, hown, hts⟩ (c_L_passN_ZC l hfl G ct H.size hd us op n ck fo k (ad k) (au u) (b0 k) sec (b3 k) (b2 k) x y (b9 k) c1 c2 (b10 k) (b5 k) rc a (xs (iv + 1)) (lj (xs (iv + 3)) (xs (iv + 4))) qo og d_hn d_hkn d_hfo d_hs0 d_hs1 d_hnf d_hxr) ⟨hw, ww_613, ww_0, ⟨by decide, by decide⟩, np_L_pass, ww_611, ww_612, rfl, rfl, Nat.le_of_ble_eq_true rfl, Nat.le_of_ble_eq_true rfl⟩ (wk_pre5 hPc hK hDc hD hS hA [22, 24, 25 + (8 + k), 21] hC9 hZ hR hN) rfl hl.1 rfl (lv_room (Nat.le_of_ble_eq_true rfl)) d_L_law_729 ⟨by omega, by omega⟩) hP hD hS hA [22, 24, 25 + (8 + k), 21] hn9 hC9 (fun _ => by simp only [List.map_cons, List.map_nil]) (fun _ H locs _ hP hD hS => ?_)
  have hP : va_P G classes (lw_W ct hd us op hm qo qa fu au ns n ck n ck th hh a1 a2 a3 a4 a5 a6 a7 a8 a9 b0 b1 b2 b3 b4 b5 b6 b7 b8 b9 b10 og fo ad eu es) H := lp_P hW9 hP
  have hD : va_D A (lw_W ct hd us op hm qo qa fu au ns n ck n ck th hh a1 a2 a3 a4 a5 a6 a7 a8 a9 b0 b1 b2 b3 b4 b5 b6 b7 b8 b9 b10 og fo ad eu es) := lp_D hW9 hD
  refine lv_istore (lv' := [(5, .int 2), (4, .int (nI iv)), (3, .ref qo), (2, .ref hm), (1, .ref hd), (0, .ref b)]) hx hb d_L_law_732 hl (Nat.le_of_ble_eq_true rfl) rfl (fun ls hl => ?_)
  refine lv_aload_n hx hb d_L_law_734 rfl (lv_at hl 3 rfl) ?_
  refine lv_aload_n hx hb d_L_law_735 rfl (lv_at hl 5 rfl) ?_
  refine lv_iload hx hb d_L_law_736 (lv_at hl 1 rfl) ?_
  refine lv_iconst (v := 1) hx hb d_L_law_738 (by decide) ?_
  refine lv_iadd hx hb d_L_law_739 ?_
  refine sl_ld (j := iv) (d := 1) hx hb hX hbl hbA hS hL (by omega) d_L_law_740 ?_
  refine lv_aload_n hx hb d_L_law_741 rfl (lv_at hl 5 rfl) ?_
  refine lv_iload hx hb d_L_law_742 (lv_at hl 1 rfl) ?_
  refine lv_iconst (v := 2) hx hb d_L_law_744 (by decide) ?_
  refine lv_iadd hx hb d_L_law_745 ?_
  refine sl_ld (j := iv) (d := 2) hx hb hX hbl hbA hS hL (by omega) d_L_law_746 ?_
  refine tp_i (hv2) ?_
  refine lv_aload_n hx hb d_L_law_747 rfl (lv_at hl 5 rfl) ?_
  refine lv_iload hx hb d_L_law_748 (lv_at hl 1 rfl) ?_
  refine lv_iconst (v := 3) hx hb d_L_law_750 (by decide) ?_
  refine lv_iadd hx hb d_L_law_751 ?_
  refine sl_ld (j := iv) (d := 3) hx hb hX hbl hbA hS hL (by omega) d_L_law_752 ?_
  refine lv_i2l (v := (xs (iv + 3)).toInt64) hx hb d_L_law_753 rfl ?_
  refine lv_bipush (v := 32) hx hb d_L_law_754 (by decide) ?_
  refine lv_lshl (v := ((xs (iv + 3)).toInt64) <<< ((32 : Int32).toInt64 &&& 63)) hx hb d_L_law_756 rfl ?_
  refine lv_aload_n hx hb d_L_law_757 rfl (lv_at hl 5 rfl) ?_
  refine lv_iload hx hb d_L_law_758 (lv_at hl 1 rfl) ?_
  refine lv_iconst (v := 4) hx hb d_L_law_760 (by decide) ?_
  refine lv_iadd hx hb d_L_law_761 ?_
  refine sl_ld (j := iv) (d := 4) hx hb hX hbl hbA hS hL (by omega) d_L_law_762 ?_
  refine lv_i2l (v := (xs (iv + 4)).toInt64) hx hb d_L_law_763 rfl ?_
  refine lv_ldc2 (v := 4294967295) hx hb hown (hw _ ww_884) d_L_law_764 ?_
  refine lv_land hx hb d_L_law_767 ?_
  refine lv_lor hx hb d_L_law_768 ?_
  refine tp_l (rfl) ?_
  have hC9 : List.map (fun i => ((lw_W ct hd us op hm qo qa fu au ns n ck n ck th hh a1 a2 a3 a4 a5 a6 a7 a8 a9 b0 b1 b2 b3 b4 b5 b6 b7 b8 b9 b10 og fo ad eu es) : va_W)[i]?) [0, 12, 13, 20] = List.map some ([(hm, .inr (4, [.int th, .long ns.toInt64, .int ck, .long hh, .ref (qa 1), .ref (qa 2), .ref (qa 3), .ref (qa 4), .ref (qa 5), .ref (qa 6), .ref (qa 7), .ref (qa 8), .int (nI n), .ref (qa 9), .ref (qa 10), .ref (qa 11), .ref (qa 12), .ref (qa 13), .ref (qa 14), .ref (qa 15), .ref (qa 16), .ref (qa 17), .ref (qa 18), .ref (qa 19), .ref (qa 20)])), ((qa 12), .inl ((ct 0), 40, .inl b2)), ((qa 13), .inl ((ct 0), 40, .inl b3)), ((qa 20), .inl ((ct 1), 40, .inr (.inl b10)))] : va_W) := (wc_c rfl (wc_c rfl (wc_c rfl (wc_c rfl rfl))))
  have hn9 : va_nd [0, 12, 13, 20] = true := by decide
  have hPc : va_P G classes [(hm, .inr (4, [.int th, .long ns.toInt64, .int ck, .long hh, .ref (qa 1), .ref (qa 2), .ref (qa 3), .ref (qa 4), .ref (qa 5), .ref (qa 6), .ref (qa 7), .ref (qa 8), .int (nI n), .ref (qa 9), .ref (qa 10), .ref (qa 11), .ref (qa 12), .ref (qa 13), .ref (qa 14), .ref (qa 15), .ref (qa 16), .ref (qa 17), .ref (qa 18), .ref (qa 19), .ref (qa 20)])), ((qa 12), .inl ((ct 0), 40, .inl b2)), ((qa 13), .inl ((ct 0), 40, .inl b3)), ((qa 20), .inl ((ct 1), 40, .inr (.inl b10)))] H := lp_sub hP [0, 12, 13, 20] hC9
  have hDc := hD.sub (ws' := [(hm, .inr (4, [.int th, .long ns.toInt64, .int ck, .long hh, .ref (qa 1), .ref (qa 2), .ref (qa 3), .ref (qa 4), .ref (qa 5), .ref (qa 6), .ref (qa 7), .ref (qa 8), .int (nI n), .ref (qa 9), .ref (qa 10), .ref (qa 11), .ref (qa 12), .ref (qa 13), .ref (qa 14), .ref (qa 15), .ref (qa 16), .ref (qa 17), .ref (qa 18), .ref (qa 19), .ref (qa 20)])), ((qa 12), .inl ((ct 0), 40, .inl b2)), ((qa 13), .inl ((ct 0), 40, .inl b3)), ((qa 20), .inl ((ct 1), 40, .inr (.inl b10)))]) [0, 12, 13, 20] hn9 hC9
  refine wk_i (va_runV (As := [.int (xs (iv + 1)), .int (nI k), .long (lj (xs (iv + 3)) (xs (iv + 4)))]) (rest := []) ⟨hx, hb, hml, hown, hts⟩ (c_M_pass_R2 l G ct H.size hm th ns.toInt64 ck hh (qa 1) (qa 2) (qa 3) (qa 4) (qa 5) (qa 6) (qa 7) (qa 8) (qa 9) (qa 10) (qa 11) (qa 12) (qa 13) (qa 14) (qa 15) (qa 16) (qa 17) (qa 18) (qa 19) (qa 20) n b2 b3 b10 k a (xs (iv + 1)) (lj (xs (iv + 3)) (xs (iv + 4))) m_hn m_hkn m_hst m_hpm m_hpn) (tb_V hw cy_M_pass ww_856 ww_857 ww_858 rfl rfl ⟨Nat.le_of_ble_eq_true rfl, Nat.le_of_ble_eq_true rfl⟩) (wk_preV (ci := 4) (q0 := 0) hPc hK hDc rfl rfl) rfl rfl hl.1 rfl (lv_room (Nat.le_of_ble_eq_true rfl)) d_L_law_769 ⟨by omega, by omega⟩) hP hD hS hA [0, 12, 13, 20] hn9 hC9 (fun _ => by simp only [List.map_cons, List.map_nil]) (fun _ H locs _ hP hD hS => ?_)
  have hW9 : wk_sets ((lw_W ct hd us op hm qo qa fu au ns n ck n ck th hh a1 a2 a3 a4 a5 a6 a7 a8 a9 b0 b1 b2 b3 b4 b5 b6 b7 b8 b9 b10 og fo ad eu es) : va_W) [0, 12, 13, 20] ([(hm, .inr (4, [.int 2, .long ns.toInt64, .int ck, .long hh, .ref (qa 1), .ref (qa 2), .ref (qa 3), .ref (qa 4), .ref (qa 5), .ref (qa 6), .ref (qa 7), .ref (qa 8), .int (nI n), .ref (qa 9), .ref (qa 10), .ref (qa 11), .ref (qa 12), .ref (qa 13), .ref (qa 14), .ref (qa 15), .ref (qa 16), .ref (qa 17), .ref (qa 18), .ref (qa 19), .ref (qa 20)])), ((qa 12), .inl ((ct 0), 40, .inl b2)), ((qa 13), .inl ((ct 0), 40, .inl b3)), ((qa 20), .inl ((ct 1), 40, .inr (.inl b10)))] : va_W) = ((lw_W ct hd us op hm qo qa fu au ns n ck n ck 2 hh a1 a2 a3 a4 a5 a6 a7 a8 a9 b0 b1 b2 b3 b4 b5 b6 b7 b8 b9 b10 og fo ad eu es) : va_W) := (ws_c (ws' := (lw_W ct hd us op hm qo qa fu au ns n ck n ck 2 hh a1 a2 a3 a4 a5 a6 a7 a8 a9 b0 b1 b2 b3 b4 b5 b6 b7 b8 b9 b10 og fo ad eu es)) rfl (ws_k rfl (ws_k rfl (ws_k rfl rfl))))
  have hP : va_P G classes (lw_W ct hd us op hm qo qa fu au ns n ck n ck 2 hh a1 a2 a3 a4 a5 a6 a7 a8 a9 b0 b1 b2 b3 b4 b5 b6 b7 b8 b9 b10 og fo ad eu es) H := lp_P hW9 hP
  have hD : va_D A (lw_W ct hd us op hm qo qa fu au ns n ck n ck 2 hh a1 a2 a3 a4 a5 a6 a7 a8 a9 b0 b1 b2 b3 b4 b5 b6 b7 b8 b9 b10 og fo ad eu es) := lp_D hW9 hD
  refine lv_istore (lv' := [(6, .int 0), (5, .int 2), (4, .int (nI iv)), (3, .ref qo), (2, .ref hm), (1, .ref hd), (0, .ref b)]) hx hb d_L_law_772 hl (Nat.le_of_ble_eq_true rfl) rfl (fun ls hl => ?_)
  refine lv_aload_n hx hb d_L_law_774 rfl (lv_at hl 4 rfl) ?_
  have hPc : va_P G classes [(hm, .inr (4, [.int 2, .long ns.toInt64, .int ck, .long hh, .ref (qa 1), .ref (qa 2), .ref (qa 3), .ref (qa 4), .ref (qa 5), .ref (qa 6), .ref (qa 7), .ref (qa 8), .int (nI n), .ref (qa 9), .ref (qa 10), .ref (qa 11), .ref (qa 12), .ref (qa 13), .ref (qa 14), .ref (qa 15), .ref (qa 16), .ref (qa 17), .ref (qa 18), .ref (qa 19), .ref (qa 20)]))] H := hP.sub [0] rfl
  have hDc := hD.sub (ws' := [(hm, .inr (4, [.int 2, .long ns.toInt64, .int ck, .long hh, .ref (qa 1), .ref (qa 2), .ref (qa 3), .ref (qa 4), .ref (qa 5), .ref (qa 6), .ref (qa 7), .ref (qa 8), .int (nI n), .ref (qa 9), .ref (qa 10), .ref (qa 11), .ref (qa 12), .ref (qa 13), .ref (qa 14), .ref (qa 15), .ref (qa 16), .ref (qa 17), .ref (qa 18), .ref (qa 19), .ref (qa 20)]))]) [0] (by decide) rfl
  refine vp_callSi (W.runV (As := []) (rest := []) ⟨hx, hb, hml, hown, hts⟩ (c_M_thrown l G ct H.size hm 2 ns.toInt64 ck hh (qa 1) (qa 2) (qa 3) (qa 4) (qa 5) (qa 6) (qa 7) (qa 8) (qa 9) (qa 10) (qa 11) (qa 12) (qa 13) (qa 14) (qa 15) (qa 16) (qa 17) (qa 18) (qa 19) (qa 20) n) (tb_V hw cy_M_thrown ww_719 ww_720 ww_721 rfl rfl ⟨Nat.le_of_ble_eq_true rfl, Nat.le_of_ble_eq_true rfl⟩) (wk_preV (ci := 4) (q0 := 0) hPc hK hDc rfl rfl) rfl rfl hl.1 rfl (lv_room (Nat.le_of_ble_eq_true rfl)) d_L_law_775 ⟨by omega, by omega⟩) (fun r1338 er1338 => ?_)
  subst er1338
  refine lv_iload hx hb d_L_law_778 (lv_at hl 1 rfl) ?_
  refine lv_icmp_eq (tgt := 785) hx hb d_L_law_780 (by decide) (fun h1339 => ?_) (fun h1339 => ?_)
  · refine lv_iload hx hb d_L_law_785 (lv_at hl 1 rfl) ?_
    refine lv_if_ne (tgt := 802) hx hb d_L_law_787 (by decide) (fun h1340 => ?_) (fun h1340 => ?_)
    · refine lv_goto (tgt := 1005) hx hb d_L_law_802 (by decide) ?_
      refine W.widen (k := cells + 1) (n := slots + 13) (by omega) (by omega) ?_
      exact kk n ck 2 hh a1 a2 a3 a4 a5 a6 a7 a8 a9 b0 b1 b2 b3 b4 b5 b6 b7 b8 b9 b10 og fo ad eu es H locs _ hnew hP hD hS (lv_sub hl [2, 3, 4, 5, 6] rfl)
    · exact absurd h1340 (by decide)
  · exact absurd h1339 (by decide)
set_option maxHeartbeats 4000000 in
set_option maxRecDepth 100000 in
theorem lq_passS_ZC_R2 {k : Nat} {u : Nat} {sec : Nat} {x : Nat} {y : Nat} {rc : Nat} {c1 : Int64} {c2 : Int64} {a : Int64} (C0 : lc_C p l s m meth c b L xs G ct A) (hiv : iv + 7 ≤ L) (hcc : cells + 1 ≤ room_1.cells) (hzz : slots + 13 ≤ room_1.slots)
    (hP : va_P G classes (lw_W ct hd us op hm qo qa fu au ns n ck n ck th hh a1 a2 a3 a4 a5 a6 a7 a8 a9 b0 b1 b2 b3 b4 b5 b6 b7 b8 b9 b10 og fo ad eu es) H) (hD : va_D A (lw_W ct hd us op hm qo qa fu au ns n ck n ck th hh a1 a2 a3 a4 a5 a6 a7 a8 a9 b0 b1 b2 b3 b4 b5 b6 b7 b8 b9 b10 og fo ad eu es)) (hS : va_S A s.heap H locs) (hl : lv_has ls 8 [(4, .int (nI iv)), (3, .ref qo), (2, .ref hm), (1, .ref hd), (0, .ref b)])
    (kk : lc_K p l e s m below meth c b L xs G ct A hd us op hm qo qa fu au ns iv (cells + 1) (slots + 13) Q)
    (hv1 : xs (iv + 1) = nI k) (hv2 : xs (iv + 2) = nI k) (hkn : k < n) (hes : es k = .inr (2, [.ref (au u), .int (b0 k), .long (lN sec), .int (b3 k), .int (b2 k), .long (lN x), .long (lN y), .long (b9 k), .long c1, .long c2, .long (b10 k), .long (b5 k), .long (lN rc)])) (d_hn : n ≤ 40) (d_hkn : k < n) (d_hfo : fo k = some (ad k)) (d_hs0 : ¬ se_at (b2 k) (b3 k) ck = 0) (d_hs1 : ¬ se_at (b2 k) (b3 k) ck = 1) (d_hxr : (b10 k) ^^^ (lj (xs (iv + 3)) (xs (iv + 4))) = a) (m_hn : n ≤ 40) (m_hkn : k < n) (m_hst : 1 < sm_at (b2 k) (b3 k) ck) (m_hpm : ∀ j, j < n → (nI k) = nI j → b10 j ^^^ (lj (xs (iv + 3)) (xs (iv + 4))) = a) (m_hpn : ¬ th_in (nI k) n → (lj (xs (iv + 3)) (xs (iv + 4))) = a)  (hnew : li_R fu au ns n a1 a2 a3 a4 a5 a6 a7 a8 a9 b0 b1 b2 b3 b4 b5 b6 b7 b8 b9 b10 fo ad eu es)  : W p l e room_1 s m #[Value.ref b] below meth c H locs cells slots Q (F0 m 693 ls []) := by
  obtain ⟨hx, hb, hr, hml, hown, hw, hK, hZ, hR, hN, hfl, hA, hbA, hX, hbl, hL, hlocks⟩ := C0
  have hts := hw
  have hP : va_P G classes (lw_W ct hd us op hm qo qa fu au ns n ck n ck th hh a1 a2 a3 a4 a5 a6 a7 a8 a9 b0 b1 b2 b3 b4 b5 b6 b7 b8 b9 b10 og fo ad eu es) H := hP
  have hD : va_D A (lw_W ct hd us op hm qo qa fu au ns n ck n ck th hh a1 a2 a3 a4 a5 a6 a7 a8 a9 b0 b1 b2 b3 b4 b5 b6 b7 b8 b9 b10 og fo ad eu es) := hD
  refine lv_aload_n hx hb d_L_law_693 rfl (lv_at hl 3 rfl) ?_
  refine lv_aload_n hx hb d_L_law_694 rfl (lv_at hl 4 rfl) ?_
  refine lv_iload hx hb d_L_law_695 (lv_at hl 0 rfl) ?_
  refine lv_iconst (v := 1) hx hb d_L_law_697 (by decide) ?_
  refine lv_iadd hx hb d_L_law_698 ?_
  refine sl_ld (j := iv) (d := 1) hx hb hX hbl hbA hS hL (by omega) d_L_law_699 ?_
  refine tp_i (hv1) ?_
  refine lv_aload_n hx hb d_L_law_700 rfl (lv_at hl 4 rfl) ?_
  refine lv_iload hx hb d_L_law_701 (lv_at hl 0 rfl) ?_
  refine lv_iconst (v := 2) hx hb d_L_law_703 (by decide) ?_
  refine lv_iadd hx hb d_L_law_704 ?_
  refine sl_ld (j := iv) (d := 2) hx hb hX hbl hbA hS hL (by omega) d_L_law_705 ?_
  refine tp_i (hv2) ?_
  refine lv_aload_n hx hb d_L_law_706 rfl (lv_at hl 4 rfl) ?_
  refine lv_iload hx hb d_L_law_707 (lv_at hl 0 rfl) ?_
  refine lv_iconst (v := 3) hx hb d_L_law_709 (by decide) ?_
  refine lv_iadd hx hb d_L_law_710 ?_
  refine sl_ld (j := iv) (d := 3) hx hb hX hbl hbA hS hL (by omega) d_L_law_711 ?_
  refine lv_i2l (v := (xs (iv + 3)).toInt64) hx hb d_L_law_712 rfl ?_
  refine lv_bipush (v := 32) hx hb d_L_law_713 (by decide) ?_
  refine lv_lshl (v := ((xs (iv + 3)).toInt64) <<< ((32 : Int32).toInt64 &&& 63)) hx hb d_L_law_715 rfl ?_
  refine lv_aload_n hx hb d_L_law_716 rfl (lv_at hl 4 rfl) ?_
  refine lv_iload hx hb d_L_law_717 (lv_at hl 0 rfl) ?_
  refine lv_iconst (v := 4) hx hb d_L_law_719 (by decide) ?_
  refine lv_iadd hx hb d_L_law_720 ?_
  refine sl_ld (j := iv) (d := 4) hx hb hX hbl hbA hS hL (by omega) d_L_law_721 ?_
  refine lv_i2l (v := (xs (iv + 4)).toInt64) hx hb d_L_law_722 rfl ?_
  refine lv_ldc2 (v := 4294967295) hx hb hown (hw _ ww_884) d_L_law_723 ?_
  refine lv_land hx hb d_L_law_726 ?_
  refine lv_lor hx hb d_L_law_727 ?_
  refine tp_l (rfl) ?_
  refine lv_aload_n hx hb d_L_law_728 rfl (lv_at hl 1 rfl) ?_
  have hC9 : List.map (fun i => ((lw_W ct hd us op hm qo qa fu au ns n ck n ck th hh a1 a2 a3 a4 a5 a6 a7 a8 a9 b0 b1 b2 b3 b4 b5 b6 b7 b8 b9 b10 og fo ad eu es) : va_W)[i]?) [22, 24, 25 + (8 + k), 21] = List.map some ([(hd, .inr (0, [.ref us, .ref op, .int (nI n), .int ck])), (op, .inl ((ct 4), 40, .inr (.inr (.inr (.inr fo))))), ((ad k), .inr (2, [.ref (au u), .int (b0 k), .long (lN sec), .int (b3 k), .int (b2 k), .long (lN x), .long (lN y), .long (b9 k), .long c1, .long c2, .long (b10 k), .long (b5 k), .long (lN rc)])), (qo, .inl ((ct 1), 1, .inr (.inl og)))] : va_W) := (wc_c rfl (wc_c rfl (wc_c (lw_s rfl hkn hes) (wc_c rfl rfl))))
  have hn9 : va_nd [22, 24, 25 + (8 + k), 21] = true := (nd_c (by simp only [List.mem_cons, List.not_mem_nil, or_false]; omega) (nd_c (by simp only [List.mem_cons, List.not_mem_nil, or_false]; omega) (nd_c (by simp only [List.mem_cons, List.not_mem_nil, or_false]; omega) (nd_c List.not_mem_nil rfl))))
  have hPc : va_P G classes [(hd, .inr (0, [.ref us, .ref op, .int (nI n), .int ck])), (op, .inl ((ct 4), 40, .inr (.inr (.inr (.inr fo))))), ((ad k), .inr (2, [.ref (au u), .int (b0 k), .long (lN sec), .int (b3 k), .int (b2 k), .long (lN x), .long (lN y), .long (b9 k), .long c1, .long c2, .long (b10 k), .long (b5 k), .long (lN rc)])), (qo, .inl ((ct 1), 1, .inr (.inl og)))] H := lp_sub hP [22, 24, 25 + (8 + k), 21] hC9
  have hDc := hD.sub (ws' := [(hd, .inr (0, [.ref us, .ref op, .int (nI n), .int ck])), (op, .inl ((ct 4), 40, .inr (.inr (.inr (.inr fo))))), ((ad k), .inr (2, [.ref (au u), .int (b0 k), .long (lN sec), .int (b3 k), .int (b2 k), .long (lN x), .long (lN y), .long (b9 k), .long c1, .long c2, .long (b10 k), .long (b5 k), .long (lN rc)])), (qo, .inl ((ct 1), 1, .inr (.inl og)))]) [22, 24, 25 + (8 + k), 21] hn9 hC9
  have hW9 : wk_sets ((lw_W ct hd us op hm qo qa fu au ns n ck n ck th hh a1 a2 a3 a4 a5 a6 a7 a8 a9 b0 b1 b2 b3 b4 b5 b6 b7 b8 b9 b10 og fo ad eu es) : va_W) [22, 24, 25 + (8 + k), 21] ([(hd, .inr (0, [.ref us, .ref op, .int (nI n), .int ck])), (op, .inl ((ct 4), 40, .inr (.inr (.inr (.inr fo))))), ((ad k), .inr (2, [.ref (au u), .int (b0 k), .long (lN sec), .int (b3 k), .int (b2 k), .long (lN x), .long (lN y), .long (b9 k), .long c1, .long c2, .long (b10 k), .long (b5 k), .long (lN rc)])), (qo, .inl ((ct 1), 1, .inr (.inl og)))] : va_W) = ((lw_W ct hd us op hm qo qa fu au ns n ck n ck th hh a1 a2 a3 a4 a5 a6 a7 a8 a9 b0 b1 b2 b3 b4 b5 b6 b7 b8 b9 b10 og fo ad eu es) : va_W) := (ws_k rfl (ws_k rfl (ws_k (lw_s rfl hkn hes) (ws_k rfl rfl))))
  refine wk_i (sh_run (As := [.ref hd, .int (nI k), .int (nI k), .long (lj (xs (iv + 3)) (xs (iv + 4))), .ref qo]) (rest := []) (hs := [(0, 12, 15, 25), (0, 12, 19, 15), (0, 12, 23, 13), (0, 12, 27, 27)]) ⟨hx, hb, hml, hown, hts⟩ (c_L_passS_ZC l hfl G ct H.size hd us op n ck fo k (ad k) (au u) (b0 k) sec (b3 k) (b2 k) x y (b9 k) c1 c2 (b10 k) (b5 k) rc a (lj (xs (iv + 3)) (xs (iv + 4))) qo og d_hn d_hkn d_hfo d_hs0 d_hs1 d_hxr) ⟨hw, ww_613, ww_0, ⟨by decide, by decide⟩, np_L_pass, ww_611, ww_612, rfl, rfl, Nat.le_of_ble_eq_true rfl, Nat.le_of_ble_eq_true rfl⟩ (wk_pre5 hPc hK hDc hD hS hA [22, 24, 25 + (8 + k), 21] hC9 hZ hR hN) rfl hl.1 rfl (lv_room (Nat.le_of_ble_eq_true rfl)) d_L_law_729 ⟨by omega, by omega⟩) hP hD hS hA [22, 24, 25 + (8 + k), 21] hn9 hC9 (fun _ => by simp only [List.map_cons, List.map_nil]) (fun _ H locs _ hP hD hS => ?_)
  have hP : va_P G classes (lw_W ct hd us op hm qo qa fu au ns n ck n ck th hh a1 a2 a3 a4 a5 a6 a7 a8 a9 b0 b1 b2 b3 b4 b5 b6 b7 b8 b9 b10 og fo ad eu es) H := lp_P hW9 hP
  have hD : va_D A (lw_W ct hd us op hm qo qa fu au ns n ck n ck th hh a1 a2 a3 a4 a5 a6 a7 a8 a9 b0 b1 b2 b3 b4 b5 b6 b7 b8 b9 b10 og fo ad eu es) := lp_D hW9 hD
  refine lv_istore (lv' := [(5, .int 2), (4, .int (nI iv)), (3, .ref qo), (2, .ref hm), (1, .ref hd), (0, .ref b)]) hx hb d_L_law_732 hl (Nat.le_of_ble_eq_true rfl) rfl (fun ls hl => ?_)
  refine lv_aload_n hx hb d_L_law_734 rfl (lv_at hl 3 rfl) ?_
  refine lv_aload_n hx hb d_L_law_735 rfl (lv_at hl 5 rfl) ?_
  refine lv_iload hx hb d_L_law_736 (lv_at hl 1 rfl) ?_
  refine lv_iconst (v := 1) hx hb d_L_law_738 (by decide) ?_
  refine lv_iadd hx hb d_L_law_739 ?_
  refine sl_ld (j := iv) (d := 1) hx hb hX hbl hbA hS hL (by omega) d_L_law_740 ?_
  refine tp_i (hv1) ?_
  refine lv_aload_n hx hb d_L_law_741 rfl (lv_at hl 5 rfl) ?_
  refine lv_iload hx hb d_L_law_742 (lv_at hl 1 rfl) ?_
  refine lv_iconst (v := 2) hx hb d_L_law_744 (by decide) ?_
  refine lv_iadd hx hb d_L_law_745 ?_
  refine sl_ld (j := iv) (d := 2) hx hb hX hbl hbA hS hL (by omega) d_L_law_746 ?_
  refine tp_i (hv2) ?_
  refine lv_aload_n hx hb d_L_law_747 rfl (lv_at hl 5 rfl) ?_
  refine lv_iload hx hb d_L_law_748 (lv_at hl 1 rfl) ?_
  refine lv_iconst (v := 3) hx hb d_L_law_750 (by decide) ?_
  refine lv_iadd hx hb d_L_law_751 ?_
  refine sl_ld (j := iv) (d := 3) hx hb hX hbl hbA hS hL (by omega) d_L_law_752 ?_
  refine lv_i2l (v := (xs (iv + 3)).toInt64) hx hb d_L_law_753 rfl ?_
  refine lv_bipush (v := 32) hx hb d_L_law_754 (by decide) ?_
  refine lv_lshl (v := ((xs (iv + 3)).toInt64) <<< ((32 : Int32).toInt64 &&& 63)) hx hb d_L_law_756 rfl ?_
  refine lv_aload_n hx hb d_L_law_757 rfl (lv_at hl 5 rfl) ?_
  refine lv_iload hx hb d_L_law_758 (lv_at hl 1 rfl) ?_
  refine lv_iconst (v := 4) hx hb d_L_law_760 (by decide) ?_
  refine lv_iadd hx hb d_L_law_761 ?_
  refine sl_ld (j := iv) (d := 4) hx hb hX hbl hbA hS hL (by omega) d_L_law_762 ?_
  refine lv_i2l (v := (xs (iv + 4)).toInt64) hx hb d_L_law_763 rfl ?_
  refine lv_ldc2 (v := 4294967295) hx hb hown (hw _ ww_884) d_L_law_764 ?_
  refine lv_land hx hb d_L_law_767 ?_
  refine lv_lor hx hb d_L_law_768 ?_
  refine tp_l (rfl) ?_
  have hC9 : List.map (fun i => ((lw_W ct hd us op hm qo qa fu au ns n ck n ck th hh a1 a2 a3 a4 a5 a6 a7 a8 a9 b0 b1 b2 b3 b4 b5 b6 b7 b8 b9 b10 og fo ad eu es) : va_W)[i]?) [0, 12, 13, 20] = List.map some ([(hm, .inr (4, [.int th, .long ns.toInt64, .int ck, .long hh, .ref (qa 1), .ref (qa 2), .ref (qa 3), .ref (qa 4), .ref (qa 5), .ref (qa 6), .ref (qa 7), .ref (qa 8), .int (nI n), .ref (qa 9), .ref (qa 10), .ref (qa 11), .ref (qa 12), .ref (qa 13), .ref (qa 14), .ref (qa 15), .ref (qa 16), .ref (qa 17), .ref (qa 18), .ref (qa 19), .ref (qa 20)])), ((qa 12), .inl ((ct 0), 40, .inl b2)), ((qa 13), .inl ((ct 0), 40, .inl b3)), ((qa 20), .inl ((ct 1), 40, .inr (.inl b10)))] : va_W) := (wc_c rfl (wc_c rfl (wc_c rfl (wc_c rfl rfl))))
  have hn9 : va_nd [0, 12, 13, 20] = true := by decide
  have hPc : va_P G classes [(hm, .inr (4, [.int th, .long ns.toInt64, .int ck, .long hh, .ref (qa 1), .ref (qa 2), .ref (qa 3), .ref (qa 4), .ref (qa 5), .ref (qa 6), .ref (qa 7), .ref (qa 8), .int (nI n), .ref (qa 9), .ref (qa 10), .ref (qa 11), .ref (qa 12), .ref (qa 13), .ref (qa 14), .ref (qa 15), .ref (qa 16), .ref (qa 17), .ref (qa 18), .ref (qa 19), .ref (qa 20)])), ((qa 12), .inl ((ct 0), 40, .inl b2)), ((qa 13), .inl ((ct 0), 40, .inl b3)), ((qa 20), .inl ((ct 1), 40, .inr (.inl b10)))] H := lp_sub hP [0, 12, 13, 20] hC9
  have hDc := hD.sub (ws' := [(hm, .inr (4, [.int th, .long ns.toInt64, .int ck, .long hh, .ref (qa 1), .ref (qa 2), .ref (qa 3), .ref (qa 4), .ref (qa 5), .ref (qa 6), .ref (qa 7), .ref (qa 8), .int (nI n), .ref (qa 9), .ref (qa 10), .ref (qa 11), .ref (qa 12), .ref (qa 13), .ref (qa 14), .ref (qa 15), .ref (qa 16), .ref (qa 17), .ref (qa 18), .ref (qa 19), .ref (qa 20)])), ((qa 12), .inl ((ct 0), 40, .inl b2)), ((qa 13), .inl ((ct 0), 40, .inl b3)), ((qa 20), .inl ((ct 1), 40, .inr (.inl b10)))]) [0, 12, 13, 20] hn9 hC9
  refine wk_i (va_runV (As := [.int (nI k), .int (nI k), .long (lj (xs (iv + 3)) (xs (iv + 4)))]) (rest := []) ⟨hx, hb, hml, hown, hts⟩ (c_M_pass_R2 l G ct H.size hm th ns.toInt64 ck hh (qa 1) (qa 2) (qa 3) (qa 4) (qa 5) (qa 6) (qa 7) (qa 8) (qa 9) (qa 10) (qa 11) (qa 12) (qa 13) (qa 14) (qa 15) (qa 16) (qa 17) (qa 18) (qa 19) (qa 20) n b2 b3 b10 k a (nI k) (lj (xs (iv + 3)) (xs (iv + 4))) m_hn m_hkn m_hst m_hpm m_hpn) (tb_V hw cy_M_pass ww_856 ww_857 ww_858 rfl rfl ⟨Nat.le_of_ble_eq_true rfl, Nat.le_of_ble_eq_true rfl⟩) (wk_preV (ci := 4) (q0 := 0) hPc hK hDc rfl rfl) rfl rfl hl.1 rfl (lv_room (Nat.le_of_ble_eq_true rfl)) d_L_law_769 ⟨by omega, by omega⟩) hP hD hS hA [0, 12, 13, 20] hn9 hC9 (fun _ => by simp only [List.map_cons, List.map_nil]) (fun _ H locs _ hP hD hS => ?_)
  have hW9 : wk_sets ((lw_W ct hd us op hm qo qa fu au ns n ck n ck th hh a1 a2 a3 a4 a5 a6 a7 a8 a9 b0 b1 b2 b3 b4 b5 b6 b7 b8 b9 b10 og fo ad eu es) : va_W) [0, 12, 13, 20] ([(hm, .inr (4, [.int 2, .long ns.toInt64, .int ck, .long hh, .ref (qa 1), .ref (qa 2), .ref (qa 3), .ref (qa 4), .ref (qa 5), .ref (qa 6), .ref (qa 7), .ref (qa 8), .int (nI n), .ref (qa 9), .ref (qa 10), .ref (qa 11), .ref (qa 12), .ref (qa 13), .ref (qa 14), .ref (qa 15), .ref (qa 16), .ref (qa 17), .ref (qa 18), .ref (qa 19), .ref (qa 20)])), ((qa 12), .inl ((ct 0), 40, .inl b2)), ((qa 13), .inl ((ct 0), 40, .inl b3)), ((qa 20), .inl ((ct 1), 40, .inr (.inl b10)))] : va_W) = ((lw_W ct hd us op hm qo qa fu au ns n ck n ck 2 hh a1 a2 a3 a4 a5 a6 a7 a8 a9 b0 b1 b2 b3 b4 b5 b6 b7 b8 b9 b10 og fo ad eu es) : va_W) := (ws_c (ws' := (lw_W ct hd us op hm qo qa fu au ns n ck n ck 2 hh a1 a2 a3 a4 a5 a6 a7 a8 a9 b0 b1 b2 b3 b4 b5 b6 b7 b8 b9 b10 og fo ad eu es)) rfl (ws_k rfl (ws_k rfl (ws_k rfl rfl))))
  have hP : va_P G classes (lw_W ct hd us op hm qo qa fu au ns n ck n ck 2 hh a1 a2 a3 a4 a5 a6 a7 a8 a9 b0 b1 b2 b3 b4 b5 b6 b7 b8 b9 b10 og fo ad eu es) H := lp_P hW9 hP
  have hD : va_D A (lw_W ct hd us op hm qo qa fu au ns n ck n ck 2 hh a1 a2 a3 a4 a5 a6 a7 a8 a9 b0 b1 b2 b3 b4 b5 b6 b7 b8 b9 b10 og fo ad eu es) := lp_D hW9 hD
  refine lv_istore (lv' := [(6, .int 0), (5, .int 2), (4, .int (nI iv)), (3, .ref qo), (2, .ref hm), (1, .ref hd), (0, .ref b)]) hx hb d_L_law_772 hl (Nat.le_of_ble_eq_true rfl) rfl (fun ls hl => ?_)
  refine lv_aload_n hx hb d_L_law_774 rfl (lv_at hl 4 rfl) ?_
  have hPc : va_P G classes [(hm, .inr (4, [.int 2, .long ns.toInt64, .int ck, .long hh, .ref (qa 1), .ref (qa 2), .ref (qa 3), .ref (qa 4), .ref (qa 5), .ref (qa 6), .ref (qa 7), .ref (qa 8), .int (nI n), .ref (qa 9), .ref (qa 10), .ref (qa 11), .ref (qa 12), .ref (qa 13), .ref (qa 14), .ref (qa 15), .ref (qa 16), .ref (qa 17), .ref (qa 18), .ref (qa 19), .ref (qa 20)]))] H := hP.sub [0] rfl
  have hDc := hD.sub (ws' := [(hm, .inr (4, [.int 2, .long ns.toInt64, .int ck, .long hh, .ref (qa 1), .ref (qa 2), .ref (qa 3), .ref (qa 4), .ref (qa 5), .ref (qa 6), .ref (qa 7), .ref (qa 8), .int (nI n), .ref (qa 9), .ref (qa 10), .ref (qa 11), .ref (qa 12), .ref (qa 13), .ref (qa 14), .ref (qa 15), .ref (qa 16), .ref (qa 17), .ref (qa 18), .ref (qa 19), .ref (qa 20)]))]) [0] (by decide) rfl
  refine vp_callSi (W.runV (As := []) (rest := []) ⟨hx, hb, hml, hown, hts⟩ (c_M_thrown l G ct H.size hm 2 ns.toInt64 ck hh (qa 1) (qa 2) (qa 3) (qa 4) (qa 5) (qa 6) (qa 7) (qa 8) (qa 9) (qa 10) (qa 11) (qa 12) (qa 13) (qa 14) (qa 15) (qa 16) (qa 17) (qa 18) (qa 19) (qa 20) n) (tb_V hw cy_M_thrown ww_719 ww_720 ww_721 rfl rfl ⟨Nat.le_of_ble_eq_true rfl, Nat.le_of_ble_eq_true rfl⟩) (wk_preV (ci := 4) (q0 := 0) hPc hK hDc rfl rfl) rfl rfl hl.1 rfl (lv_room (Nat.le_of_ble_eq_true rfl)) d_L_law_775 ⟨by omega, by omega⟩) (fun r1341 er1341 => ?_)
  subst er1341
  refine lv_iload hx hb d_L_law_778 (lv_at hl 1 rfl) ?_
  refine lv_icmp_eq (tgt := 785) hx hb d_L_law_780 (by decide) (fun h1342 => ?_) (fun h1342 => ?_)
  · refine lv_iload hx hb d_L_law_785 (lv_at hl 1 rfl) ?_
    refine lv_if_ne (tgt := 802) hx hb d_L_law_787 (by decide) (fun h1343 => ?_) (fun h1343 => ?_)
    · refine lv_goto (tgt := 1005) hx hb d_L_law_802 (by decide) ?_
      refine W.widen (k := cells + 1) (n := slots + 13) (by omega) (by omega) ?_
      exact kk n ck 2 hh a1 a2 a3 a4 a5 a6 a7 a8 a9 b0 b1 b2 b3 b4 b5 b6 b7 b8 b9 b10 og fo ad eu es H locs _ hnew hP hD hS (lv_sub hl [2, 3, 4, 5, 6] rfl)
    · exact absurd h1343 (by decide)
  · exact absurd h1342 (by decide)
set_option maxHeartbeats 4000000 in
set_option maxRecDepth 100000 in
theorem lq_passC_ZC_R2 {k : Nat} {u : Nat} {sec : Nat} {x : Nat} {y : Nat} {rc : Nat} {c1 : Int64} {c2 : Int64} {zj : Nat} {uz : Nat} {zs : Nat} {zx : Nat} {zy : Nat} {zr : Nat} {zc : Int64} {zd : Int64} {a : Int64} (C0 : lc_C p l s m meth c b L xs G ct A) (hiv : iv + 7 ≤ L) (hcc : cells + 1 ≤ room_1.cells) (hzz : slots + 13 ≤ room_1.slots)
    (hP : va_P G classes (lw_W ct hd us op hm qo qa fu au ns n ck n ck th hh a1 a2 a3 a4 a5 a6 a7 a8 a9 b0 b1 b2 b3 b4 b5 b6 b7 b8 b9 b10 og fo ad eu es) H) (hD : va_D A (lw_W ct hd us op hm qo qa fu au ns n ck n ck th hh a1 a2 a3 a4 a5 a6 a7 a8 a9 b0 b1 b2 b3 b4 b5 b6 b7 b8 b9 b10 og fo ad eu es)) (hS : va_S A s.heap H locs) (hl : lv_has ls 8 [(4, .int (nI iv)), (3, .ref qo), (2, .ref hm), (1, .ref hd), (0, .ref b)])
    (kk : lc_K p l e s m below meth c b L xs G ct A hd us op hm qo qa fu au ns iv (cells + 1) (slots + 13) Q)
    (hv1 : xs (iv + 1) = nI zj) (hv2 : xs (iv + 2) = nI k) (hkn : k < n) (hes : es k = .inr (2, [.ref (au u), .int (b0 k), .long (lN sec), .int (b3 k), .int (b2 k), .long (lN x), .long (lN y), .long (b9 k), .long c1, .long c2, .long (b10 k), .long (b5 k), .long (lN rc)])) (hzn : zj < n) (hez : es zj = .inr (2, [.ref (au uz), .int (b0 zj), .long (lN zs), .int (b3 zj), .int (b2 zj), .long (lN zx), .long (lN zy), .long (b9 zj), .long zc, .long zd, .long (b10 zj), .long (b5 zj), .long (lN zr)])) (hjk : ¬ zj = k) (d_hn : n ≤ 40) (d_hkn : k < n) (d_hfo : fo k = some (ad k)) (d_hs0 : ¬ se_at (b2 k) (b3 k) ck = 0) (d_hs1 : ¬ se_at (b2 k) (b3 k) ck = 1) (d_hzn : zj < n) (d_hzf : fo zj = some (ad zj)) (d_hxr : (b10 zj) ^^^ (lj (xs (iv + 3)) (xs (iv + 4))) = a) (m_hn : n ≤ 40) (m_hkn : k < n) (m_hst : 1 < sm_at (b2 k) (b3 k) ck) (m_hpm : ∀ j, j < n → (nI zj) = nI j → b10 j ^^^ (lj (xs (iv + 3)) (xs (iv + 4))) = a) (m_hpn : ¬ th_in (nI zj) n → (lj (xs (iv + 3)) (xs (iv + 4))) = a)  (hnew : li_R fu au ns n a1 a2 a3 a4 a5 a6 a7 a8 a9 b0 b1 b2 b3 b4 b5 b6 b7 b8 b9 b10 fo ad eu es)  : W p l e room_1 s m #[Value.ref b] below meth c H locs cells slots Q (F0 m 693 ls []) := by
  obtain ⟨hx, hb, hr, hml, hown, hw, hK, hZ, hR, hN, hfl, hA, hbA, hX, hbl, hL, hlocks⟩ := C0
  have hts := hw
  have hP : va_P G classes (lw_W ct hd us op hm qo qa fu au ns n ck n ck th hh a1 a2 a3 a4 a5 a6 a7 a8 a9 b0 b1 b2 b3 b4 b5 b6 b7 b8 b9 b10 og fo ad eu es) H := hP
  have hD : va_D A (lw_W ct hd us op hm qo qa fu au ns n ck n ck th hh a1 a2 a3 a4 a5 a6 a7 a8 a9 b0 b1 b2 b3 b4 b5 b6 b7 b8 b9 b10 og fo ad eu es) := hD
  refine lv_aload_n hx hb d_L_law_693 rfl (lv_at hl 3 rfl) ?_
  refine lv_aload_n hx hb d_L_law_694 rfl (lv_at hl 4 rfl) ?_
  refine lv_iload hx hb d_L_law_695 (lv_at hl 0 rfl) ?_
  refine lv_iconst (v := 1) hx hb d_L_law_697 (by decide) ?_
  refine lv_iadd hx hb d_L_law_698 ?_
  refine sl_ld (j := iv) (d := 1) hx hb hX hbl hbA hS hL (by omega) d_L_law_699 ?_
  refine tp_i (hv1) ?_
  refine lv_aload_n hx hb d_L_law_700 rfl (lv_at hl 4 rfl) ?_
  refine lv_iload hx hb d_L_law_701 (lv_at hl 0 rfl) ?_
  refine lv_iconst (v := 2) hx hb d_L_law_703 (by decide) ?_
  refine lv_iadd hx hb d_L_law_704 ?_
  refine sl_ld (j := iv) (d := 2) hx hb hX hbl hbA hS hL (by omega) d_L_law_705 ?_
  refine tp_i (hv2) ?_
  refine lv_aload_n hx hb d_L_law_706 rfl (lv_at hl 4 rfl) ?_
  refine lv_iload hx hb d_L_law_707 (lv_at hl 0 rfl) ?_
  refine lv_iconst (v := 3) hx hb d_L_law_709 (by decide) ?_
  refine lv_iadd hx hb d_L_law_710 ?_
  refine sl_ld (j := iv) (d := 3) hx hb hX hbl hbA hS hL (by omega) d_L_law_711 ?_
  refine lv_i2l (v := (xs (iv + 3)).toInt64) hx hb d_L_law_712 rfl ?_
  refine lv_bipush (v := 32) hx hb d_L_law_713 (by decide) ?_
  refine lv_lshl (v := ((xs (iv + 3)).toInt64) <<< ((32 : Int32).toInt64 &&& 63)) hx hb d_L_law_715 rfl ?_
  refine lv_aload_n hx hb d_L_law_716 rfl (lv_at hl 4 rfl) ?_
  refine lv_iload hx hb d_L_law_717 (lv_at hl 0 rfl) ?_
  refine lv_iconst (v := 4) hx hb d_L_law_719 (by decide) ?_
  refine lv_iadd hx hb d_L_law_720 ?_
  refine sl_ld (j := iv) (d := 4) hx hb hX hbl hbA hS hL (by omega) d_L_law_721 ?_
  refine lv_i2l (v := (xs (iv + 4)).toInt64) hx hb d_L_law_722 rfl ?_
  refine lv_ldc2 (v := 4294967295) hx hb hown (hw _ ww_884) d_L_law_723 ?_
  refine lv_land hx hb d_L_law_726 ?_
  refine lv_lor hx hb d_L_law_727 ?_
  refine tp_l (rfl) ?_
  refine lv_aload_n hx hb d_L_law_728 rfl (lv_at hl 1 rfl) ?_
  have hC9 : List.map (fun i => ((lw_W ct hd us op hm qo qa fu au ns n ck n ck th hh a1 a2 a3 a4 a5 a6 a7 a8 a9 b0 b1 b2 b3 b4 b5 b6 b7 b8 b9 b10 og fo ad eu es) : va_W)[i]?) [22, 24, 25 + (8 + k), 25 + (8 + zj), 21] = List.map some ([(hd, .inr (0, [.ref us, .ref op, .int (nI n), .int ck])), (op, .inl ((ct 4), 40, .inr (.inr (.inr (.inr fo))))), ((ad k), .inr (2, [.ref (au u), .int (b0 k), .long (lN sec), .int (b3 k), .int (b2 k), .long (lN x), .long (lN y), .long (b9 k), .long c1, .long c2, .long (b10 k), .long (b5 k), .long (lN rc)])), ((ad zj), .inr (2, [.ref (au uz), .int (b0 zj), .long (lN zs), .int (b3 zj), .int (b2 zj), .long (lN zx), .long (lN zy), .long (b9 zj), .long zc, .long zd, .long (b10 zj), .long (b5 zj), .long (lN zr)])), (qo, .inl ((ct 1), 1, .inr (.inl og)))] : va_W) := (wc_c rfl (wc_c rfl (wc_c (lw_s rfl hkn hes) (wc_c (lw_s rfl hzn hez) (wc_c rfl rfl)))))
  have hn9 : va_nd [22, 24, 25 + (8 + k), 25 + (8 + zj), 21] = true := (nd_c (by simp only [List.mem_cons, List.not_mem_nil, or_false]; omega) (nd_c (by simp only [List.mem_cons, List.not_mem_nil, or_false]; omega) (nd_c (by simp only [List.mem_cons, List.not_mem_nil, or_false]; omega) (nd_c (by simp only [List.mem_cons, List.not_mem_nil, or_false]; omega) (nd_c List.not_mem_nil rfl)))))
  have hPc : va_P G classes [(hd, .inr (0, [.ref us, .ref op, .int (nI n), .int ck])), (op, .inl ((ct 4), 40, .inr (.inr (.inr (.inr fo))))), ((ad k), .inr (2, [.ref (au u), .int (b0 k), .long (lN sec), .int (b3 k), .int (b2 k), .long (lN x), .long (lN y), .long (b9 k), .long c1, .long c2, .long (b10 k), .long (b5 k), .long (lN rc)])), ((ad zj), .inr (2, [.ref (au uz), .int (b0 zj), .long (lN zs), .int (b3 zj), .int (b2 zj), .long (lN zx), .long (lN zy), .long (b9 zj), .long zc, .long zd, .long (b10 zj), .long (b5 zj), .long (lN zr)])), (qo, .inl ((ct 1), 1, .inr (.inl og)))] H := lp_sub hP [22, 24, 25 + (8 + k), 25 + (8 + zj), 21] hC9
  have hDc := hD.sub (ws' := [(hd, .inr (0, [.ref us, .ref op, .int (nI n), .int ck])), (op, .inl ((ct 4), 40, .inr (.inr (.inr (.inr fo))))), ((ad k), .inr (2, [.ref (au u), .int (b0 k), .long (lN sec), .int (b3 k), .int (b2 k), .long (lN x), .long (lN y), .long (b9 k), .long c1, .long c2, .long (b10 k), .long (b5 k), .long (lN rc)])), ((ad zj), .inr (2, [.ref (au uz), .int (b0 zj), .long (lN zs), .int (b3 zj), .int (b2 zj), .long (lN zx), .long (lN zy), .long (b9 zj), .long zc, .long zd, .long (b10 zj), .long (b5 zj), .long (lN zr)])), (qo, .inl ((ct 1), 1, .inr (.inl og)))]) [22, 24, 25 + (8 + k), 25 + (8 + zj), 21] hn9 hC9
  have hW9 : wk_sets ((lw_W ct hd us op hm qo qa fu au ns n ck n ck th hh a1 a2 a3 a4 a5 a6 a7 a8 a9 b0 b1 b2 b3 b4 b5 b6 b7 b8 b9 b10 og fo ad eu es) : va_W) [22, 24, 25 + (8 + k), 25 + (8 + zj), 21] ([(hd, .inr (0, [.ref us, .ref op, .int (nI n), .int ck])), (op, .inl ((ct 4), 40, .inr (.inr (.inr (.inr fo))))), ((ad k), .inr (2, [.ref (au u), .int (b0 k), .long (lN sec), .int (b3 k), .int (b2 k), .long (lN x), .long (lN y), .long (b9 k), .long c1, .long c2, .long (b10 k), .long (b5 k), .long (lN rc)])), ((ad zj), .inr (2, [.ref (au uz), .int (b0 zj), .long (lN zs), .int (b3 zj), .int (b2 zj), .long (lN zx), .long (lN zy), .long (b9 zj), .long zc, .long zd, .long (b10 zj), .long (b5 zj), .long (lN zr)])), (qo, .inl ((ct 1), 1, .inr (.inl og)))] : va_W) = ((lw_W ct hd us op hm qo qa fu au ns n ck n ck th hh a1 a2 a3 a4 a5 a6 a7 a8 a9 b0 b1 b2 b3 b4 b5 b6 b7 b8 b9 b10 og fo ad eu es) : va_W) := (ws_k rfl (ws_k rfl (ws_k (lw_s rfl hkn hes) (ws_k (lw_s rfl hzn hez) (ws_k rfl rfl)))))
  refine wk_i (sh_run (As := [.ref hd, .int (nI zj), .int (nI k), .long (lj (xs (iv + 3)) (xs (iv + 4))), .ref qo]) (rest := []) (hs := [(0, 12, 15, 25), (0, 12, 19, 15), (0, 12, 23, 13), (0, 12, 27, 27)]) ⟨hx, hb, hml, hown, hts⟩ (c_L_passC_ZC l hfl G ct H.size hd us op n ck fo k (ad k) (au u) (b0 k) sec (b3 k) (b2 k) x y (b9 k) c1 c2 (b10 k) (b5 k) rc a zj (ad zj) (au uz) (b0 zj) zs (b3 zj) (b2 zj) zx zy (b9 zj) zc zd (b10 zj) (b5 zj) zr (lj (xs (iv + 3)) (xs (iv + 4))) qo og d_hn d_hkn d_hfo d_hs0 d_hs1 d_hzn d_hzf d_hxr) ⟨hw, ww_613, ww_0, ⟨by decide, by decide⟩, np_L_pass, ww_611, ww_612, rfl, rfl, Nat.le_of_ble_eq_true rfl, Nat.le_of_ble_eq_true rfl⟩ (wk_pre5 hPc hK hDc hD hS hA [22, 24, 25 + (8 + k), 25 + (8 + zj), 21] hC9 hZ hR hN) rfl hl.1 rfl (lv_room (Nat.le_of_ble_eq_true rfl)) d_L_law_729 ⟨by omega, by omega⟩) hP hD hS hA [22, 24, 25 + (8 + k), 25 + (8 + zj), 21] hn9 hC9 (fun _ => by simp only [List.map_cons, List.map_nil]) (fun _ H locs _ hP hD hS => ?_)
  have hP : va_P G classes (lw_W ct hd us op hm qo qa fu au ns n ck n ck th hh a1 a2 a3 a4 a5 a6 a7 a8 a9 b0 b1 b2 b3 b4 b5 b6 b7 b8 b9 b10 og fo ad eu es) H := lp_P hW9 hP
  have hD : va_D A (lw_W ct hd us op hm qo qa fu au ns n ck n ck th hh a1 a2 a3 a4 a5 a6 a7 a8 a9 b0 b1 b2 b3 b4 b5 b6 b7 b8 b9 b10 og fo ad eu es) := lp_D hW9 hD
  refine lv_istore (lv' := [(5, .int 2), (4, .int (nI iv)), (3, .ref qo), (2, .ref hm), (1, .ref hd), (0, .ref b)]) hx hb d_L_law_732 hl (Nat.le_of_ble_eq_true rfl) rfl (fun ls hl => ?_)
  refine lv_aload_n hx hb d_L_law_734 rfl (lv_at hl 3 rfl) ?_
  refine lv_aload_n hx hb d_L_law_735 rfl (lv_at hl 5 rfl) ?_
  refine lv_iload hx hb d_L_law_736 (lv_at hl 1 rfl) ?_
  refine lv_iconst (v := 1) hx hb d_L_law_738 (by decide) ?_
  refine lv_iadd hx hb d_L_law_739 ?_
  refine sl_ld (j := iv) (d := 1) hx hb hX hbl hbA hS hL (by omega) d_L_law_740 ?_
  refine tp_i (hv1) ?_
  refine lv_aload_n hx hb d_L_law_741 rfl (lv_at hl 5 rfl) ?_
  refine lv_iload hx hb d_L_law_742 (lv_at hl 1 rfl) ?_
  refine lv_iconst (v := 2) hx hb d_L_law_744 (by decide) ?_
  refine lv_iadd hx hb d_L_law_745 ?_
  refine sl_ld (j := iv) (d := 2) hx hb hX hbl hbA hS hL (by omega) d_L_law_746 ?_
  refine tp_i (hv2) ?_
  refine lv_aload_n hx hb d_L_law_747 rfl (lv_at hl 5 rfl) ?_
  refine lv_iload hx hb d_L_law_748 (lv_at hl 1 rfl) ?_
  refine lv_iconst (v := 3) hx hb d_L_law_750 (by decide) ?_
  refine lv_iadd hx hb d_L_law_751 ?_
  refine sl_ld (j := iv) (d := 3) hx hb hX hbl hbA hS hL (by omega) d_L_law_752 ?_
  refine lv_i2l (v := (xs (iv + 3)).toInt64) hx hb d_L_law_753 rfl ?_
  refine lv_bipush (v := 32) hx hb d_L_law_754 (by decide) ?_
  refine lv_lshl (v := ((xs (iv + 3)).toInt64) <<< ((32 : Int32).toInt64 &&& 63)) hx hb d_L_law_756 rfl ?_
  refine lv_aload_n hx hb d_L_law_757 rfl (lv_at hl 5 rfl) ?_
  refine lv_iload hx hb d_L_law_758 (lv_at hl 1 rfl) ?_
  refine lv_iconst (v := 4) hx hb d_L_law_760 (by decide) ?_
  refine lv_iadd hx hb d_L_law_761 ?_
  refine sl_ld (j := iv) (d := 4) hx hb hX hbl hbA hS hL (by omega) d_L_law_762 ?_
  refine lv_i2l (v := (xs (iv + 4)).toInt64) hx hb d_L_law_763 rfl ?_
  refine lv_ldc2 (v := 4294967295) hx hb hown (hw _ ww_884) d_L_law_764 ?_
  refine lv_land hx hb d_L_law_767 ?_
  refine lv_lor hx hb d_L_law_768 ?_
  refine tp_l (rfl) ?_
  have hC9 : List.map (fun i => ((lw_W ct hd us op hm qo qa fu au ns n ck n ck th hh a1 a2 a3 a4 a5 a6 a7 a8 a9 b0 b1 b2 b3 b4 b5 b6 b7 b8 b9 b10 og fo ad eu es) : va_W)[i]?) [0, 12, 13, 20] = List.map some ([(hm, .inr (4, [.int th, .long ns.toInt64, .int ck, .long hh, .ref (qa 1), .ref (qa 2), .ref (qa 3), .ref (qa 4), .ref (qa 5), .ref (qa 6), .ref (qa 7), .ref (qa 8), .int (nI n), .ref (qa 9), .ref (qa 10), .ref (qa 11), .ref (qa 12), .ref (qa 13), .ref (qa 14), .ref (qa 15), .ref (qa 16), .ref (qa 17), .ref (qa 18), .ref (qa 19), .ref (qa 20)])), ((qa 12), .inl ((ct 0), 40, .inl b2)), ((qa 13), .inl ((ct 0), 40, .inl b3)), ((qa 20), .inl ((ct 1), 40, .inr (.inl b10)))] : va_W) := (wc_c rfl (wc_c rfl (wc_c rfl (wc_c rfl rfl))))
  have hn9 : va_nd [0, 12, 13, 20] = true := by decide
  have hPc : va_P G classes [(hm, .inr (4, [.int th, .long ns.toInt64, .int ck, .long hh, .ref (qa 1), .ref (qa 2), .ref (qa 3), .ref (qa 4), .ref (qa 5), .ref (qa 6), .ref (qa 7), .ref (qa 8), .int (nI n), .ref (qa 9), .ref (qa 10), .ref (qa 11), .ref (qa 12), .ref (qa 13), .ref (qa 14), .ref (qa 15), .ref (qa 16), .ref (qa 17), .ref (qa 18), .ref (qa 19), .ref (qa 20)])), ((qa 12), .inl ((ct 0), 40, .inl b2)), ((qa 13), .inl ((ct 0), 40, .inl b3)), ((qa 20), .inl ((ct 1), 40, .inr (.inl b10)))] H := lp_sub hP [0, 12, 13, 20] hC9
  have hDc := hD.sub (ws' := [(hm, .inr (4, [.int th, .long ns.toInt64, .int ck, .long hh, .ref (qa 1), .ref (qa 2), .ref (qa 3), .ref (qa 4), .ref (qa 5), .ref (qa 6), .ref (qa 7), .ref (qa 8), .int (nI n), .ref (qa 9), .ref (qa 10), .ref (qa 11), .ref (qa 12), .ref (qa 13), .ref (qa 14), .ref (qa 15), .ref (qa 16), .ref (qa 17), .ref (qa 18), .ref (qa 19), .ref (qa 20)])), ((qa 12), .inl ((ct 0), 40, .inl b2)), ((qa 13), .inl ((ct 0), 40, .inl b3)), ((qa 20), .inl ((ct 1), 40, .inr (.inl b10)))]) [0, 12, 13, 20] hn9 hC9
  refine wk_i (va_runV (As := [.int (nI zj), .int (nI k), .long (lj (xs (iv + 3)) (xs (iv + 4)))]) (rest := []) ⟨hx, hb, hml, hown, hts⟩ (c_M_pass_R2 l G ct H.size hm th ns.toInt64 ck hh (qa 1) (qa 2) (qa 3) (qa 4) (qa 5) (qa 6) (qa 7) (qa 8) (qa 9) (qa 10) (qa 11) (qa 12) (qa 13) (qa 14) (qa 15) (qa 16) (qa 17) (qa 18) (qa 19) (qa 20) n b2 b3 b10 k a (nI zj) (lj (xs (iv + 3)) (xs (iv + 4))) m_hn m_hkn m_hst m_hpm m_hpn) (tb_V hw cy_M_pass ww_856 ww_857 ww_858 rfl rfl ⟨Nat.le_of_ble_eq_true rfl, Nat.le_of_ble_eq_true rfl⟩) (wk_preV (ci := 4) (q0 := 0) hPc hK hDc rfl rfl) rfl rfl hl.1 rfl (lv_room (Nat.le_of_ble_eq_true rfl)) d_L_law_769 ⟨by omega, by omega⟩) hP hD hS hA [0, 12, 13, 20] hn9 hC9 (fun _ => by simp only [List.map_cons, List.map_nil]) (fun _ H locs _ hP hD hS => ?_)
  have hW9 : wk_sets ((lw_W ct hd us op hm qo qa fu au ns n ck n ck th hh a1 a2 a3 a4 a5 a6 a7 a8 a9 b0 b1 b2 b3 b4 b5 b6 b7 b8 b9 b10 og fo ad eu es) : va_W) [0, 12, 13, 20] ([(hm, .inr (4, [.int 2, .long ns.toInt64, .int ck, .long hh, .ref (qa 1), .ref (qa 2), .ref (qa 3), .ref (qa 4), .ref (qa 5), .ref (qa 6), .ref (qa 7), .ref (qa 8), .int (nI n), .ref (qa 9), .ref (qa 10), .ref (qa 11), .ref (qa 12), .ref (qa 13), .ref (qa 14), .ref (qa 15), .ref (qa 16), .ref (qa 17), .ref (qa 18), .ref (qa 19), .ref (qa 20)])), ((qa 12), .inl ((ct 0), 40, .inl b2)), ((qa 13), .inl ((ct 0), 40, .inl b3)), ((qa 20), .inl ((ct 1), 40, .inr (.inl b10)))] : va_W) = ((lw_W ct hd us op hm qo qa fu au ns n ck n ck 2 hh a1 a2 a3 a4 a5 a6 a7 a8 a9 b0 b1 b2 b3 b4 b5 b6 b7 b8 b9 b10 og fo ad eu es) : va_W) := (ws_c (ws' := (lw_W ct hd us op hm qo qa fu au ns n ck n ck 2 hh a1 a2 a3 a4 a5 a6 a7 a8 a9 b0 b1 b2 b3 b4 b5 b6 b7 b8 b9 b10 og fo ad eu es)) rfl (ws_k rfl (ws_k rfl (ws_k rfl rfl))))
  have hP : va_P G classes (lw_W ct hd us op hm qo qa fu au ns n ck n ck 2 hh a1 a2 a3 a4 a5 a6 a7 a8 a9 b0 b1 b2 b3 b4 b5 b6 b7 b8 b9 b10 og fo ad eu es) H := lp_P hW9 hP
  have hD : va_D A (lw_W ct hd us op hm qo qa fu au ns n ck n ck 2 hh a1 a2 a3 a4 a5 a6 a7 a8 a9 b0 b1 b2 b3 b4 b5 b6 b7 b8 b9 b10 og fo ad eu es) := lp_D hW9 hD
  refine lv_istore (lv' := [(6, .int 0), (5, .int 2), (4, .int (nI iv)), (3, .ref qo), (2, .ref hm), (1, .ref hd), (0, .ref b)]) hx hb d_L_law_772 hl (Nat.le_of_ble_eq_true rfl) rfl (fun ls hl => ?_)
  refine lv_aload_n hx hb d_L_law_774 rfl (lv_at hl 4 rfl) ?_
  have hPc : va_P G classes [(hm, .inr (4, [.int 2, .long ns.toInt64, .int ck, .long hh, .ref (qa 1), .ref (qa 2), .ref (qa 3), .ref (qa 4), .ref (qa 5), .ref (qa 6), .ref (qa 7), .ref (qa 8), .int (nI n), .ref (qa 9), .ref (qa 10), .ref (qa 11), .ref (qa 12), .ref (qa 13), .ref (qa 14), .ref (qa 15), .ref (qa 16), .ref (qa 17), .ref (qa 18), .ref (qa 19), .ref (qa 20)]))] H := hP.sub [0] rfl
  have hDc := hD.sub (ws' := [(hm, .inr (4, [.int 2, .long ns.toInt64, .int ck, .long hh, .ref (qa 1), .ref (qa 2), .ref (qa 3), .ref (qa 4), .ref (qa 5), .ref (qa 6), .ref (qa 7), .ref (qa 8), .int (nI n), .ref (qa 9), .ref (qa 10), .ref (qa 11), .ref (qa 12), .ref (qa 13), .ref (qa 14), .ref (qa 15), .ref (qa 16), .ref (qa 17), .ref (qa 18), .ref (qa 19), .ref (qa 20)]))]) [0] (by decide) rfl
  refine vp_callSi (W.runV (As := []) (rest := []) ⟨hx, hb, hml, hown, hts⟩ (c_M_thrown l G ct H.size hm 2 ns.toInt64 ck hh (qa 1) (qa 2) (qa 3) (qa 4) (qa 5) (qa 6) (qa 7) (qa 8) (qa 9) (qa 10) (qa 11) (qa 12) (qa 13) (qa 14) (qa 15) (qa 16) (qa 17) (qa 18) (qa 19) (qa 20) n) (tb_V hw cy_M_thrown ww_719 ww_720 ww_721 rfl rfl ⟨Nat.le_of_ble_eq_true rfl, Nat.le_of_ble_eq_true rfl⟩) (wk_preV (ci := 4) (q0 := 0) hPc hK hDc rfl rfl) rfl rfl hl.1 rfl (lv_room (Nat.le_of_ble_eq_true rfl)) d_L_law_775 ⟨by omega, by omega⟩) (fun r1344 er1344 => ?_)
  subst er1344
  refine lv_iload hx hb d_L_law_778 (lv_at hl 1 rfl) ?_
  refine lv_icmp_eq (tgt := 785) hx hb d_L_law_780 (by decide) (fun h1345 => ?_) (fun h1345 => ?_)
  · refine lv_iload hx hb d_L_law_785 (lv_at hl 1 rfl) ?_
    refine lv_if_ne (tgt := 802) hx hb d_L_law_787 (by decide) (fun h1346 => ?_) (fun h1346 => ?_)
    · refine lv_goto (tgt := 1005) hx hb d_L_law_802 (by decide) ?_
      refine W.widen (k := cells + 1) (n := slots + 13) (by omega) (by omega) ?_
      exact kk n ck 2 hh a1 a2 a3 a4 a5 a6 a7 a8 a9 b0 b1 b2 b3 b4 b5 b6 b7 b8 b9 b10 og fo ad eu es H locs _ hnew hP hD hS (lv_sub hl [2, 3, 4, 5, 6] rfl)
    · exact absurd h1346 (by decide)
  · exact absurd h1345 (by decide)
set_option maxHeartbeats 4000000 in
set_option maxRecDepth 100000 in
theorem lq_passV_ZC_R2 {k : Nat} {u : Nat} {sec : Nat} {x : Nat} {y : Nat} {rc : Nat} {c1 : Int64} {c2 : Int64} {zj : Nat} {uz : Nat} {zs : Nat} {zx : Nat} {zy : Nat} {zr : Nat} {zc : Int64} {zd : Int64} {a : Int64} (C0 : lc_C p l s m meth c b L xs G ct A) (hiv : iv + 7 ≤ L) (hcc : cells + 1 ≤ room_1.cells) (hzz : slots + 13 ≤ room_1.slots)
    (hP : va_P G classes (lw_W ct hd us op hm qo qa fu au ns n ck n ck th hh a1 a2 a3 a4 a5 a6 a7 a8 a9 b0 b1 b2 b3 b4 b5 b6 b7 b8 b9 b10 og fo ad eu es) H) (hD : va_D A (lw_W ct hd us op hm qo qa fu au ns n ck n ck th hh a1 a2 a3 a4 a5 a6 a7 a8 a9 b0 b1 b2 b3 b4 b5 b6 b7 b8 b9 b10 og fo ad eu es)) (hS : va_S A s.heap H locs) (hl : lv_has ls 8 [(4, .int (nI iv)), (3, .ref qo), (2, .ref hm), (1, .ref hd), (0, .ref b)])
    (kk : lc_K p l e s m below meth c b L xs G ct A hd us op hm qo qa fu au ns iv (cells + 1) (slots + 13) Q)
    (hv1 : xs (iv + 1) = nI zj) (hv2 : xs (iv + 2) = nI k) (hkn : k < n) (hes : es k = .inr (2, [.ref (au u), .int (b0 k), .long (lN sec), .int (b3 k), .int (b2 k), .long (lN x), .long (lN y), .long (b9 k), .long c1, .long c2, .long (b10 k), .long (b5 k), .long (lN rc)])) (hzn : zj < n) (hez : es zj = .inr (3, [.ref (au uz), .int (b0 zj), .long (lN zs), .int (b3 zj), .int (b2 zj), .long (lN zx), .long (lN zy), .long (b9 zj), .long zc, .long zd, .long (b10 zj), .long (lN zr)])) (hjk : ¬ zj = k) (d_hn : n ≤ 40) (d_hkn : k < n) (d_hfo : fo k = some (ad k)) (d_hs0 : ¬ se_at (b2 k) (b3 k) ck = 0) (d_hs1 : ¬ se_at (b2 k) (b3 k) ck = 1) (d_hzn : zj < n) (d_hzf : fo zj = some (ad zj)) (d_hxr : (b10 zj) ^^^ (lj (xs (iv + 3)) (xs (iv + 4))) = a) (m_hn : n ≤ 40) (m_hkn : k < n) (m_hst : 1 < sm_at (b2 k) (b3 k) ck) (m_hpm : ∀ j, j < n → (nI zj) = nI j → b10 j ^^^ (lj (xs (iv + 3)) (xs (iv + 4))) = a) (m_hpn : ¬ th_in (nI zj) n → (lj (xs (iv + 3)) (xs (iv + 4))) = a)  (hnew : li_R fu au ns n a1 a2 a3 a4 a5 a6 a7 a8 a9 b0 b1 b2 b3 b4 b5 b6 b7 b8 b9 b10 fo ad eu es)  : W p l e room_1 s m #[Value.ref b] below meth c H locs cells slots Q (F0 m 693 ls []) := by
  obtain ⟨hx, hb, hr, hml, hown, hw, hK, hZ, hR, hN, hfl, hA, hbA, hX, hbl, hL, hlocks⟩ := C0
  have hts := hw
  have hP : va_P G classes (lw_W ct hd us op hm qo qa fu au ns n ck n ck th hh a1 a2 a3 a4 a5 a6 a7 a8 a9 b0 b1 b2 b3 b4 b5 b6 b7 b8 b9 b10 og fo ad eu es) H := hP
  have hD : va_D A (lw_W ct hd us op hm qo qa fu au ns n ck n ck th hh a1 a2 a3 a4 a5 a6 a7 a8 a9 b0 b1 b2 b3 b4 b5 b6 b7 b8 b9 b10 og fo ad eu es) := hD
  refine lv_aload_n hx hb d_L_law_693 rfl (lv_at hl 3 rfl) ?_
  refine lv_aload_n hx hb d_L_law_694 rfl (lv_at hl 4 rfl) ?_
  refine lv_iload hx hb d_L_law_695 (lv_at hl 0 rfl) ?_
  refine lv_iconst (v := 1) hx hb d_L_law_697 (by decide) ?_
  refine lv_iadd hx hb d_L_law_698 ?_
  refine sl_ld (j := iv) (d := 1) hx hb hX hbl hbA hS hL (by omega) d_L_law_699 ?_
  refine tp_i (hv1) ?_
  refine lv_aload_n hx hb d_L_law_700 rfl (lv_at hl 4 rfl) ?_
  refine lv_iload hx hb d_L_law_701 (lv_at hl 0 rfl) ?_
  refine lv_iconst (v := 2) hx hb d_L_law_703 (by decide) ?_
  refine lv_iadd hx hb d_L_law_704 ?_
  refine sl_ld (j := iv) (d := 2) hx hb hX hbl hbA hS hL (by omega) d_L_law_705 ?_
  refine tp_i (hv2) ?_
  refine lv_aload_n hx hb d_L_law_706 rfl (lv_at hl 4 rfl) ?_
  refine lv_iload hx hb d_L_law_707 (lv_at hl 0 rfl) ?_
  refine lv_iconst (v := 3) hx hb d_L_law_709 (by decide) ?_
  refine lv_iadd hx hb d_L_law_710 ?_
  refine sl_ld (j := iv) (d := 3) hx hb hX hbl hbA hS hL (by omega) d_L_law_711 ?_
  refine lv_i2l (v := (xs (iv + 3)).toInt64) hx hb d_L_law_712 rfl ?_
  refine lv_bipush (v := 32) hx hb d_L_law_713 (by decide) ?_
  refine lv_lshl (v := ((xs (iv + 3)).toInt64) <<< ((32 : Int32).toInt64 &&& 63)) hx hb d_L_law_715 rfl ?_
  refine lv_aload_n hx hb d_L_law_716 rfl (lv_at hl 4 rfl) ?_
  refine lv_iload hx hb d_L_law_717 (lv_at hl 0 rfl) ?_
  refine lv_iconst (v := 4) hx hb d_L_law_719 (by decide) ?_
  refine lv_iadd hx hb d_L_law_720 ?_
  refine sl_ld (j := iv) (d := 4) hx hb hX hbl hbA hS hL (by omega) d_L_law_721 ?_
  refine lv_i2l (v := (xs (iv + 4)).toInt64) hx hb d_L_law_722 rfl ?_
  refine lv_ldc2 (v := 4294967295) hx hb hown (hw _ ww_884) d_L_law_723 ?_
  refine lv_land hx hb d_L_law_726 ?_
  refine lv_lor hx hb d_L_law_727 ?_
  refine tp_l (rfl) ?_
  refine lv_aload_n hx hb d_L_law_728 rfl (lv_at hl 1 rfl) ?_
  have hC9 : List.map (fun i => ((lw_W ct hd us op hm qo qa fu au ns n ck n ck th hh a1 a2 a3 a4 a5 a6 a7 a8 a9 b0 b1 b2 b3 b4 b5 b6 b7 b8 b9 b10 og fo ad eu es) : va_W)[i]?) [22, 24, 25 + (8 + k), 25 + (8 + zj), 21] = List.map some ([(hd, .inr (0, [.ref us, .ref op, .int (nI n), .int ck])), (op, .inl ((ct 4), 40, .inr (.inr (.inr (.inr fo))))), ((ad k), .inr (2, [.ref (au u), .int (b0 k), .long (lN sec), .int (b3 k), .int (b2 k), .long (lN x), .long (lN y), .long (b9 k), .long c1, .long c2, .long (b10 k), .long (b5 k), .long (lN rc)])), ((ad zj), .inr (3, [.ref (au uz), .int (b0 zj), .long (lN zs), .int (b3 zj), .int (b2 zj), .long (lN zx), .long (lN zy), .long (b9 zj), .long zc, .long zd, .long (b10 zj), .long (lN zr)])), (qo, .inl ((ct 1), 1, .inr (.inl og)))] : va_W) := (wc_c rfl (wc_c rfl (wc_c (lw_s rfl hkn hes) (wc_c (lw_s rfl hzn hez) (wc_c rfl rfl)))))
  have hn9 : va_nd [22, 24, 25 + (8 + k), 25 + (8 + zj), 21] = true := (nd_c (by simp only [List.mem_cons, List.not_mem_nil, or_false]; omega) (nd_c (by simp only [List.mem_cons, List.not_mem_nil, or_false]; omega) (nd_c (by simp only [List.mem_cons, List.not_mem_nil, or_false]; omega) (nd_c (by simp only [List.mem_cons, List.not_mem_nil, or_false]; omega) (nd_c List.not_mem_nil rfl)))))
  have hPc : va_P G classes [(hd, .inr (0, [.ref us, .ref op, .int (nI n), .int ck])), (op, .inl ((ct 4), 40, .inr (.inr (.inr (.inr fo))))), ((ad k), .inr (2, [.ref (au u), .int (b0 k), .long (lN sec), .int (b3 k), .int (b2 k), .long (lN x), .long (lN y), .long (b9 k), .long c1, .long c2, .long (b10 k), .long (b5 k), .long (lN rc)])), ((ad zj), .inr (3, [.ref (au uz), .int (b0 zj), .long (lN zs), .int (b3 zj), .int (b2 zj), .long (lN zx), .long (lN zy), .long (b9 zj), .long zc, .long zd, .long (b10 zj), .long (lN zr)])), (qo, .inl ((ct 1), 1, .inr (.inl og)))] H := lp_sub hP [22, 24, 25 + (8 + k), 25 + (8 + zj), 21] hC9
  have hDc := hD.sub (ws' := [(hd, .inr (0, [.ref us, .ref op, .int (nI n), .int ck])), (op, .inl ((ct 4), 40, .inr (.inr (.inr (.inr fo))))), ((ad k), .inr (2, [.ref (au u), .int (b0 k), .long (lN sec), .int (b3 k), .int (b2 k), .long (lN x), .long (lN y), .long (b9 k), .long c1, .long c2, .long (b10 k), .long (b5 k), .long (lN rc)])), ((ad zj), .inr (3, [.ref (au uz), .int (b0 zj), .long (lN zs), .int (b3 zj), .int (b2 zj), .long (lN zx), .long (lN zy), .long (b9 zj), .long zc, .long zd, .long (b10 zj), .long (lN zr)])), (qo, .inl ((ct 1), 1, .inr (.inl og)))]) [22, 24, 25 + (8 + k), 25 + (8 + zj), 21] hn9 hC9
  have hW9 : wk_sets ((lw_W ct hd us op hm qo qa fu au ns n ck n ck th hh a1 a2 a3 a4 a5 a6 a7 a8 a9 b0 b1 b2 b3 b4 b5 b6 b7 b8 b9 b10 og fo ad eu es) : va_W) [22, 24, 25 + (8 + k), 25 + (8 + zj), 21] ([(hd, .inr (0, [.ref us, .ref op, .int (nI n), .int ck])), (op, .inl ((ct 4), 40, .inr (.inr (.inr (.inr fo))))), ((ad k), .inr (2, [.ref (au u), .int (b0 k), .long (lN sec), .int (b3 k), .int (b2 k), .long (lN x), .long (lN y), .long (b9 k), .long c1, .long c2, .long (b10 k), .long (b5 k), .long (lN rc)])), ((ad zj), .inr (3, [.ref (au uz), .int (b0 zj), .long (lN zs), .int (b3 zj), .int (b2 zj), .long (lN zx), .long (lN zy), .long (b9 zj), .long zc, .long zd, .long (b10 zj), .long (lN zr)])), (qo, .inl ((ct 1), 1, .inr (.inl og)))] : va_W) = ((lw_W ct hd us op hm qo qa fu au ns n ck n ck th hh a1 a2 a3 a4 a5 a6 a7 a8 a9 b0 b1 b2 b3 b4 b5 b6 b7 b8 b9 b10 og fo ad eu es) : va_W) := (ws_k rfl (ws_k rfl (ws_k (lw_s rfl hkn hes) (ws_k (lw_s rfl hzn hez) (ws_k rfl rfl)))))
  refine wk_i (sh_run (As := [.ref hd, .int (nI zj), .int (nI k), .long (lj (xs (iv + 3)) (xs (iv + 4))), .ref qo]) (rest := []) (hs := [(0, 12, 15, 25), (0, 12, 19, 15), (0, 12, 23, 13), (0, 12, 27, 27)]) ⟨hx, hb, hml, hown, hts⟩ (c_L_passV_ZC l hfl G ct H.size hd us op n ck fo k (ad k) (au u) (b0 k) sec (b3 k) (b2 k) x y (b9 k) c1 c2 (b10 k) (b5 k) rc a zj (ad zj) (au uz) (b0 zj) zs (b3 zj) (b2 zj) zx zy (b9 zj) zc zd (b10 zj) zr (lj (xs (iv + 3)) (xs (iv + 4))) qo og d_hn d_hkn d_hfo d_hs0 d_hs1 d_hzn d_hzf d_hxr) ⟨hw, ww_613, ww_0, ⟨by decide, by decide⟩, np_L_pass, ww_611, ww_612, rfl, rfl, Nat.le_of_ble_eq_true rfl, Nat.le_of_ble_eq_true rfl⟩ (wk_pre5 hPc hK hDc hD hS hA [22, 24, 25 + (8 + k), 25 + (8 + zj), 21] hC9 hZ hR hN) rfl hl.1 rfl (lv_room (Nat.le_of_ble_eq_true rfl)) d_L_law_729 ⟨by omega, by omega⟩) hP hD hS hA [22, 24, 25 + (8 + k), 25 + (8 + zj), 21] hn9 hC9 (fun _ => by simp only [List.map_cons, List.map_nil]) (fun _ H locs _ hP hD hS => ?_)
  have hP : va_P G classes (lw_W ct hd us op hm qo qa fu au ns n ck n ck th hh a1 a2 a3 a4 a5 a6 a7 a8 a9 b0 b1 b2 b3 b4 b5 b6 b7 b8 b9 b10 og fo ad eu es) H := lp_P hW9 hP
  have hD : va_D A (lw_W ct hd us op hm qo qa fu au ns n ck n ck th hh a1 a2 a3 a4 a5 a6 a7 a8 a9 b0 b1 b2 b3 b4 b5 b6 b7 b8 b9 b10 og fo ad eu es) := lp_D hW9 hD
  refine lv_istore (lv' := [(5, .int 2), (4, .int (nI iv)), (3, .ref qo), (2, .ref hm), (1, .ref hd), (0, .ref b)]) hx hb d_L_law_732 hl (Nat.le_of_ble_eq_true rfl) rfl (fun ls hl => ?_)
  refine lv_aload_n hx hb d_L_law_734 rfl (lv_at hl 3 rfl) ?_
  refine lv_aload_n hx hb d_L_law_735 rfl (lv_at hl 5 rfl) ?_
  refine lv_iload hx hb d_L_law_736 (lv_at hl 1 rfl) ?_
  refine lv_iconst (v := 1) hx hb d_L_law_738 (by decide) ?_
  refine lv_iadd hx hb d_L_law_739 ?_
  refine sl_ld (j := iv) (d := 1) hx hb hX hbl hbA hS hL (by omega) d_L_law_740 ?_
  refine tp_i (hv1) ?_
  refine lv_aload_n hx hb d_L_law_741 rfl (lv_at hl 5 rfl) ?_
  refine lv_iload hx hb d_L_law_742 (lv_at hl 1 rfl) ?_
  refine lv_iconst (v := 2) hx hb d_L_law_744 (by decide) ?_
  refine lv_iadd hx hb d_L_law_745 ?_
  refine sl_ld (j := iv) (d := 2) hx hb hX hbl hbA hS hL (by omega) d_L_law_746 ?_
  refine tp_i (hv2) ?_
  refine lv_aload_n hx hb d_L_law_747 rfl (lv_at hl 5 rfl) ?_
  refine lv_iload hx hb d_L_law_748 (lv_at hl 1 rfl) ?_
  refine lv_iconst (v := 3) hx hb d_L_law_750 (by decide) ?_
  refine lv_iadd hx hb d_L_law_751 ?_
  refine sl_ld (j := iv) (d := 3) hx hb hX hbl hbA hS hL (by omega) d_L_law_752 ?_
  refine lv_i2l (v := (xs (iv + 3)).toInt64) hx hb d_L_law_753 rfl ?_
  refine lv_bipush (v := 32) hx hb d_L_law_754 (by decide) ?_
  refine lv_lshl (v := ((xs (iv + 3)).toInt64) <<< ((32 : Int32).toInt64 &&& 63)) hx hb d_L_law_756 rfl ?_
  refine lv_aload_n hx hb d_L_law_757 rfl (lv_at hl 5 rfl) ?_
  refine lv_iload hx hb d_L_law_758 (lv_at hl 1 rfl) ?_
  refine lv_iconst (v := 4) hx hb d_L_law_760 (by decide) ?_
  refine lv_iadd hx hb d_L_law_761 ?_
  refine sl_ld (j := iv) (d := 4) hx hb hX hbl hbA hS hL (by omega) d_L_law_762 ?_
  refine lv_i2l (v := (xs (iv + 4)).toInt64) hx hb d_L_law_763 rfl ?_
  refine lv_ldc2 (v := 4294967295) hx hb hown (hw _ ww_884) d_L_law_764 ?_
  refine lv_land hx hb d_L_law_767 ?_
  refine lv_lor hx hb d_L_law_768 ?_
  refine tp_l (rfl) ?_
  have hC9 : List.map (fun i => ((lw_W ct hd us op hm qo qa fu au ns n ck n ck th hh a1 a2 a3 a4 a5 a6 a7 a8 a9 b0 b1 b2 b3 b4 b5 b6 b7 b8 b9 b10 og fo ad eu es) : va_W)[i]?) [0, 12, 13, 20] = List.map some ([(hm, .inr (4, [.int th, .long ns.toInt64, .int ck, .long hh, .ref (qa 1), .ref (qa 2), .ref (qa 3), .ref (qa 4), .ref (qa 5), .ref (qa 6), .ref (qa 7), .ref (qa 8), .int (nI n), .ref (qa 9), .ref (qa 10), .ref (qa 11), .ref (qa 12), .ref (qa 13), .ref (qa 14), .ref (qa 15), .ref (qa 16), .ref (qa 17), .ref (qa 18), .ref (qa 19), .ref (qa 20)])), ((qa 12), .inl ((ct 0), 40, .inl b2)), ((qa 13), .inl ((ct 0), 40, .inl b3)), ((qa 20), .inl ((ct 1), 40, .inr (.inl b10)))] : va_W) := (wc_c rfl (wc_c rfl (wc_c rfl (wc_c rfl rfl))))
  have hn9 : va_nd [0, 12, 13, 20] = true := by decide
  have hPc : va_P G classes [(hm, .inr (4, [.int th, .long ns.toInt64, .int ck, .long hh, .ref (qa 1), .ref (qa 2), .ref (qa 3), .ref (qa 4), .ref (qa 5), .ref (qa 6), .ref (qa 7), .ref (qa 8), .int (nI n), .ref (qa 9), .ref (qa 10), .ref (qa 11), .ref (qa 12), .ref (qa 13), .ref (qa 14), .ref (qa 15), .ref (qa 16), .ref (qa 17), .ref (qa 18), .ref (qa 19), .ref (qa 20)])), ((qa 12), .inl ((ct 0), 40, .inl b2)), ((qa 13), .inl ((ct 0), 40, .inl b3)), ((qa 20), .inl ((ct 1), 40, .inr (.inl b10)))] H := lp_sub hP [0, 12, 13, 20] hC9
  have hDc := hD.sub (ws' := [(hm, .inr (4, [.int th, .long ns.toInt64, .int ck, .long hh, .ref (qa 1), .ref (qa 2), .ref (qa 3), .ref (qa 4), .ref (qa 5), .ref (qa 6), .ref (qa 7), .ref (qa 8), .int (nI n), .ref (qa 9), .ref (qa 10), .ref (qa 11), .ref (qa 12), .ref (qa 13), .ref (qa 14), .ref (qa 15), .ref (qa 16), .ref (qa 17), .ref (qa 18), .ref (qa 19), .ref (qa 20)])), ((qa 12), .inl ((ct 0), 40, .inl b2)), ((qa 13), .inl ((ct 0), 40, .inl b3)), ((qa 20), .inl ((ct 1), 40, .inr (.inl b10)))]) [0, 12, 13, 20] hn9 hC9
  refine wk_i (va_runV (As := [.int (nI zj), .int (nI k), .long (lj (xs (iv + 3)) (xs (iv + 4)))]) (rest := []) ⟨hx, hb, hml, hown, hts⟩ (c_M_pass_R2 l G ct H.size hm th ns.toInt64 ck hh (qa 1) (qa 2) (qa 3) (qa 4) (qa 5) (qa 6) (qa 7) (qa 8) (qa 9) (qa 10) (qa 11) (qa 12) (qa 13) (qa 14) (qa 15) (qa 16) (qa 17) (qa 18) (qa 19) (qa 20) n b2 b3 b10 k a (nI zj) (lj (xs (iv + 3)) (xs (iv + 4))) m_hn m_hkn m_hst m_hpm m_hpn) (tb_V hw cy_M_pass ww_856 ww_857 ww_858 rfl rfl ⟨Nat.le_of_ble_eq_true rfl, Nat.le_of_ble_eq_true rfl⟩) (wk_preV (ci := 4) (q0 := 0) hPc hK hDc rfl rfl) rfl rfl hl.1 rfl (lv_room (Nat.le_of_ble_eq_true rfl)) d_L_law_769 ⟨by omega, by omega⟩) hP hD hS hA [0, 12, 13, 20] hn9 hC9 (fun _ => by simp only [List.map_cons, List.map_nil]) (fun _ H locs _ hP hD hS => ?_)
  have hW9 : wk_sets ((lw_W ct hd us op hm qo qa fu au ns n ck n ck th hh a1 a2 a3 a4 a5 a6 a7 a8 a9 b0 b1 b2 b3 b4 b5 b6 b7 b8 b9 b10 og fo ad eu es) : va_W) [0, 12, 13, 20] ([(hm, .inr (4, [.int 2, .long ns.toInt64, .int ck, .long hh, .ref (qa 1), .ref (qa 2), .ref (qa 3), .ref (qa 4), .ref (qa 5), .ref (qa 6), .ref (qa 7), .ref (qa 8), .int (nI n), .ref (qa 9), .ref (qa 10), .ref (qa 11), .ref (qa 12), .ref (qa 13), .ref (qa 14), .ref (qa 15), .ref (qa 16), .ref (qa 17), .ref (qa 18), .ref (qa 19), .ref (qa 20)])), ((qa 12), .inl ((ct 0), 40, .inl b2)), ((qa 13), .inl ((ct 0), 40, .inl b3)), ((qa 20), .inl ((ct 1), 40, .inr (.inl b10)))] : va_W) = ((lw_W ct hd us op hm qo qa fu au ns n ck n ck 2 hh a1 a2 a3 a4 a5 a6 a7 a8 a9 b0 b1 b2 b3 b4 b5 b6 b7 b8 b9 b10 og fo ad eu es) : va_W) := (ws_c (ws' := (lw_W ct hd us op hm qo qa fu au ns n ck n ck 2 hh a1 a2 a3 a4 a5 a6 a7 a8 a9 b0 b1 b2 b3 b4 b5 b6 b7 b8 b9 b10 og fo ad eu es)) rfl (ws_k rfl (ws_k rfl (ws_k rfl rfl))))
  have hP : va_P G classes (lw_W ct hd us op hm qo qa fu au ns n ck n ck 2 hh a1 a2 a3 a4 a5 a6 a7 a8 a9 b0 b1 b2 b3 b4 b5 b6 b7 b8 b9 b10 og fo ad eu es) H := lp_P hW9 hP
  have hD : va_D A (lw_W ct hd us op hm qo qa fu au ns n ck n ck 2 hh a1 a2 a3 a4 a5 a6 a7 a8 a9 b0 b1 b2 b3 b4 b5 b6 b7 b8 b9 b10 og fo ad eu es) := lp_D hW9 hD
  refine lv_istore (lv' := [(6, .int 0), (5, .int 2), (4, .int (nI iv)), (3, .ref qo), (2, .ref hm), (1, .ref hd), (0, .ref b)]) hx hb d_L_law_772 hl (Nat.le_of_ble_eq_true rfl) rfl (fun ls hl => ?_)
  refine lv_aload_n hx hb d_L_law_774 rfl (lv_at hl 4 rfl) ?_
  have hPc : va_P G classes [(hm, .inr (4, [.int 2, .long ns.toInt64, .int ck, .long hh, .ref (qa 1), .ref (qa 2), .ref (qa 3), .ref (qa 4), .ref (qa 5), .ref (qa 6), .ref (qa 7), .ref (qa 8), .int (nI n), .ref (qa 9), .ref (qa 10), .ref (qa 11), .ref (qa 12), .ref (qa 13), .ref (qa 14), .ref (qa 15), .ref (qa 16), .ref (qa 17), .ref (qa 18), .ref (qa 19), .ref (qa 20)]))] H := hP.sub [0] rfl
  have hDc := hD.sub (ws' := [(hm, .inr (4, [.int 2, .long ns.toInt64, .int ck, .long hh, .ref (qa 1), .ref (qa 2), .ref (qa 3), .ref (qa 4), .ref (qa 5), .ref (qa 6), .ref (qa 7), .ref (qa 8), .int (nI n), .ref (qa 9), .ref (qa 10), .ref (qa 11), .ref (qa 12), .ref (qa 13), .ref (qa 14), .ref (qa 15), .ref (qa 16), .ref (qa 17), .ref (qa 18), .ref (qa 19), .ref (qa 20)]))]) [0] (by decide) rfl
  refine vp_callSi (W.runV (As := []) (rest := []) ⟨hx, hb, hml, hown, hts⟩ (c_M_thrown l G ct H.size hm 2 ns.toInt64 ck hh (qa 1) (qa 2) (qa 3) (qa 4) (qa 5) (qa 6) (qa 7) (qa 8) (qa 9) (qa 10) (qa 11) (qa 12) (qa 13) (qa 14) (qa 15) (qa 16) (qa 17) (qa 18) (qa 19) (qa 20) n) (tb_V hw cy_M_thrown ww_719 ww_720 ww_721 rfl rfl ⟨Nat.le_of_ble_eq_true rfl, Nat.le_of_ble_eq_true rfl⟩) (wk_preV (ci := 4) (q0 := 0) hPc hK hDc rfl rfl) rfl rfl hl.1 rfl (lv_room (Nat.le_of_ble_eq_true rfl)) d_L_law_775 ⟨by omega, by omega⟩) (fun r1347 er1347 => ?_)
  subst er1347
  refine lv_iload hx hb d_L_law_778 (lv_at hl 1 rfl) ?_
  refine lv_icmp_eq (tgt := 785) hx hb d_L_law_780 (by decide) (fun h1348 => ?_) (fun h1348 => ?_)
  · refine lv_iload hx hb d_L_law_785 (lv_at hl 1 rfl) ?_
    refine lv_if_ne (tgt := 802) hx hb d_L_law_787 (by decide) (fun h1349 => ?_) (fun h1349 => ?_)
    · refine lv_goto (tgt := 1005) hx hb d_L_law_802 (by decide) ?_
      refine W.widen (k := cells + 1) (n := slots + 13) (by omega) (by omega) ?_
      exact kk n ck 2 hh a1 a2 a3 a4 a5 a6 a7 a8 a9 b0 b1 b2 b3 b4 b5 b6 b7 b8 b9 b10 og fo ad eu es H locs _ hnew hP hD hS (lv_sub hl [2, 3, 4, 5, 6] rfl)
    · exact absurd h1349 (by decide)
  · exact absurd h1348 (by decide)
set_option maxHeartbeats 4000000 in
set_option maxRecDepth 100000 in
theorem lq_passN_ZV_R2 {k : Nat} {u : Nat} {sec : Nat} {x : Nat} {y : Nat} {rc : Nat} {c1 : Int64} {c2 : Int64} {a : Int64} (C0 : lc_C p l s m meth c b L xs G ct A) (hiv : iv + 7 ≤ L) (hcc : cells + 1 ≤ room_1.cells) (hzz : slots + 13 ≤ room_1.slots)
    (hP : va_P G classes (lw_W ct hd us op hm qo qa fu au ns n ck n ck th hh a1 a2 a3 a4 a5 a6 a7 a8 a9 b0 b1 b2 b3 b4 b5 b6 b7 b8 b9 b10 og fo ad eu es) H) (hD : va_D A (lw_W ct hd us op hm qo qa fu au ns n ck n ck th hh a1 a2 a3 a4 a5 a6 a7 a8 a9 b0 b1 b2 b3 b4 b5 b6 b7 b8 b9 b10 og fo ad eu es)) (hS : va_S A s.heap H locs) (hl : lv_has ls 8 [(4, .int (nI iv)), (3, .ref qo), (2, .ref hm), (1, .ref hd), (0, .ref b)])
    (kk : lc_K p l e s m below meth c b L xs G ct A hd us op hm qo qa fu au ns iv (cells + 1) (slots + 13) Q)
    (hv2 : xs (iv + 2) = nI k) (hkn : k < n) (hes : es k = .inr (3, [.ref (au u), .int (b0 k), .long (lN sec), .int (b3 k), .int (b2 k), .long (lN x), .long (lN y), .long (b9 k), .long c1, .long c2, .long (b10 k), .long (lN rc)])) (d_hn : n ≤ 40) (d_hkn : k < n) (d_hfo : fo k = some (ad k)) (d_hs0 : ¬ se_at (b2 k) (b3 k) ck = 0) (d_hs1 : ¬ se_at (b2 k) (b3 k) ck = 1) (d_hnf : ¬ th_in (xs (iv + 1)) n) (d_hxr : 0 ^^^ (lj (xs (iv + 3)) (xs (iv + 4))) = a) (m_hn : n ≤ 40) (m_hkn : k < n) (m_hst : 1 < sm_at (b2 k) (b3 k) ck) (m_hpm : ∀ j, j < n → (xs (iv + 1)) = nI j → b10 j ^^^ (lj (xs (iv + 3)) (xs (iv + 4))) = a) (m_hpn : ¬ th_in (xs (iv + 1)) n → (lj (xs (iv + 3)) (xs (iv + 4))) = a)  (hnew : li_R fu au ns n a1 a2 a3 a4 a5 a6 a7 a8 a9 b0 b1 b2 b3 b4 b5 b6 b7 b8 b9 b10 fo ad eu es)  : W p l e room_1 s m #[Value.ref b] below meth c H locs cells slots Q (F0 m 693 ls []) := by
  obtain ⟨hx, hb, hr, hml, hown, hw, hK, hZ, hR, hN, hfl, hA, hbA, hX, hbl, hL, hlocks⟩ := C0
  have hts := hw
  have hP : va_P G classes (lw_W ct hd us op hm qo qa fu au ns n ck n ck th hh a1 a2 a3 a4 a5 a6 a7 a8 a9 b0 b1 b2 b3 b4 b5 b6 b7 b8 b9 b10 og fo ad eu es) H := hP
  have hD : va_D A (lw_W ct hd us op hm qo qa fu au ns n ck n ck th hh a1 a2 a3 a4 a5 a6 a7 a8 a9 b0 b1 b2 b3 b4 b5 b6 b7 b8 b9 b10 og fo ad eu es) := hD
  refine lv_aload_n hx hb d_L_law_693 rfl (lv_at hl 3 rfl) ?_
  refine lv_aload_n hx hb d_L_law_694 rfl (lv_at hl 4 rfl) ?_
  refine lv_iload hx hb d_L_law_695 (lv_at hl 0 rfl) ?_
  refine lv_iconst (v := 1) hx hb d_L_law_697 (by decide) ?_
  refine lv_iadd hx hb d_L_law_698 ?_
  refine sl_ld (j := iv) (d := 1) hx hb hX hbl hbA hS hL (by omega) d_L_law_699 ?_
  refine lv_aload_n hx hb d_L_law_700 rfl (lv_at hl 4 rfl) ?_
  refine lv_iload hx hb d_L_law_701 (lv_at hl 0 rfl) ?_
  refine lv_iconst (v := 2) hx hb d_L_law_703 (by decide) ?_
  refine lv_iadd hx hb d_L_law_704 ?_
  refine sl_ld (j := iv) (d := 2) hx hb hX hbl hbA hS hL (by omega) d_L_law_705 ?_
  refine tp_i (hv2) ?_
  refine lv_aload_n hx hb d_L_law_706 rfl (lv_at hl 4 rfl) ?_
  refine lv_iload hx hb d_L_law_707 (lv_at hl 0 rfl) ?_
  refine lv_iconst (v := 3) hx hb d_L_law_709 (by decide) ?_
  refine lv_iadd hx hb d_L_law_710 ?_
  refine sl_ld (j := iv) (d := 3) hx hb hX hbl hbA hS hL (by omega) d_L_law_711 ?_
  refine lv_i2l (v := (xs (iv + 3)).toInt64) hx hb d_L_law_712 rfl ?_
  refine lv_bipush (v := 32) hx hb d_L_law_713 (by decide) ?_
  refine lv_lshl (v := ((xs (iv + 3)).toInt64) <<< ((32 : Int32).toInt64 &&& 63)) hx hb d_L_law_715 rfl ?_
  refine lv_aload_n hx hb d_L_law_716 rfl (lv_at hl 4 rfl) ?_
  refine lv_iload hx hb d_L_law_717 (lv_at hl 0 rfl) ?_
  refine lv_iconst (v := 4) hx hb d_L_law_719 (by decide) ?_
  refine lv_iadd hx hb d_L_law_720 ?_
  refine sl_ld (j := iv) (d := 4) hx hb hX hbl hbA hS hL (by omega) d_L_law_721 ?_
  refine lv_i2l (v := (xs (iv + 4)).toInt64) hx hb d_L_law_722 rfl ?_
  refine lv_ldc2 (v := 4294967295) hx hb hown (hw _ ww_884) d_L_law_723 ?_
  refine lv_land hx hb d_L_law_726 ?_
  refine lv_lor hx hb d_L_law_727 ?_
  refine tp_l (rfl) ?_
  refine lv_aload_n hx hb d_L_law_728 rfl (lv_at hl 1 rfl) ?_
  have hC9 : List.map (fun i => ((lw_W ct hd us op hm qo qa fu au ns n ck n ck th hh a1 a2 a3 a4 a5 a6 a7 a8 a9 b0 b1 b2 b3 b4 b5 b6 b7 b8 b9 b10 og fo ad eu es) : va_W)[i]?) [22, 24, 25 + (8 + k), 21] = List.map some ([(hd, .inr (0, [.ref us, .ref op, .int (nI n), .int ck])), (op, .inl ((ct 4), 40, .inr (.inr (.inr (.inr fo))))), ((ad k), .inr (3, [.ref (au u), .int (b0 k), .long (lN sec), .int (b3 k), .int (b2 k), .long (lN x), .long (lN y), .long (b9 k), .long c1, .long c2, .long (b10 k), .long (lN rc)])), (qo, .inl ((ct 1), 1, .inr (.inl og)))] : va_W) := (wc_c rfl (wc_c rfl (wc_c (lw_s rfl hkn hes) (wc_c rfl rfl))))
  have hn9 : va_nd [22, 24, 25 + (8 + k), 21] = true := (nd_c (by simp only [List.mem_cons, List.not_mem_nil, or_false]; omega) (nd_c (by simp only [List.mem_cons, List.not_mem_nil, or_false]; omega) (nd_c (by simp only [List.mem_cons, List.not_mem_nil, or_false]; omega) (nd_c List.not_mem_nil rfl))))
  have hPc : va_P G classes [(hd, .inr (0, [.ref us, .ref op, .int (nI n), .int ck])), (op, .inl ((ct 4), 40, .inr (.inr (.inr (.inr fo))))), ((ad k), .inr (3, [.ref (au u), .int (b0 k), .long (lN sec), .int (b3 k), .int (b2 k), .long (lN x), .long (lN y), .long (b9 k), .long c1, .long c2, .long (b10 k), .long (lN rc)])), (qo, .inl ((ct 1), 1, .inr (.inl og)))] H := lp_sub hP [22, 24, 25 + (8 + k), 21] hC9
  have hDc := hD.sub (ws' := [(hd, .inr (0, [.ref us, .ref op, .int (nI n), .int ck])), (op, .inl ((ct 4), 40, .inr (.inr (.inr (.inr fo))))), ((ad k), .inr (3, [.ref (au u), .int (b0 k), .long (lN sec), .int (b3 k), .int (b2 k), .long (lN x), .long (lN y), .long (b9 k), .long c1, .long c2, .long (b10 k), .long (lN rc)])), (qo, .inl ((ct 1), 1, .inr (.inl og)))]) [22, 24, 25 + (8 + k), 21] hn9 hC9
  have hW9 : wk_sets ((lw_W ct hd us op hm qo qa fu au ns n ck n ck th hh a1 a2 a3 a4 a5 a6 a7 a8 a9 b0 b1 b2 b3 b4 b5 b6 b7 b8 b9 b10 og fo ad eu es) : va_W) [22, 24, 25 + (8 + k), 21] ([(hd, .inr (0, [.ref us, .ref op, .int (nI n), .int ck])), (op, .inl ((ct 4), 40, .inr (.inr (.inr (.inr fo))))), ((ad k), .inr (3, [.ref (au u), .int (b0 k), .long (lN sec), .int (b3 k), .int (b2 k), .long (lN x), .long (lN y), .long (b9 k), .long c1, .long c2, .long (b10 k), .long (lN rc)])), (qo, .inl ((ct 1), 1, .inr (.inl og)))] : va_W) = ((lw_W ct hd us op hm qo qa fu au ns n ck n ck th hh a1 a2 a3 a4 a5 a6 a7 a8 a9 b0 b1 b2 b3 b4 b5 b6 b7 b8 b9 b10 og fo ad eu es) : va_W) := (ws_k rfl (ws_k rfl (ws_k (lw_s rfl hkn hes) (ws_k rfl rfl))))
  refine wk_i (sh_run (As := [.ref hd, .int (xs (iv + 1)), .int (nI k), .long (lj (xs (iv + 3)) (xs (iv + 4))), .ref qo]) (rest := []) (hs := [(0, 12, 15, 25), (0, 12, 19, 15), (0, 12, 23, 13), (0, 12, 27, 27)]) ⟨hx, hb, hml, hown, hts⟩ (c_L_passN_ZV l hfl G ct H.size hd us op n ck fo k (ad k) (au u) (b0 k) sec (b3 k) (b2 k) x y (b9 k) c1 c2 (b10 k) rc a (xs (iv + 1)) (lj (xs (iv + 3)) (xs (iv + 4))) qo og d_hn d_hkn d_hfo d_hs0 d_hs1 d_hnf d_hxr) ⟨hw, ww_613, ww_0, ⟨by decide, by decide⟩, np_L_pass, ww_611, ww_612, rfl, rfl, Nat.le_of_ble_eq_true rfl, Nat.le_of_ble_eq_true rfl⟩ (wk_pre5 hPc hK hDc hD hS hA [22, 24, 25 + (8 + k), 21] hC9 hZ hR hN) rfl hl.1 rfl (lv_room (Nat.le_of_ble_eq_true rfl)) d_L_law_729 ⟨by omega, by omega⟩) hP hD hS hA [22, 24, 25 + (8 + k), 21] hn9 hC9 (fun _ => by simp only [List.map_cons, List.map_nil]) (fun _ H locs _ hP hD hS => ?_)
  have hP : va_P G classes (lw_W ct hd us op hm qo qa fu au ns n ck n ck th hh a1 a2 a3 a4 a5 a6 a7 a8 a9 b0 b1 b2 b3 b4 b5 b6 b7 b8 b9 b10 og fo ad eu es) H := lp_P hW9 hP
  have hD : va_D A (lw_W ct hd us op hm qo qa fu au ns n ck n ck th hh a1 a2 a3 a4 a5 a6 a7 a8 a9 b0 b1 b2 b3 b4 b5 b6 b7 b8 b9 b10 og fo ad eu es) := lp_D hW9 hD
  refine lv_istore (lv' := [(5, .int 2), (4, .int (nI iv)), (3, .ref qo), (2, .ref hm), (1, .ref hd), (0, .ref b)]) hx hb d_L_law_732 hl (Nat.le_of_ble_eq_true rfl) rfl (fun ls hl => ?_)
  refine lv_aload_n hx hb d_L_law_734 rfl (lv_at hl 3 rfl) ?_
  refine lv_aload_n hx hb d_L_law_735 rfl (lv_at hl 5 rfl) ?_
  refine lv_iload hx hb d_L_law_736 (lv_at hl 1 rfl) ?_
  refine lv_iconst (v := 1) hx hb d_L_law_738 (by decide) ?_
  refine lv_iadd hx hb d_L_law_739 ?_
  refine sl_ld (j := iv) (d := 1) hx hb hX hbl hbA hS hL (by omega) d_L_law_740 ?_
  refine lv_aload_n hx hb d_L_law_741 rfl (lv_at hl 5 rfl) ?_
  refine lv_iload hx hb d_L_law_742 (lv_at hl 1 rfl) ?_
  refine lv_iconst (v := 2) hx hb d_L_law_744 (by decide) ?_
  refine lv_iadd hx hb d_L_law_745 ?_
  refine sl_ld (j := iv) (d := 2) hx hb hX hbl hbA hS hL (by omega) d_L_law_746 ?_
  refine tp_i (hv2) ?_
  refine lv_aload_n hx hb d_L_law_747 rfl (lv_at hl 5 rfl) ?_
  refine lv_iload hx hb d_L_law_748 (lv_at hl 1 rfl) ?_
  refine lv_iconst (v := 3) hx hb d_L_law_750 (by decide) ?_
  refine lv_iadd hx hb d_L_law_751 ?_
  refine sl_ld (j := iv) (d := 3) hx hb hX hbl hbA hS hL (by omega) d_L_law_752 ?_
  refine lv_i2l (v := (xs (iv + 3)).toInt64) hx hb d_L_law_753 rfl ?_
  refine lv_bipush (v := 32) hx hb d_L_law_754 (by decide) ?_
  refine lv_lshl (v := ((xs (iv + 3)).toInt64) <<< ((32 : Int32).toInt64 &&& 63)) hx hb d_L_law_756 rfl ?_
  refine lv_aload_n hx hb d_L_law_757 rfl (lv_at hl 5 rfl) ?_
  refine lv_iload hx hb d_L_law_758 (lv_at hl 1 rfl) ?_
  refine lv_iconst (v := 4) hx hb d_L_law_760 (by decide) ?_
  refine lv_iadd hx hb d_L_law_761 ?_
  refine sl_ld (j := iv) (d := 4) hx hb hX hbl hbA hS hL (by omega) d_L_law_762 ?_
  refine lv_i2l (v := (xs (iv + 4)).toInt64) hx hb d_L_law_763 rfl ?_
  refine lv_ldc2 (v := 4294967295) hx hb hown (hw _ ww_884) d_L_law_764 ?_
  refine lv_land hx hb d_L_law_767 ?_
  refine lv_lor hx hb d_L_law_768 ?_
  refine tp_l (rfl) ?_
  have hC9 : List.map (fun i => ((lw_W ct hd us op hm qo qa fu au ns n ck n ck th hh a1 a2 a3 a4 a5 a6 a7 a8 a9 b0 b1 b2 b3 b4 b5 b6 b7 b8 b9 b10 og fo ad eu es) : va_W)[i]?) [0, 12, 13, 20] = List.map some ([(hm, .inr (4, [.int th, .long ns.toInt64, .int ck, .long hh, .ref (qa 1), .ref (qa 2), .ref (qa 3), .ref (qa 4), .ref (qa 5), .ref (qa 6), .ref (qa 7), .ref (qa 8), .int (nI n), .ref (qa 9), .ref (qa 10), .ref (qa 11), .ref (qa 12), .ref (qa 13), .ref (qa 14), .ref (qa 15), .ref (qa 16), .ref (qa 17), .ref (qa 18), .ref (qa 19), .ref (qa 20)])), ((qa 12), .inl ((ct 0), 40, .inl b2)), ((qa 13), .inl ((ct 0), 40, .inl b3)), ((qa 20), .inl ((ct 1), 40, .inr (.inl b10)))] : va_W) := (wc_c rfl (wc_c rfl (wc_c rfl (wc_c rfl rfl))))
  have hn9 : va_nd [0, 12, 13, 20] = true := by decide
  have hPc : va_P G classes [(hm, .inr (4, [.int th, .long ns.toInt64, .int ck, .long hh, .ref (qa 1), .ref (qa 2), .ref (qa 3), .ref (qa 4), .ref (qa 5), .ref (qa 6), .ref (qa 7), .ref (qa 8), .int (nI n), .ref (qa 9), .ref (qa 10), .ref (qa 11), .ref (qa 12), .ref (qa 13), .ref (qa 14), .ref (qa 15), .ref (qa 16), .ref (qa 17), .ref (qa 18), .ref (qa 19), .ref (qa 20)])), ((qa 12), .inl ((ct 0), 40, .inl b2)), ((qa 13), .inl ((ct 0), 40, .inl b3)), ((qa 20), .inl ((ct 1), 40, .inr (.inl b10)))] H := lp_sub hP [0, 12, 13, 20] hC9
  have hDc := hD.sub (ws' := [(hm, .inr (4, [.int th, .long ns.toInt64, .int ck, .long hh, .ref (qa 1), .ref (qa 2), .ref (qa 3), .ref (qa 4), .ref (qa 5), .ref (qa 6), .ref (qa 7), .ref (qa 8), .int (nI n), .ref (qa 9), .ref (qa 10), .ref (qa 11), .ref (qa 12), .ref (qa 13), .ref (qa 14), .ref (qa 15), .ref (qa 16), .ref (qa 17), .ref (qa 18), .ref (qa 19), .ref (qa 20)])), ((qa 12), .inl ((ct 0), 40, .inl b2)), ((qa 13), .inl ((ct 0), 40, .inl b3)), ((qa 20), .inl ((ct 1), 40, .inr (.inl b10)))]) [0, 12, 13, 20] hn9 hC9
  refine wk_i (va_runV (As := [.int (xs (iv + 1)), .int (nI k), .long (lj (xs (iv + 3)) (xs (iv + 4)))]) (rest := []) ⟨hx, hb, hml, hown, hts⟩ (c_M_pass_R2 l G ct H.size hm th ns.toInt64 ck hh (qa 1) (qa 2) (qa 3) (qa 4) (qa 5) (qa 6) (qa 7) (qa 8) (qa 9) (qa 10) (qa 11) (qa 12) (qa 13) (qa 14) (qa 15) (qa 16) (qa 17) (qa 18) (qa 19) (qa 20) n b2 b3 b10 k a (xs (iv + 1)) (lj (xs (iv + 3)) (xs (iv + 4))) m_hn m_hkn m_hst m_hpm m_hpn) (tb_V hw cy_M_pass ww_856 ww_857 ww_858 rfl rfl ⟨Nat.le_of_ble_eq_true rfl, Nat.le_of_ble_eq_true rfl⟩) (wk_preV (ci := 4) (q0 := 0) hPc hK hDc rfl rfl) rfl rfl hl.1 rfl (lv_room (Nat.le_of_ble_eq_true rfl)) d_L_law_769 ⟨by omega, by omega⟩) hP hD hS hA [0, 12, 13, 20] hn9 hC9 (fun _ => by simp only [List.map_cons, List.map_nil]) (fun _ H locs _ hP hD hS => ?_)
  have hW9 : wk_sets ((lw_W ct hd us op hm qo qa fu au ns n ck n ck th hh a1 a2 a3 a4 a5 a6 a7 a8 a9 b0 b1 b2 b3 b4 b5 b6 b7 b8 b9 b10 og fo ad eu es) : va_W) [0, 12, 13, 20] ([(hm, .inr (4, [.int 2, .long ns.toInt64, .int ck, .long hh, .ref (qa 1), .ref (qa 2), .ref (qa 3), .ref (qa 4), .ref (qa 5), .ref (qa 6), .ref (qa 7), .ref (qa 8), .int (nI n), .ref (qa 9), .ref (qa 10), .ref (qa 11), .ref (qa 12), .ref (qa 13), .ref (qa 14), .ref (qa 15), .ref (qa 16), .ref (qa 17), .ref (qa 18), .ref (qa 19), .ref (qa 20)])), ((qa 12), .inl ((ct 0), 40, .inl b2)), ((qa 13), .inl ((ct 0), 40, .inl b3)), ((qa 20), .inl ((ct 1), 40, .inr (.inl b10)))] : va_W) = ((lw_W ct hd us op hm qo qa fu au ns n ck n ck 2 hh a1 a2 a3 a4 a5 a6 a7 a8 a9 b0 b1 b2 b3 b4 b5 b6 b7 b8 b9 b10 og fo ad eu es) : va_W) := (ws_c (ws' := (lw_W ct hd us op hm qo qa fu au ns n ck n ck 2 hh a1 a2 a3 a4 a5 a6 a7 a8 a9 b0 b1 b2 b3 b4 b5 b6 b7 b8 b9 b10 og fo ad eu es)) rfl (ws_k rfl (ws_k rfl (ws_k rfl rfl))))
  have hP : va_P G classes (lw_W ct hd us op hm qo qa fu au ns n ck n ck 2 hh a1 a2 a3 a4 a5 a6 a7 a8 a9 b0 b1 b2 b3 b4 b5 b6 b7 b8 b9 b10 og fo ad eu es) H := lp_P hW9 hP
  have hD : va_D A (lw_W ct hd us op hm qo qa fu au ns n ck n ck 2 hh a1 a2 a3 a4 a5 a6 a7 a8 a9 b0 b1 b2 b3 b4 b5 b6 b7 b8 b9 b10 og fo ad eu es) := lp_D hW9 hD
  refine lv_istore (lv' := [(6, .int 0), (5, .int 2), (4, .int (nI iv)), (3, .ref qo), (2, .ref hm), (1, .ref hd), (0, .ref b)]) hx hb d_L_law_772 hl (Nat.le_of_ble_eq_true rfl) rfl (fun ls hl => ?_)
  refine lv_aload_n hx hb d_L_law_774 rfl (lv_at hl 4 rfl) ?_
  have hPc : va_P G classes [(hm, .inr (4, [.int 2, .long ns.toInt64, .int ck, .long hh, .ref (qa 1), .ref (qa 2), .ref (qa 3), .ref (qa 4), .ref (qa 5), .ref (qa 6), .ref (qa 7), .ref (qa 8), .int (nI n), .ref (qa 9), .ref (qa 10), .ref (qa 11), .ref (qa 12), .ref (qa 13), .ref (qa 14), .ref (qa 15), .ref (qa 16), .ref (qa 17), .ref (qa 18), .ref (qa 19), .ref (qa 20)]))] H := hP.sub [0] rfl
  have hDc := hD.sub (ws' := [(hm, .inr (4, [.int 2, .long ns.toInt64, .int ck, .long hh, .ref (qa 1), .ref (qa 2), .ref (qa 3), .ref (qa 4), .ref (qa 5), .ref (qa 6), .ref (qa 7), .ref (qa 8), .int (nI n), .ref (qa 9), .ref (qa 10), .ref (qa 11), .ref (qa 12), .ref (qa 13), .ref (qa 14), .ref (qa 15), .ref (qa 16), .ref (qa 17), .ref (qa 18), .ref (qa 19), .ref (qa 20)]))]) [0] (by decide) rfl
  refine vp_callSi (W.runV (As := []) (rest := []) ⟨hx, hb, hml, hown, hts⟩ (c_M_thrown l G ct H.size hm 2 ns.toInt64 ck hh (qa 1) (qa 2) (qa 3) (qa 4) (qa 5) (qa 6) (qa 7) (qa 8) (qa 9) (qa 10) (qa 11) (qa 12) (qa 13) (qa 14) (qa 15) (qa 16) (qa 17) (qa 18) (qa 19) (qa 20) n) (tb_V hw cy_M_thrown ww_719 ww_720 ww_721 rfl rfl ⟨Nat.le_of_ble_eq_true rfl, Nat.le_of_ble_eq_true rfl⟩) (wk_preV (ci := 4) (q0 := 0) hPc hK hDc rfl rfl) rfl rfl hl.1 rfl (lv_room (Nat.le_of_ble_eq_true rfl)) d_L_law_775 ⟨by omega, by omega⟩) (fun r1350 er1350 => ?_)
  subst er1350
  refine lv_iload hx hb d_L_law_778 (lv_at hl 1 rfl) ?_
  refine lv_icmp_eq (tgt := 785) hx hb d_L_law_780 (by decide) (fun h1351 => ?_) (fun h1351 => ?_)
  · refine lv_iload hx hb d_L_law_785 (lv_at hl 1 rfl) ?_
    refine lv_if_ne (tgt := 802) hx hb d_L_law_787 (by decide) (fun h1352 => ?_) (fun h1352 => ?_)
    · refine lv_goto (tgt := 1005) hx hb d_L_law_802 (by decide) ?_
      refine W.widen (k := cells + 1) (n := slots + 13) (by omega) (by omega) ?_
      exact kk n ck 2 hh a1 a2 a3 a4 a5 a6 a7 a8 a9 b0 b1 b2 b3 b4 b5 b6 b7 b8 b9 b10 og fo ad eu es H locs _ hnew hP hD hS (lv_sub hl [2, 3, 4, 5, 6] rfl)
    · exact absurd h1352 (by decide)
  · exact absurd h1351 (by decide)
set_option maxHeartbeats 4000000 in
set_option maxRecDepth 100000 in
theorem lq_passS_ZV_R2 {k : Nat} {u : Nat} {sec : Nat} {x : Nat} {y : Nat} {rc : Nat} {c1 : Int64} {c2 : Int64} {a : Int64} (C0 : lc_C p l s m meth c b L xs G ct A) (hiv : iv + 7 ≤ L) (hcc : cells + 1 ≤ room_1.cells) (hzz : slots + 13 ≤ room_1.slots)
    (hP : va_P G classes (lw_W ct hd us op hm qo qa fu au ns n ck n ck th hh a1 a2 a3 a4 a5 a6 a7 a8 a9 b0 b1 b2 b3 b4 b5 b6 b7 b8 b9 b10 og fo ad eu es) H) (hD : va_D A (lw_W ct hd us op hm qo qa fu au ns n ck n ck th hh a1 a2 a3 a4 a5 a6 a7 a8 a9 b0 b1 b2 b3 b4 b5 b6 b7 b8 b9 b10 og fo ad eu es)) (hS : va_S A s.heap H locs) (hl : lv_has ls 8 [(4, .int (nI iv)), (3, .ref qo), (2, .ref hm), (1, .ref hd), (0, .ref b)])
    (kk : lc_K p l e s m below meth c b L xs G ct A hd us op hm qo qa fu au ns iv (cells + 1) (slots + 13) Q)
    (hv1 : xs (iv + 1) = nI k) (hv2 : xs (iv + 2) = nI k) (hkn : k < n) (hes : es k = .inr (3, [.ref (au u), .int (b0 k), .long (lN sec), .int (b3 k), .int (b2 k), .long (lN x), .long (lN y), .long (b9 k), .long c1, .long c2, .long (b10 k), .long (lN rc)])) (d_hn : n ≤ 40) (d_hkn : k < n) (d_hfo : fo k = some (ad k)) (d_hs0 : ¬ se_at (b2 k) (b3 k) ck = 0) (d_hs1 : ¬ se_at (b2 k) (b3 k) ck = 1) (d_hxr : (b10 k) ^^^ (lj (xs (iv + 3)) (xs (iv + 4))) = a) (m_hn : n ≤ 40) (m_hkn : k < n) (m_hst : 1 < sm_at (b2 k) (b3 k) ck) (m_hpm : ∀ j, j < n → (nI k) = nI j → b10 j ^^^ (lj (xs (iv + 3)) (xs (iv + 4))) = a) (m_hpn : ¬ th_in (nI k) n → (lj (xs (iv + 3)) (xs (iv + 4))) = a)  (hnew : li_R fu au ns n a1 a2 a3 a4 a5 a6 a7 a8 a9 b0 b1 b2 b3 b4 b5 b6 b7 b8 b9 b10 fo ad eu es)  : W p l e room_1 s m #[Value.ref b] below meth c H locs cells slots Q (F0 m 693 ls []) := by
  obtain ⟨hx, hb, hr, hml, hown, hw, hK, hZ, hR, hN, hfl, hA, hbA, hX, hbl, hL, hlocks⟩ := C0
  have hts := hw
  have hP : va_P G classes (lw_W ct hd us op hm qo qa fu au ns n ck n ck th hh a1 a2 a3 a4 a5 a6 a7 a8 a9 b0 b1 b2 b3 b4 b5 b6 b7 b8 b9 b10 og fo ad eu es) H := hP
  have hD : va_D A (lw_W ct hd us op hm qo qa fu au ns n ck n ck th hh a1 a2 a3 a4 a5 a6 a7 a8 a9 b0 b1 b2 b3 b4 b5 b6 b7 b8 b9 b10 og fo ad eu es) := hD
  refine lv_aload_n hx hb d_L_law_693 rfl (lv_at hl 3 rfl) ?_
  refine lv_aload_n hx hb d_L_law_694 rfl (lv_at hl 4 rfl) ?_
  refine lv_iload hx hb d_L_law_695 (lv_at hl 0 rfl) ?_
  refine lv_iconst (v := 1) hx hb d_L_law_697 (by decide) ?_
  refine lv_iadd hx hb d_L_law_698 ?_
  refine sl_ld (j := iv) (d := 1) hx hb hX hbl hbA hS hL (by omega) d_L_law_699 ?_
  refine tp_i (hv1) ?_
  refine lv_aload_n hx hb d_L_law_700 rfl (lv_at hl 4 rfl) ?_
  refine lv_iload hx hb d_L_law_701 (lv_at hl 0 rfl) ?_
  refine lv_iconst (v := 2) hx hb d_L_law_703 (by decide) ?_
  refine lv_iadd hx hb d_L_law_704 ?_
  refine sl_ld (j := iv) (d := 2) hx hb hX hbl hbA hS hL (by omega) d_L_law_705 ?_
  refine tp_i (hv2) ?_
  refine lv_aload_n hx hb d_L_law_706 rfl (lv_at hl 4 rfl) ?_
  refine lv_iload hx hb d_L_law_707 (lv_at hl 0 rfl) ?_
  refine lv_iconst (v := 3) hx hb d_L_law_709 (by decide) ?_
  refine lv_iadd hx hb d_L_law_710 ?_
  refine sl_ld (j := iv) (d := 3) hx hb hX hbl hbA hS hL (by omega) d_L_law_711 ?_
  refine lv_i2l (v := (xs (iv + 3)).toInt64) hx hb d_L_law_712 rfl ?_
  refine lv_bipush (v := 32) hx hb d_L_law_713 (by decide) ?_
  refine lv_lshl (v := ((xs (iv + 3)).toInt64) <<< ((32 : Int32).toInt64 &&& 63)) hx hb d_L_law_715 rfl ?_
  refine lv_aload_n hx hb d_L_law_716 rfl (lv_at hl 4 rfl) ?_
  refine lv_iload hx hb d_L_law_717 (lv_at hl 0 rfl) ?_
  refine lv_iconst (v := 4) hx hb d_L_law_719 (by decide) ?_
  refine lv_iadd hx hb d_L_law_720 ?_
  refine sl_ld (j := iv) (d := 4) hx hb hX hbl hbA hS hL (by omega) d_L_law_721 ?_
  refine lv_i2l (v := (xs (iv + 4)).toInt64) hx hb d_L_law_722 rfl ?_
  refine lv_ldc2 (v := 4294967295) hx hb hown (hw _ ww_884) d_L_law_723 ?_
  refine lv_land hx hb d_L_law_726 ?_
  refine lv_lor hx hb d_L_law_727 ?_
  refine tp_l (rfl) ?_
  refine lv_aload_n hx hb d_L_law_728 rfl (lv_at hl 1 rfl) ?_
  have hC9 : List.map (fun i => ((lw_W ct hd us op hm qo qa fu au ns n ck n ck th hh a1 a2 a3 a4 a5 a6 a7 a8 a9 b0 b1 b2 b3 b4 b5 b6 b7 b8 b9 b10 og fo ad eu es) : va_W)[i]?) [22, 24, 25 + (8 + k), 21] = List.map some ([(hd, .inr (0, [.ref us, .ref op, .int (nI n), .int ck])), (op, .inl ((ct 4), 40, .inr (.inr (.inr (.inr fo))))), ((ad k), .inr (3, [.ref (au u), .int (b0 k), .long (lN sec), .int (b3 k), .int (b2 k), .long (lN x), .long (lN y), .long (b9 k), .long c1, .long c2, .long (b10 k), .long (lN rc)])), (qo, .inl ((ct 1), 1, .inr (.inl og)))] : va_W) := (wc_c rfl (wc_c rfl (wc_c (lw_s rfl hkn hes) (wc_c rfl rfl))))
  have hn9 : va_nd [22, 24, 25 + (8 + k), 21] = true := (nd_c (by simp only [List.mem_cons, List.not_mem_nil, or_false]; omega) (nd_c (by simp only [List.mem_cons, List.not_mem_nil, or_false]; omega) (nd_c (by simp only [List.mem_cons, List.not_mem_nil, or_false]; omega) (nd_c List.not_mem_nil rfl))))
  have hPc : va_P G classes [(hd, .inr (0, [.ref us, .ref op, .int (nI n), .int ck])), (op, .inl ((ct 4), 40, .inr (.inr (.inr (.inr fo))))), ((ad k), .inr (3, [.ref (au u), .int (b0 k), .long (lN sec), .int (b3 k), .int (b2 k), .long (lN x), .long (lN y), .long (b9 k), .long c1, .long c2, .long (b10 k), .long (lN rc)])), (qo, .inl ((ct 1), 1, .inr (.inl og)))] H := lp_sub hP [22, 24, 25 + (8 + k), 21] hC9
  have hDc := hD.sub (ws' := [(hd, .inr (0, [.ref us, .ref op, .int (nI n), .int ck])), (op, .inl ((ct 4), 40, .inr (.inr (.inr (.inr fo))))), ((ad k), .inr (3, [.ref (au u), .int (b0 k), .long (lN sec), .int (b3 k), .int (b2 k), .long (lN x), .long (lN y), .long (b9 k), .long c1, .long c2, .long (b10 k), .long (lN rc)])), (qo, .inl ((ct 1), 1, .inr (.inl og)))]) [22, 24, 25 + (8 + k), 21] hn9 hC9
  have hW9 : wk_sets ((lw_W ct hd us op hm qo qa fu au ns n ck n ck th hh a1 a2 a3 a4 a5 a6 a7 a8 a9 b0 b1 b2 b3 b4 b5 b6 b7 b8 b9 b10 og fo ad eu es) : va_W) [22, 24, 25 + (8 + k), 21] ([(hd, .inr (0, [.ref us, .ref op, .int (nI n), .int ck])), (op, .inl ((ct 4), 40, .inr (.inr (.inr (.inr fo))))), ((ad k), .inr (3, [.ref (au u), .int (b0 k), .long (lN sec), .int (b3 k), .int (b2 k), .long (lN x), .long (lN y), .long (b9 k), .long c1, .long c2, .long (b10 k), .long (lN rc)])), (qo, .inl ((ct 1), 1, .inr (.inl og)))] : va_W) = ((lw_W ct hd us op hm qo qa fu au ns n ck n ck th hh a1 a2 a3 a4 a5 a6 a7 a8 a9 b0 b1 b2 b3 b4 b5 b6 b7 b8 b9 b10 og fo ad eu es) : va_W) := (ws_k rfl (ws_k rfl (ws_k (lw_s rfl hkn hes) (ws_k rfl rfl))))
  refine wk_i (sh_run (As := [.ref hd, .int (nI k), .int (nI k), .long (lj (xs (iv + 3)) (xs (iv + 4))), .ref qo]) (rest := []) (hs := [(0, 12, 15, 25), (0, 12, 19, 15), (0, 12, 23, 13), (0, 12, 27, 27)]) ⟨hx, hb, hml, hown, hts⟩ (c_L_passS_ZV l hfl G ct H.size hd us op n ck fo k (ad k) (au u) (b0 k) sec (b3 k) (b2 k) x y (b9 k) c1 c2 (b10 k) rc a (lj (xs (iv + 3)) (xs (iv + 4))) qo og d_hn d_hkn d_hfo d_hs0 d_hs1 d_hxr) ⟨hw, ww_613, ww_0, ⟨by decide, by decide⟩, np_L_pass, ww_611, ww_612, rfl, rfl, Nat.le_of_ble_eq_true rfl, Nat.le_of_ble_eq_true rfl⟩ (wk_pre5 hPc hK hDc hD hS hA [22, 24, 25 + (8 + k), 21] hC9 hZ hR hN) rfl hl.1 rfl (lv_room (Nat.le_of_ble_eq_true rfl)) d_L_law_729 ⟨by omega, by omega⟩) hP hD hS hA [22, 24, 25 + (8 + k), 21] hn9 hC9 (fun _ => by simp only [List.map_cons, List.map_nil]) (fun _ H locs _ hP hD hS => ?_)
  have hP : va_P G classes (lw_W ct hd us op hm qo qa fu au ns n ck n ck th hh a1 a2 a3 a4 a5 a6 a7 a8 a9 b0 b1 b2 b3 b4 b5 b6 b7 b8 b9 b10 og fo ad eu es) H := lp_P hW9 hP
  have hD : va_D A (lw_W ct hd us op hm qo qa fu au ns n ck n ck th hh a1 a2 a3 a4 a5 a6 a7 a8 a9 b0 b1 b2 b3 b4 b5 b6 b7 b8 b9 b10 og fo ad eu es) := lp_D hW9 hD
  refine lv_istore (lv' := [(5, .int 2), (4, .int (nI iv)), (3, .ref qo), (2, .ref hm), (1, .ref hd), (0, .ref b)]) hx hb d_L_law_732 hl (Nat.le_of_ble_eq_true rfl) rfl (fun ls hl => ?_)
  refine lv_aload_n hx hb d_L_law_734 rfl (lv_at hl 3 rfl) ?_
  refine lv_aload_n hx hb d_L_law_735 rfl (lv_at hl 5 rfl) ?_
  refine lv_iload hx hb d_L_law_736 (lv_at hl 1 rfl) ?_
  refine lv_iconst (v := 1) hx hb d_L_law_738 (by decide) ?_
  refine lv_iadd hx hb d_L_law_739 ?_
  refine sl_ld (j := iv) (d := 1) hx hb hX hbl hbA hS hL (by omega) d_L_law_740 ?_
  refine tp_i (hv1) ?_
  refine lv_aload_n hx hb d_L_law_741 rfl (lv_at hl 5 rfl) ?_
  refine lv_iload hx hb d_L_law_742 (lv_at hl 1 rfl) ?_
  refine lv_iconst (v := 2) hx hb d_L_law_744 (by decide) ?_
  refine lv_iadd hx hb d_L_law_745 ?_
  refine sl_ld (j := iv) (d := 2) hx hb hX hbl hbA hS hL (by omega) d_L_law_746 ?_
  refine tp_i (hv2) ?_
  refine lv_aload_n hx hb d_L_law_747 rfl (lv_at hl 5 rfl) ?_
  refine lv_iload hx hb d_L_law_748 (lv_at hl 1 rfl) ?_
  refine lv_iconst (v := 3) hx hb d_L_law_750 (by decide) ?_
  refine lv_iadd hx hb d_L_law_751 ?_
  refine sl_ld (j := iv) (d := 3) hx hb hX hbl hbA hS hL (by omega) d_L_law_752 ?_
  refine lv_i2l (v := (xs (iv + 3)).toInt64) hx hb d_L_law_753 rfl ?_
  refine lv_bipush (v := 32) hx hb d_L_law_754 (by decide) ?_
  refine lv_lshl (v := ((xs (iv + 3)).toInt64) <<< ((32 : Int32).toInt64 &&& 63)) hx hb d_L_law_756 rfl ?_
  refine lv_aload_n hx hb d_L_law_757 rfl (lv_at hl 5 rfl) ?_
  refine lv_iload hx hb d_L_law_758 (lv_at hl 1 rfl) ?_
  refine lv_iconst (v := 4) hx hb d_L_law_760 (by decide) ?_
  refine lv_iadd hx hb d_L_law_761 ?_
  refine sl_ld (j := iv) (d := 4) hx hb hX hbl hbA hS hL (by omega) d_L_law_762 ?_
  refine lv_i2l (v := (xs (iv + 4)).toInt64) hx hb d_L_law_763 rfl ?_
  refine lv_ldc2 (v := 4294967295) hx hb hown (hw _ ww_884) d_L_law_764 ?_
  refine lv_land hx hb d_L_law_767 ?_
  refine lv_lor hx hb d_L_law_768 ?_
  refine tp_l (rfl) ?_
  have hC9 : List.map (fun i => ((lw_W ct hd us op hm qo qa fu au ns n ck n ck th hh a1 a2 a3 a4 a5 a6 a7 a8 a9 b0 b1 b2 b3 b4 b5 b6 b7 b8 b9 b10 og fo ad eu es) : va_W)[i]?) [0, 12, 13, 20] = List.map some ([(hm, .inr (4, [.int th, .long ns.toInt64, .int ck, .long hh, .ref (qa 1), .ref (qa 2), .ref (qa 3), .ref (qa 4), .ref (qa 5), .ref (qa 6), .ref (qa 7), .ref (qa 8), .int (nI n), .ref (qa 9), .ref (qa 10), .ref (qa 11), .ref (qa 12), .ref (qa 13), .ref (qa 14), .ref (qa 15), .ref (qa 16), .ref (qa 17), .ref (qa 18), .ref (qa 19), .ref (qa 20)])), ((qa 12), .inl ((ct 0), 40, .inl b2)), ((qa 13), .inl ((ct 0), 40, .inl b3)), ((qa 20), .inl ((ct 1), 40, .inr (.inl b10)))] : va_W) := (wc_c rfl (wc_c rfl (wc_c rfl (wc_c rfl rfl))))
  have hn9 : va_nd [0, 12, 13, 20] = true := by decide
  have hPc : va_P G classes [(hm, .inr (4, [.int th, .long ns.toInt64, .int ck, .long hh, .ref (qa 1), .ref (qa 2), .ref (qa 3), .ref (qa 4), .ref (qa 5), .ref (qa 6), .ref (qa 7), .ref (qa 8), .int (nI n), .ref (qa 9), .ref (qa 10), .ref (qa 11), .ref (qa 12), .ref (qa 13), .ref (qa 14), .ref (qa 15), .ref (qa 16), .ref (qa 17), .ref (qa 18), .ref (qa 19), .ref (qa 20)])), ((qa 12), .inl ((ct 0), 40, .inl b2)), ((qa 13), .inl ((ct 0), 40, .inl b3)), ((qa 20), .inl ((ct 1), 40, .inr (.inl b10)))] H := lp_sub hP [0, 12, 13, 20] hC9
  have hDc := hD.sub (ws' := [(hm, .inr (4, [.int th, .long ns.toInt64, .int ck, .long hh, .ref (qa 1), .ref (qa 2), .ref (qa 3), .ref (qa 4), .ref (qa 5), .ref (qa 6), .ref (qa 7), .ref (qa 8), .int (nI n), .ref (qa 9), .ref (qa 10), .ref (qa 11), .ref (qa 12), .ref (qa 13), .ref (qa 14), .ref (qa 15), .ref (qa 16), .ref (qa 17), .ref (qa 18), .ref (qa 19), .ref (qa 20)])), ((qa 12), .inl ((ct 0), 40, .inl b2)), ((qa 13), .inl ((ct 0), 40, .inl b3)), ((qa 20), .inl ((ct 1), 40, .inr (.inl b10)))]) [0, 12, 13, 20] hn9 hC9
  refine wk_i (va_runV (As := [.int (nI k), .int (nI k), .long (lj (xs (iv + 3)) (xs (iv + 4)))]) (rest := []) ⟨hx, hb, hml, hown, hts⟩ (c_M_pass_R2 l G ct H.size hm th ns.toInt64 ck hh (qa 1) (qa 2) (qa 3) (qa 4) (qa 5) (qa 6) (qa 7) (qa 8) (qa 9) (qa 10) (qa 11) (qa 12) (qa 13) (qa 14) (qa 15) (qa 16) (qa 17) (qa 18) (qa 19) (qa 20) n b2 b3 b10 k a (nI k) (lj (xs (iv + 3)) (xs (iv + 4))) m_hn m_hkn m_hst m_hpm m_hpn) (tb_V hw cy_M_pass ww_856 ww_857 ww_858 rfl rfl ⟨Nat.le_of_ble_eq_true rfl, Nat.le_of_ble_eq_true rfl⟩) (wk_preV (ci := 4) (q0 := 0) hPc hK hDc rfl rfl) rfl rfl hl.1 rfl (lv_room (Nat.le_of_ble_eq_true rfl)) d_L_law_769 ⟨by omega, by omega⟩) hP hD hS hA [0, 12, 13, 20] hn9 hC9 (fun _ => by simp only [List.map_cons, List.map_nil]) (fun _ H locs _ hP hD hS => ?_)
  have hW9 : wk_sets ((lw_W ct hd us op hm qo qa fu au ns n ck n ck th hh a1 a2 a3 a4 a5 a6 a7 a8 a9 b0 b1 b2 b3 b4 b5 b6 b7 b8 b9 b10 og fo ad eu es) : va_W) [0, 12, 13, 20] ([(hm, .inr (4, [.int 2, .long ns.toInt64, .int ck, .long hh, .ref (qa 1), .ref (qa 2), .ref (qa 3), .ref (qa 4), .ref (qa 5), .ref (qa 6), .ref (qa 7), .ref (qa 8), .int (nI n), .ref (qa 9), .ref (qa 10), .ref (qa 11), .ref (qa 12), .ref (qa 13), .ref (qa 14), .ref (qa 15), .ref (qa 16), .ref (qa 17), .ref (qa 18), .ref (qa 19), .ref (qa 20)])), ((qa 12), .inl ((ct 0), 40, .inl b2)), ((qa 13), .inl ((ct 0), 40, .inl b3)), ((qa 20), .inl ((ct 1), 40, .inr (.inl b10)))] : va_W) = ((lw_W ct hd us op hm qo qa fu au ns n ck n ck 2 hh a1 a2 a3 a4 a5 a6 a7 a8 a9 b0 b1 b2 b3 b4 b5 b6 b7 b8 b9 b10 og fo ad eu es) : va_W) := (ws_c (ws' := (lw_W ct hd us op hm qo qa fu au ns n ck n ck 2 hh a1 a2 a3 a4 a5 a6 a7 a8 a9 b0 b1 b2 b3 b4 b5 b6 b7 b8 b9 b10 og fo ad eu es)) rfl (ws_k rfl (ws_k rfl (ws_k rfl rfl))))
  have hP : va_P G classes (lw_W ct hd us op hm qo qa fu au ns n ck n ck 2 hh a1 a2 a3 a4 a5 a6 a7 a8 a9 b0 b1 b2 b3 b4 b5 b6 b7 b8 b9 b10 og fo ad eu es) H := lp_P hW9 hP
  have hD : va_D A (lw_W ct hd us op hm qo qa fu au ns n ck n ck 2 hh a1 a2 a3 a4 a5 a6 a7 a8 a9 b0 b1 b2 b3 b4 b5 b6 b7 b8 b9 b10 og fo ad eu es) := lp_D hW9 hD
  refine lv_istore (lv' := [(6, .int 0), (5, .int 2), (4, .int (nI iv)), (3, .ref qo), (2, .ref hm), (1, .ref hd), (0, .ref b)]) hx hb d_L_law_772 hl (Nat.le_of_ble_eq_true rfl) rfl (fun ls hl => ?_)
  refine lv_aload_n hx hb d_L_law_774 rfl (lv_at hl 4 rfl) ?_
  have hPc : va_P G classes [(hm, .inr (4, [.int 2, .long ns.toInt64, .int ck, .long hh, .ref (qa 1), .ref (qa 2), .ref (qa 3), .ref (qa 4), .ref (qa 5), .ref (qa 6), .ref (qa 7), .ref (qa 8), .int (nI n), .ref (qa 9), .ref (qa 10), .ref (qa 11), .ref (qa 12), .ref (qa 13), .ref (qa 14), .ref (qa 15), .ref (qa 16), .ref (qa 17), .ref (qa 18), .ref (qa 19), .ref (qa 20)]))] H := hP.sub [0] rfl
  have hDc := hD.sub (ws' := [(hm, .inr (4, [.int 2, .long ns.toInt64, .int ck, .long hh, .ref (qa 1), .ref (qa 2), .ref (qa 3), .ref (qa 4), .ref (qa 5), .ref (qa 6), .ref (qa 7), .ref (qa 8), .int (nI n), .ref (qa 9), .ref (qa 10), .ref (qa 11), .ref (qa 12), .ref (qa 13), .ref (qa 14), .ref (qa 15), .ref (qa 16), .ref (qa 17), .ref (qa 18), .ref (qa 19), .ref (qa 20)]))]) [0] (by decide) rfl
  refine vp_callSi (W.runV (As := []) (rest := []) ⟨hx, hb, hml, hown, hts⟩ (c_M_thrown l G ct H.size hm 2 ns.toInt64 ck hh (qa 1) (qa 2) (qa 3) (qa 4) (qa 5) (qa 6) (qa 7) (qa 8) (qa 9) (qa 10) (qa 11) (qa 12) (qa 13) (qa 14) (qa 15) (qa 16) (qa 17) (qa 18) (qa 19) (qa 20) n) (tb_V hw cy_M_thrown ww_719 ww_720 ww_721 rfl rfl ⟨Nat.le_of_ble_eq_true rfl, Nat.le_of_ble_eq_true rfl⟩) (wk_preV (ci := 4) (q0 := 0) hPc hK hDc rfl rfl) rfl rfl hl.1 rfl (lv_room (Nat.le_of_ble_eq_true rfl)) d_L_law_775 ⟨by omega, by omega⟩) (fun r1353 er1353 => ?_)
  subst er1353
  refine lv_iload hx hb d_L_law_778 (lv_at hl 1 rfl) ?_
  refine lv_icmp_eq (tgt := 785) hx hb d_L_law_780 (by decide) (fun h1354 => ?_) (fun h1354 => ?_)
  · refine lv_iload hx hb d_L_law_785 (lv_at hl 1 rfl) ?_
    refine lv_if_ne (tgt := 802) hx hb d_L_law_787 (by decide) (fun h1355 => ?_) (fun h1355 => ?_)
    · refine lv_goto (tgt := 1005) hx hb d_L_law_802 (by decide) ?_
      refine W.widen (k := cells + 1) (n := slots + 13) (by omega) (by omega) ?_
      exact kk n ck 2 hh a1 a2 a3 a4 a5 a6 a7 a8 a9 b0 b1 b2 b3 b4 b5 b6 b7 b8 b9 b10 og fo ad eu es H locs _ hnew hP hD hS (lv_sub hl [2, 3, 4, 5, 6] rfl)
    · exact absurd h1355 (by decide)
  · exact absurd h1354 (by decide)
set_option maxHeartbeats 4000000 in
set_option maxRecDepth 100000 in
theorem lq_passC_ZV_R2 {k : Nat} {u : Nat} {sec : Nat} {x : Nat} {y : Nat} {rc : Nat} {c1 : Int64} {c2 : Int64} {zj : Nat} {uz : Nat} {zs : Nat} {zx : Nat} {zy : Nat} {zr : Nat} {zc : Int64} {zd : Int64} {a : Int64} (C0 : lc_C p l s m meth c b L xs G ct A) (hiv : iv + 7 ≤ L) (hcc : cells + 1 ≤ room_1.cells) (hzz : slots + 13 ≤ room_1.slots)
    (hP : va_P G classes (lw_W ct hd us op hm qo qa fu au ns n ck n ck th hh a1 a2 a3 a4 a5 a6 a7 a8 a9 b0 b1 b2 b3 b4 b5 b6 b7 b8 b9 b10 og fo ad eu es) H) (hD : va_D A (lw_W ct hd us op hm qo qa fu au ns n ck n ck th hh a1 a2 a3 a4 a5 a6 a7 a8 a9 b0 b1 b2 b3 b4 b5 b6 b7 b8 b9 b10 og fo ad eu es)) (hS : va_S A s.heap H locs) (hl : lv_has ls 8 [(4, .int (nI iv)), (3, .ref qo), (2, .ref hm), (1, .ref hd), (0, .ref b)])
    (kk : lc_K p l e s m below meth c b L xs G ct A hd us op hm qo qa fu au ns iv (cells + 1) (slots + 13) Q)
    (hv1 : xs (iv + 1) = nI zj) (hv2 : xs (iv + 2) = nI k) (hkn : k < n) (hes : es k = .inr (3, [.ref (au u), .int (b0 k), .long (lN sec), .int (b3 k), .int (b2 k), .long (lN x), .long (lN y), .long (b9 k), .long c1, .long c2, .long (b10 k), .long (lN rc)])) (hzn : zj < n) (hez : es zj = .inr (2, [.ref (au uz), .int (b0 zj), .long (lN zs), .int (b3 zj), .int (b2 zj), .long (lN zx), .long (lN zy), .long (b9 zj), .long zc, .long zd, .long (b10 zj), .long (b5 zj), .long (lN zr)])) (hjk : ¬ zj = k) (d_hn : n ≤ 40) (d_hkn : k < n) (d_hfo : fo k = some (ad k)) (d_hs0 : ¬ se_at (b2 k) (b3 k) ck = 0) (d_hs1 : ¬ se_at (b2 k) (b3 k) ck = 1) (d_hzn : zj < n) (d_hzf : fo zj = some (ad zj)) (d_hxr : (b10 zj) ^^^ (lj (xs (iv + 3)) (xs (iv + 4))) = a) (m_hn : n ≤ 40) (m_hkn : k < n) (m_hst : 1 < sm_at (b2 k) (b3 k) ck) (m_hpm : ∀ j, j < n → (nI zj) = nI j → b10 j ^^^ (lj (xs (iv + 3)) (xs (iv + 4))) = a) (m_hpn : ¬ th_in (nI zj) n → (lj (xs (iv + 3)) (xs (iv + 4))) = a)  (hnew : li_R fu au ns n a1 a2 a3 a4 a5 a6 a7 a8 a9 b0 b1 b2 b3 b4 b5 b6 b7 b8 b9 b10 fo ad eu es)  : W p l e room_1 s m #[Value.ref b] below meth c H locs cells slots Q (F0 m 693 ls []) := by
  obtain ⟨hx, hb, hr, hml, hown, hw, hK, hZ, hR, hN, hfl, hA, hbA, hX, hbl, hL, hlocks⟩ := C0
  have hts := hw
  have hP : va_P G classes (lw_W ct hd us op hm qo qa fu au ns n ck n ck th hh a1 a2 a3 a4 a5 a6 a7 a8 a9 b0 b1 b2 b3 b4 b5 b6 b7 b8 b9 b10 og fo ad eu es) H := hP
  have hD : va_D A (lw_W ct hd us op hm qo qa fu au ns n ck n ck th hh a1 a2 a3 a4 a5 a6 a7 a8 a9 b0 b1 b2 b3 b4 b5 b6 b7 b8 b9 b10 og fo ad eu es) := hD
  refine lv_aload_n hx hb d_L_law_693 rfl (lv_at hl 3 rfl) ?_
  refine lv_aload_n hx hb d_L_law_694 rfl (lv_at hl 4 rfl) ?_
  refine lv_iload hx hb d_L_law_695 (lv_at hl 0 rfl) ?_
  refine lv_iconst (v := 1) hx hb d_L_law_697 (by decide) ?_
  refine lv_iadd hx hb d_L_law_698 ?_
  refine sl_ld (j := iv) (d := 1) hx hb hX hbl hbA hS hL (by omega) d_L_law_699 ?_
  refine tp_i (hv1) ?_
  refine lv_aload_n hx hb d_L_law_700 rfl (lv_at hl 4 rfl) ?_
  refine lv_iload hx hb d_L_law_701 (lv_at hl 0 rfl) ?_
  refine lv_iconst (v := 2) hx hb d_L_law_703 (by decide) ?_
  refine lv_iadd hx hb d_L_law_704 ?_
  refine sl_ld (j := iv) (d := 2) hx hb hX hbl hbA hS hL (by omega) d_L_law_705 ?_
  refine tp_i (hv2) ?_
  refine lv_aload_n hx hb d_L_law_706 rfl (lv_at hl 4 rfl) ?_
  refine lv_iload hx hb d_L_law_707 (lv_at hl 0 rfl) ?_
  refine lv_iconst (v := 3) hx hb d_L_law_709 (by decide) ?_
  refine lv_iadd hx hb d_L_law_710 ?_
  refine sl_ld (j := iv) (d := 3) hx hb hX hbl hbA hS hL (by omega) d_L_law_711 ?_
  refine lv_i2l (v := (xs (iv + 3)).toInt64) hx hb d_L_law_712 rfl ?_
  refine lv_bipush (v := 32) hx hb d_L_law_713 (by decide) ?_
  refine lv_lshl (v := ((xs (iv + 3)).toInt64) <<< ((32 : Int32).toInt64 &&& 63)) hx hb d_L_law_715 rfl ?_
  refine lv_aload_n hx hb d_L_law_716 rfl (lv_at hl 4 rfl) ?_
  refine lv_iload hx hb d_L_law_717 (lv_at hl 0 rfl) ?_
  refine lv_iconst (v := 4) hx hb d_L_law_719 (by decide) ?_
  refine lv_iadd hx hb d_L_law_720 ?_
  refine sl_ld (j := iv) (d := 4) hx hb hX hbl hbA hS hL (by omega) d_L_law_721 ?_
  refine lv_i2l (v := (xs (iv + 4)).toInt64) hx hb d_L_law_722 rfl ?_
  refine lv_ldc2 (v := 4294967295) hx hb hown (hw _ ww_884) d_L_law_723 ?_
  refine lv_land hx hb d_L_law_726 ?_
  refine lv_lor hx hb d_L_law_727 ?_
  refine tp_l (rfl) ?_
  refine lv_aload_n hx hb d_L_law_728 rfl (lv_at hl 1 rfl) ?_
  have hC9 : List.map (fun i => ((lw_W ct hd us op hm qo qa fu au ns n ck n ck th hh a1 a2 a3 a4 a5 a6 a7 a8 a9 b0 b1 b2 b3 b4 b5 b6 b7 b8 b9 b10 og fo ad eu es) : va_W)[i]?) [22, 24, 25 + (8 + k), 25 + (8 + zj), 21] = List.map some ([(hd, .inr (0, [.ref us, .ref op, .int (nI n), .int ck])), (op, .inl ((ct 4), 40, .inr (.inr (.inr (.inr fo))))), ((ad k), .inr (3, [.ref (au u), .int (b0 k), .long (lN sec), .int (b3 k), .int (b2 k), .long (lN x), .long (lN y), .long (b9 k), .long c1, .long c2, .long (b10 k), .long (lN rc)])), ((ad zj), .inr (2, [.ref (au uz), .int (b0 zj), .long (lN zs), .int (b3 zj), .int (b2 zj), .long (lN zx), .long (lN zy), .long (b9 zj), .long zc, .long zd, .long (b10 zj), .long (b5 zj), .long (lN zr)])), (qo, .inl ((ct 1), 1, .inr (.inl og)))] : va_W) := (wc_c rfl (wc_c rfl (wc_c (lw_s rfl hkn hes) (wc_c (lw_s rfl hzn hez) (wc_c rfl rfl)))))
  have hn9 : va_nd [22, 24, 25 + (8 + k), 25 + (8 + zj), 21] = true := (nd_c (by simp only [List.mem_cons, List.not_mem_nil, or_false]; omega) (nd_c (by simp only [List.mem_cons, List.not_mem_nil, or_false]; omega) (nd_c (by simp only [List.mem_cons, List.not_mem_nil, or_false]; omega) (nd_c (by simp only [List.mem_cons, List.not_mem_nil, or_false]; omega) (nd_c List.not_mem_nil rfl)))))
  have hPc : va_P G classes [(hd, .inr (0, [.ref us, .ref op, .int (nI n), .int ck])), (op, .inl ((ct 4), 40, .inr (.inr (.inr (.inr fo))))), ((ad k), .inr (3, [.ref (au u), .int (b0 k), .long (lN sec), .int (b3 k), .int (b2 k), .long (lN x), .long (lN y), .long (b9 k), .long c1, .long c2, .long (b10 k), .long (lN rc)])), ((ad zj), .inr (2, [.ref (au uz), .int (b0 zj), .long (lN zs), .int (b3 zj), .int (b2 zj), .long (lN zx), .long (lN zy), .long (b9 zj), .long zc, .long zd, .long (b10 zj), .long (b5 zj), .long (lN zr)])), (qo, .inl ((ct 1), 1, .inr (.inl og)))] H := lp_sub hP [22, 24, 25 + (8 + k), 25 + (8 + zj), 21] hC9
  have hDc := hD.sub (ws' := [(hd, .inr (0, [.ref us, .ref op, .int (nI n), .int ck])), (op, .inl ((ct 4), 40, .inr (.inr (.inr (.inr fo))))), ((ad k), .inr (3, [.ref (au u), .int (b0 k), .long (lN sec), .int (b3 k), .int (b2 k), .long (lN x), .long (lN y), .long (b9 k), .long c1, .long c2, .long (b10 k), .long (lN rc)])), ((ad zj), .inr (2, [.ref (au uz), .int (b0 zj), .long (lN zs), .int (b3 zj), .int (b2 zj), .long (lN zx), .long (lN zy), .long (b9 zj), .long zc, .long zd, .long (b10 zj), .long (b5 zj), .long (lN zr)])), (qo, .inl ((ct 1), 1, .inr (.inl og)))]) [22, 24, 25 + (8 + k), 25 + (8 + zj), 21] hn9 hC9
  have hW9 : wk_sets ((lw_W ct hd us op hm qo qa fu au ns n ck n ck th hh a1 a2 a3 a4 a5 a6 a7 a8 a9 b0 b1 b2 b3 b4 b5 b6 b7 b8 b9 b10 og fo ad eu es) : va_W) [22, 24, 25 + (8 + k), 25 + (8 + zj), 21] ([(hd, .inr (0, [.ref us, .ref op, .int (nI n), .int ck])), (op, .inl ((ct 4), 40, .inr (.inr (.inr (.inr fo))))), ((ad k), .inr (3, [.ref (au u), .int (b0 k), .long (lN sec), .int (b3 k), .int (b2 k), .long (lN x), .long (lN y), .long (b9 k), .long c1, .long c2, .long (b10 k), .long (lN rc)])), ((ad zj), .inr (2, [.ref (au uz), .int (b0 zj), .long (lN zs), .int (b3 zj), .int (b2 zj), .long (lN zx), .long (lN zy), .long (b9 zj), .long zc, .long zd, .long (b10 zj), .long (b5 zj), .long (lN zr)])), (qo, .inl ((ct 1), 1, .inr (.inl og)))] : va_W) = ((lw_W ct hd us op hm qo qa fu au ns n ck n ck th hh a1 a2 a3 a4 a5 a6 a7 a8 a9 b0 b1 b2 b3 b4 b5 b6 b7 b8 b9 b10 og fo ad eu es) : va_W) := (ws_k rfl (ws_k rfl (ws_k (lw_s rfl hkn hes) (ws_k (lw_s rfl hzn hez) (ws_k rfl rfl)))))
  refine wk_i (sh_run (As := [.ref hd, .int (nI zj), .int (nI k), .long (lj (xs (iv + 3)) (xs (iv + 4))), .ref qo]) (rest := []) (hs := [(0, 12, 15, 25), (0, 12, 19, 15), (0, 12, 23, 13), (0, 12, 27, 27)]) ⟨hx, hb, hml, hown, hts⟩ (c_L_passC_ZV l hfl G ct H.size hd us op n ck fo k (ad k) (au u) (b0 k) sec (b3 k) (b2 k) x y (b9 k) c1 c2 (b10 k) rc a zj (ad zj) (au uz) (b0 zj) zs (b3 zj) (b2 zj) zx zy (b9 zj) zc zd (b10 zj) (b5 zj) zr (lj (xs (iv + 3)) (xs (iv + 4))) qo og d_hn d_hkn d_hfo d_hs0 d_hs1 d_hzn d_hzf d_hxr) ⟨hw, ww_613, ww_0, ⟨by decide, by decide⟩, np_L_pass, ww_611, ww_612, rfl, rfl, Nat.le_of_ble_eq_true rfl, Nat.le_of_ble_eq_true rfl⟩ (wk_pre5 hPc hK hDc hD hS hA [22, 24, 25 + (8 + k), 25 + (8 + zj), 21] hC9 hZ hR hN) rfl hl.1 rfl (lv_room (Nat.le_of_ble_eq_true rfl)) d_L_law_729 ⟨by omega, by omega⟩) hP hD hS hA [22, 24, 25 + (8 + k), 25 + (8 + zj), 21] hn9 hC9 (fun _ => by simp only [List.map_cons, List.map_nil]) (fun _ H locs _ hP hD hS => ?_)
  have hP : va_P G classes (lw_W ct hd us op hm qo qa fu au ns n ck n ck th hh a1 a2 a3 a4 a5 a6 a7 a8 a9 b0 b1 b2 b3 b4 b5 b6 b7 b8 b9 b10 og fo ad eu es) H := lp_P hW9 hP
  have hD : va_D A (lw_W ct hd us op hm qo qa fu au ns n ck n ck th hh a1 a2 a3 a4 a5 a6 a7 a8 a9 b0 b1 b2 b3 b4 b5 b6 b7 b8 b9 b10 og fo ad eu es) := lp_D hW9 hD
  refine lv_istore (lv' := [(5, .int 2), (4, .int (nI iv)), (3, .ref qo), (2, .ref hm), (1, .ref hd), (0, .ref b)]) hx hb d_L_law_732 hl (Nat.le_of_ble_eq_true rfl) rfl (fun ls hl => ?_)
  refine lv_aload_n hx hb d_L_law_734 rfl (lv_at hl 3 rfl) ?_
  refine lv_aload_n hx hb d_L_law_735 rfl (lv_at hl 5 rfl) ?_
  refine lv_iload hx hb d_L_law_736 (lv_at hl 1 rfl) ?_
  refine lv_iconst (v := 1) hx hb d_L_law_738 (by decide) ?_
  refine lv_iadd hx hb d_L_law_739 ?_
  refine sl_ld (j := iv) (d := 1) hx hb hX hbl hbA hS hL (by omega) d_L_law_740 ?_
  refine tp_i (hv1) ?_
  refine lv_aload_n hx hb d_L_law_741 rfl (lv_at hl 5 rfl) ?_
  refine lv_iload hx hb d_L_law_742 (lv_at hl 1 rfl) ?_
  refine lv_iconst (v := 2) hx hb d_L_law_744 (by decide) ?_
  refine lv_iadd hx hb d_L_law_745 ?_
  refine sl_ld (j := iv) (d := 2) hx hb hX hbl hbA hS hL (by omega) d_L_law_746 ?_
  refine tp_i (hv2) ?_
  refine lv_aload_n hx hb d_L_law_747 rfl (lv_at hl 5 rfl) ?_
  refine lv_iload hx hb d_L_law_748 (lv_at hl 1 rfl) ?_
  refine lv_iconst (v := 3) hx hb d_L_law_750 (by decide) ?_
  refine lv_iadd hx hb d_L_law_751 ?_
  refine sl_ld (j := iv) (d := 3) hx hb hX hbl hbA hS hL (by omega) d_L_law_752 ?_
  refine lv_i2l (v := (xs (iv + 3)).toInt64) hx hb d_L_law_753 rfl ?_
  refine lv_bipush (v := 32) hx hb d_L_law_754 (by decide) ?_
  refine lv_lshl (v := ((xs (iv + 3)).toInt64) <<< ((32 : Int32).toInt64 &&& 63)) hx hb d_L_law_756 rfl ?_
  refine lv_aload_n hx hb d_L_law_757 rfl (lv_at hl 5 rfl) ?_
  refine lv_iload hx hb d_L_law_758 (lv_at hl 1 rfl) ?_
  refine lv_iconst (v := 4) hx hb d_L_law_760 (by decide) ?_
  refine lv_iadd hx hb d_L_law_761 ?_
  refine sl_ld (j := iv) (d := 4) hx hb hX hbl hbA hS hL (by omega) d_L_law_762 ?_
  refine lv_i2l (v := (xs (iv + 4)).toInt64) hx hb d_L_law_763 rfl ?_
  refine lv_ldc2 (v := 4294967295) hx hb hown (hw _ ww_884) d_L_law_764 ?_
  refine lv_land hx hb d_L_law_767 ?_
  refine lv_lor hx hb d_L_law_768 ?_
  refine tp_l (rfl) ?_
  have hC9 : List.map (fun i => ((lw_W ct hd us op hm qo qa fu au ns n ck n ck th hh a1 a2 a3 a4 a5 a6 a7 a8 a9 b0 b1 b2 b3 b4 b5 b6 b7 b8 b9 b10 og fo ad eu es) : va_W)[i]?) [0, 12, 13, 20] = List.map some ([(hm, .inr (4, [.int th, .long ns.toInt64, .int ck, .long hh, .ref (qa 1), .ref (qa 2), .ref (qa 3), .ref (qa 4), .ref (qa 5), .ref (qa 6), .ref (qa 7), .ref (qa 8), .int (nI n), .ref (qa 9), .ref (qa 10), .ref (qa 11), .ref (qa 12), .ref (qa 13), .ref (qa 14), .ref (qa 15), .ref (qa 16), .ref (qa 17), .ref (qa 18), .ref (qa 19), .ref (qa 20)])), ((qa 12), .inl ((ct 0), 40, .inl b2)), ((qa 13), .inl ((ct 0), 40, .inl b3)), ((qa 20), .inl ((ct 1), 40, .inr (.inl b10)))] : va_W) := (wc_c rfl (wc_c rfl (wc_c rfl (wc_c rfl rfl))))
  have hn9 : va_nd [0, 12, 13, 20] = true := by decide
  have hPc : va_P G classes [(hm, .inr (4, [.int th, .long ns.toInt64, .int ck, .long hh, .ref (qa 1), .ref (qa 2), .ref (qa 3), .ref (qa 4), .ref (qa 5), .ref (qa 6), .ref (qa 7), .ref (qa 8), .int (nI n), .ref (qa 9), .ref (qa 10), .ref (qa 11), .ref (qa 12), .ref (qa 13), .ref (qa 14), .ref (qa 15), .ref (qa 16), .ref (qa 17), .ref (qa 18), .ref (qa 19), .ref (qa 20)])), ((qa 12), .inl ((ct 0), 40, .inl b2)), ((qa 13), .inl ((ct 0), 40, .inl b3)), ((qa 20), .inl ((ct 1), 40, .inr (.inl b10)))] H := lp_sub hP [0, 12, 13, 20] hC9
  have hDc := hD.sub (ws' := [(hm, .inr (4, [.int th, .long ns.toInt64, .int ck, .long hh, .ref (qa 1), .ref (qa 2), .ref (qa 3), .ref (qa 4), .ref (qa 5), .ref (qa 6), .ref (qa 7), .ref (qa 8), .int (nI n), .ref (qa 9), .ref (qa 10), .ref (qa 11), .ref (qa 12), .ref (qa 13), .ref (qa 14), .ref (qa 15), .ref (qa 16), .ref (qa 17), .ref (qa 18), .ref (qa 19), .ref (qa 20)])), ((qa 12), .inl ((ct 0), 40, .inl b2)), ((qa 13), .inl ((ct 0), 40, .inl b3)), ((qa 20), .inl ((ct 1), 40, .inr (.inl b10)))]) [0, 12, 13, 20] hn9 hC9
  refine wk_i (va_runV (As := [.int (nI zj), .int (nI k), .long (lj (xs (iv + 3)) (xs (iv + 4)))]) (rest := []) ⟨hx, hb, hml, hown, hts⟩ (c_M_pass_R2 l G ct H.size hm th ns.toInt64 ck hh (qa 1) (qa 2) (qa 3) (qa 4) (qa 5) (qa 6) (qa 7) (qa 8) (qa 9) (qa 10) (qa 11) (qa 12) (qa 13) (qa 14) (qa 15) (qa 16) (qa 17) (qa 18) (qa 19) (qa 20) n b2 b3 b10 k a (nI zj) (lj (xs (iv + 3)) (xs (iv + 4))) m_hn m_hkn m_hst m_hpm m_hpn) (tb_V hw cy_M_pass ww_856 ww_857 ww_858 rfl rfl ⟨Nat.le_of_ble_eq_true rfl, Nat.le_of_ble_eq_true rfl⟩) (wk_preV (ci := 4) (q0 := 0) hPc hK hDc rfl rfl) rfl rfl hl.1 rfl (lv_room (Nat.le_of_ble_eq_true rfl)) d_L_law_769 ⟨by omega, by omega⟩) hP hD hS hA [0, 12, 13, 20] hn9 hC9 (fun _ => by simp only [List.map_cons, List.map_nil]) (fun _ H locs _ hP hD hS => ?_)
  have hW9 : wk_sets ((lw_W ct hd us op hm qo qa fu au ns n ck n ck th hh a1 a2 a3 a4 a5 a6 a7 a8 a9 b0 b1 b2 b3 b4 b5 b6 b7 b8 b9 b10 og fo ad eu es) : va_W) [0, 12, 13, 20] ([(hm, .inr (4, [.int 2, .long ns.toInt64, .int ck, .long hh, .ref (qa 1), .ref (qa 2), .ref (qa 3), .ref (qa 4), .ref (qa 5), .ref (qa 6), .ref (qa 7), .ref (qa 8), .int (nI n), .ref (qa 9), .ref (qa 10), .ref (qa 11), .ref (qa 12), .ref (qa 13), .ref (qa 14), .ref (qa 15), .ref (qa 16), .ref (qa 17), .ref (qa 18), .ref (qa 19), .ref (qa 20)])), ((qa 12), .inl ((ct 0), 40, .inl b2)), ((qa 13), .inl ((ct 0), 40, .inl b3)), ((qa 20), .inl ((ct 1), 40, .inr (.inl b10)))] : va_W) = ((lw_W ct hd us op hm qo qa fu au ns n ck n ck 2 hh a1 a2 a3 a4 a5 a6 a7 a8 a9 b0 b1 b2 b3 b4 b5 b6 b7 b8 b9 b10 og fo ad eu es) : va_W) := (ws_c (ws' := (lw_W ct hd us op hm qo qa fu au ns n ck n ck 2 hh a1 a2 a3 a4 a5 a6 a7 a8 a9 b0 b1 b2 b3 b4 b5 b6 b7 b8 b9 b10 og fo ad eu es)) rfl (ws_k rfl (ws_k rfl (ws_k rfl rfl))))
  have hP : va_P G classes (lw_W ct hd us op hm qo qa fu au ns n ck n ck 2 hh a1 a2 a3 a4 a5 a6 a7 a8 a9 b0 b1 b2 b3 b4 b5 b6 b7 b8 b9 b10 og fo ad eu es) H := lp_P hW9 hP
  have hD : va_D A (lw_W ct hd us op hm qo qa fu au ns n ck n ck 2 hh a1 a2 a3 a4 a5 a6 a7 a8 a9 b0 b1 b2 b3 b4 b5 b6 b7 b8 b9 b10 og fo ad eu es) := lp_D hW9 hD
  refine lv_istore (lv' := [(6, .int 0), (5, .int 2), (4, .int (nI iv)), (3, .ref qo), (2, .ref hm), (1, .ref hd), (0, .ref b)]) hx hb d_L_law_772 hl (Nat.le_of_ble_eq_true rfl) rfl (fun ls hl => ?_)
  refine lv_aload_n hx hb d_L_law_774 rfl (lv_at hl 4 rfl) ?_
  have hPc : va_P G classes [(hm, .inr (4, [.int 2, .long ns.toInt64, .int ck, .long hh, .ref (qa 1), .ref (qa 2), .ref (qa 3), .ref (qa 4), .ref (qa 5), .ref (qa 6), .ref (qa 7), .ref (qa 8), .int (nI n), .ref (qa 9), .ref (qa 10), .ref (qa 11), .ref (qa 12), .ref (qa 13), .ref (qa 14), .ref (qa 15), .ref (qa 16), .ref (qa 17), .ref (qa 18), .ref (qa 19), .ref (qa 20)]))] H := hP.sub [0] rfl
  have hDc := hD.sub (ws' := [(hm, .inr (4, [.int 2, .long ns.toInt64, .int ck, .long hh, .ref (qa 1), .ref (qa 2), .ref (qa 3), .ref (qa 4), .ref (qa 5), .ref (qa 6), .ref (qa 7), .ref (qa 8), .int (nI n), .ref (qa 9), .ref (qa 10), .ref (qa 11), .ref (qa 12), .ref (qa 13), .ref (qa 14), .ref (qa 15), .ref (qa 16), .ref (qa 17), .ref (qa 18), .ref (qa 19), .ref (qa 20)]))]) [0] (by decide) rfl
  refine vp_callSi (W.runV (As := []) (rest := []) ⟨hx, hb, hml, hown, hts⟩ (c_M_thrown l G ct H.size hm 2 ns.toInt64 ck hh (qa 1) (qa 2) (qa 3) (qa 4) (qa 5) (qa 6) (qa 7) (qa 8) (qa 9) (qa 10) (qa 11) (qa 12) (qa 13) (qa 14) (qa 15) (qa 16) (qa 17) (qa 18) (qa 19) (qa 20) n) (tb_V hw cy_M_thrown ww_719 ww_720 ww_721 rfl rfl ⟨Nat.le_of_ble_eq_true rfl, Nat.le_of_ble_eq_true rfl⟩) (wk_preV (ci := 4) (q0 := 0) hPc hK hDc rfl rfl) rfl rfl hl.1 rfl (lv_room (Nat.le_of_ble_eq_true rfl)) d_L_law_775 ⟨by omega, by omega⟩) (fun r1356 er1356 => ?_)
  subst er1356
  refine lv_iload hx hb d_L_law_778 (lv_at hl 1 rfl) ?_
  refine lv_icmp_eq (tgt := 785) hx hb d_L_law_780 (by decide) (fun h1357 => ?_) (fun h1357 => ?_)
  · refine lv_iload hx hb d_L_law_785 (lv_at hl 1 rfl) ?_
    refine lv_if_ne (tgt := 802) hx hb d_L_law_787 (by decide) (fun h1358 => ?_) (fun h1358 => ?_)
    · refine lv_goto (tgt := 1005) hx hb d_L_law_802 (by decide) ?_
      refine W.widen (k := cells + 1) (n := slots + 13) (by omega) (by omega) ?_
      exact kk n ck 2 hh a1 a2 a3 a4 a5 a6 a7 a8 a9 b0 b1 b2 b3 b4 b5 b6 b7 b8 b9 b10 og fo ad eu es H locs _ hnew hP hD hS (lv_sub hl [2, 3, 4, 5, 6] rfl)
    · exact absurd h1358 (by decide)
  · exact absurd h1357 (by decide)
set_option maxHeartbeats 4000000 in
set_option maxRecDepth 100000 in
theorem lq_passV_ZV_R2 {k : Nat} {u : Nat} {sec : Nat} {x : Nat} {y : Nat} {rc : Nat} {c1 : Int64} {c2 : Int64} {zj : Nat} {uz : Nat} {zs : Nat} {zx : Nat} {zy : Nat} {zr : Nat} {zc : Int64} {zd : Int64} {a : Int64} (C0 : lc_C p l s m meth c b L xs G ct A) (hiv : iv + 7 ≤ L) (hcc : cells + 1 ≤ room_1.cells) (hzz : slots + 13 ≤ room_1.slots)
    (hP : va_P G classes (lw_W ct hd us op hm qo qa fu au ns n ck n ck th hh a1 a2 a3 a4 a5 a6 a7 a8 a9 b0 b1 b2 b3 b4 b5 b6 b7 b8 b9 b10 og fo ad eu es) H) (hD : va_D A (lw_W ct hd us op hm qo qa fu au ns n ck n ck th hh a1 a2 a3 a4 a5 a6 a7 a8 a9 b0 b1 b2 b3 b4 b5 b6 b7 b8 b9 b10 og fo ad eu es)) (hS : va_S A s.heap H locs) (hl : lv_has ls 8 [(4, .int (nI iv)), (3, .ref qo), (2, .ref hm), (1, .ref hd), (0, .ref b)])
    (kk : lc_K p l e s m below meth c b L xs G ct A hd us op hm qo qa fu au ns iv (cells + 1) (slots + 13) Q)
    (hv1 : xs (iv + 1) = nI zj) (hv2 : xs (iv + 2) = nI k) (hkn : k < n) (hes : es k = .inr (3, [.ref (au u), .int (b0 k), .long (lN sec), .int (b3 k), .int (b2 k), .long (lN x), .long (lN y), .long (b9 k), .long c1, .long c2, .long (b10 k), .long (lN rc)])) (hzn : zj < n) (hez : es zj = .inr (3, [.ref (au uz), .int (b0 zj), .long (lN zs), .int (b3 zj), .int (b2 zj), .long (lN zx), .long (lN zy), .long (b9 zj), .long zc, .long zd, .long (b10 zj), .long (lN zr)])) (hjk : ¬ zj = k) (d_hn : n ≤ 40) (d_hkn : k < n) (d_hfo : fo k = some (ad k)) (d_hs0 : ¬ se_at (b2 k) (b3 k) ck = 0) (d_hs1 : ¬ se_at (b2 k) (b3 k) ck = 1) (d_hzn : zj < n) (d_hzf : fo zj = some (ad zj)) (d_hxr : (b10 zj) ^^^ (lj (xs (iv + 3)) (xs (iv + 4))) = a) (m_hn : n ≤ 40) (m_hkn : k < n) (m_hst : 1 < sm_at (b2 k) (b3 k) ck) (m_hpm : ∀ j, j < n → (nI zj) = nI j → b10 j ^^^ (lj (xs (iv + 3)) (xs (iv + 4))) = a) (m_hpn : ¬ th_in (nI zj) n → (lj (xs (iv + 3)) (xs (iv + 4))) = a)  (hnew : li_R fu au ns n a1 a2 a3 a4 a5 a6 a7 a8 a9 b0 b1 b2 b3 b4 b5 b6 b7 b8 b9 b10 fo ad eu es)  : W p l e room_1 s m #[Value.ref b] below meth c H locs cells slots Q (F0 m 693 ls []) := by
  obtain ⟨hx, hb, hr, hml, hown, hw, hK, hZ, hR, hN, hfl, hA, hbA, hX, hbl, hL, hlocks⟩ := C0
  have hts := hw
  have hP : va_P G classes (lw_W ct hd us op hm qo qa fu au ns n ck n ck th hh a1 a2 a3 a4 a5 a6 a7 a8 a9 b0 b1 b2 b3 b4 b5 b6 b7 b8 b9 b10 og fo ad eu es) H := hP
  have hD : va_D A (lw_W ct hd us op hm qo qa fu au ns n ck n ck th hh a1 a2 a3 a4 a5 a6 a7 a8 a9 b0 b1 b2 b3 b4 b5 b6 b7 b8 b9 b10 og fo ad eu es) := hD
  refine lv_aload_n hx hb d_L_law_693 rfl (lv_at hl 3 rfl) ?_
  refine lv_aload_n hx hb d_L_law_694 rfl (lv_at hl 4 rfl) ?_
  refine lv_iload hx hb d_L_law_695 (lv_at hl 0 rfl) ?_
  refine lv_iconst (v := 1) hx hb d_L_law_697 (by decide) ?_
  refine lv_iadd hx hb d_L_law_698 ?_
  refine sl_ld (j := iv) (d := 1) hx hb hX hbl hbA hS hL (by omega) d_L_law_699 ?_
  refine tp_i (hv1) ?_
  refine lv_aload_n hx hb d_L_law_700 rfl (lv_at hl 4 rfl) ?_
  refine lv_iload hx hb d_L_law_701 (lv_at hl 0 rfl) ?_
  refine lv_iconst (v := 2) hx hb d_L_law_703 (by decide) ?_
  refine lv_iadd hx hb d_L_law_704 ?_
  refine sl_ld (j := iv) (d := 2) hx hb hX hbl hbA hS hL (by omega) d_L_law_705 ?_
  refine tp_i (hv2) ?_
  refine lv_aload_n hx hb d_L_law_706 rfl (lv_at hl 4 rfl) ?_
  refine lv_iload hx hb d_L_law_707 (lv_at hl 0 rfl) ?_
  refine lv_iconst (v := 3) hx hb d_L_law_709 (by decide) ?_
  refine lv_iadd hx hb d_L_law_710 ?_
  refine sl_ld (j := iv) (d := 3) hx hb hX hbl hbA hS hL (by omega) d_L_law_711 ?_
  refine lv_i2l (v := (xs (iv + 3)).toInt64) hx hb d_L_law_712 rfl ?_
  refine lv_bipush (v := 32) hx hb d_L_law_713 (by decide) ?_
  refine lv_lshl (v := ((xs (iv + 3)).toInt64) <<< ((32 : Int32).toInt64 &&& 63)) hx hb d_L_law_715 rfl ?_
  refine lv_aload_n hx hb d_L_law_716 rfl (lv_at hl 4 rfl) ?_
  refine lv_iload hx hb d_L_law_717 (lv_at hl 0 rfl) ?_
  refine lv_iconst (v := 4) hx hb d_L_law_719 (by decide) ?_
  refine lv_iadd hx hb d_L_law_720 ?_
  refine sl_ld (j := iv) (d := 4) hx hb hX hbl hbA hS hL (by omega) d_L_law_721 ?_
  refine lv_i2l (v := (xs (iv + 4)).toInt64) hx hb d_L_law_722 rfl ?_
  refine lv_ldc2 (v := 4294967295) hx hb hown (hw _ ww_884) d_L_law_723 ?_
  refine lv_land hx hb d_L_law_726 ?_
  refine lv_lor hx hb d_L_law_727 ?_
  refine tp_l (rfl) ?_
  refine lv_aload_n hx hb d_L_law_728 rfl (lv_at hl 1 rfl) ?_
  have hC9 : List.map (fun i => ((lw_W ct hd us op hm qo qa fu au ns n ck n ck th hh a1 a2 a3 a4 a5 a6 a7 a8 a9 b0 b1 b2 b3 b4 b5 b6 b7 b8 b9 b10 og fo ad eu es) : va_W)[i]?) [22, 24, 25 + (8 + k), 25 + (8 + zj), 21] = List.map some ([(hd, .inr (0, [.ref us, .ref op, .int (nI n), .int ck])), (op, .inl ((ct 4), 40, .inr (.inr (.inr (.inr fo))))), ((ad k), .inr (3, [.ref (au u), .int (b0 k), .long (lN sec), .int (b3 k), .int (b2 k), .long (lN x), .long (lN y), .long (b9 k), .long c1, .long c2, .long (b10 k), .long (lN rc)])), ((ad zj), .inr (3, [.ref (au uz), .int (b0 zj), .long (lN zs), .int (b3 zj), .int (b2 zj), .long (lN zx), .long (lN zy), .long (b9 zj), .long zc, .long zd, .long (b10 zj), .long (lN zr)])), (qo, .inl ((ct 1), 1, .inr (.inl og)))] : va_W) := (wc_c rfl (wc_c rfl (wc_c (lw_s rfl hkn hes) (wc_c (lw_s rfl hzn hez) (wc_c rfl rfl)))))
  have hn9 : va_nd [22, 24, 25 + (8 + k), 25 + (8 + zj), 21] = true := (nd_c (by simp only [List.mem_cons, List.not_mem_nil, or_false]; omega) (nd_c (by simp only [List.mem_cons, List.not_mem_nil, or_false]; omega) (nd_c (by simp only [List.mem_cons, List.not_mem_nil, or_false]; omega) (nd_c (by simp only [List.mem_cons, List.not_mem_nil, or_false]; omega) (nd_c List.not_mem_nil rfl)))))
  have hPc : va_P G classes [(hd, .inr (0, [.ref us, .ref op, .int (nI n), .int ck])), (op, .inl ((ct 4), 40, .inr (.inr (.inr (.inr fo))))), ((ad k), .inr (3, [.ref (au u), .int (b0 k), .long (lN sec), .int (b3 k), .int (b2 k), .long (lN x), .long (lN y), .long (b9 k), .long c1, .long c2, .long (b10 k), .long (lN rc)])), ((ad zj), .inr (3, [.ref (au uz), .int (b0 zj), .long (lN zs), .int (b3 zj), .int (b2 zj), .long (lN zx), .long (lN zy), .long (b9 zj), .long zc, .long zd, .long (b10 zj), .long (lN zr)])), (qo, .inl ((ct 1), 1, .inr (.inl og)))] H := lp_sub hP [22, 24, 25 + (8 + k), 25 + (8 + zj), 21] hC9
  have hDc := hD.sub (ws' := [(hd, .inr (0, [.ref us, .ref op, .int (nI n), .int ck])), (op, .inl ((ct 4), 40, .inr (.inr (.inr (.inr fo))))), ((ad k), .inr (3, [.ref (au u), .int (b0 k), .long (lN sec), .int (b3 k), .int (b2 k), .long (lN x), .long (lN y), .long (b9 k), .long c1, .long c2, .long (b10 k), .long (lN rc)])), ((ad zj), .inr (3, [.ref (au uz), .int (b0 zj), .long (lN zs), .int (b3 zj), .int (b2 zj), .long (lN zx), .long (lN zy), .long (b9 zj), .long zc, .long zd, .long (b10 zj), .long (lN zr)])), (qo, .inl ((ct 1), 1, .inr (.inl og)))]) [22, 24, 25 + (8 + k), 25 + (8 + zj), 21] hn9 hC9
  have hW9 : wk_sets ((lw_W ct hd us op hm qo qa fu au ns n ck n ck th hh a1 a2 a3 a4 a5 a6 a7 a8 a9 b0 b1 b2 b3 b4 b5 b6 b7 b8 b9 b10 og fo ad eu es) : va_W) [22, 24, 25 + (8 + k), 25 + (8 + zj), 21] ([(hd, .inr (0, [.ref us, .ref op, .int (nI n), .int ck])), (op, .inl ((ct 4), 40, .inr (.inr (.inr (.inr fo))))), ((ad k), .inr (3, [.ref (au u), .int (b0 k), .long (lN sec), .int (b3 k), .int (b2 k), .long (lN x), .long (lN y), .long (b9 k), .long c1, .long c2, .long (b10 k), .long (lN rc)])), ((ad zj), .inr (3, [.ref (au uz), .int (b0 zj), .long (lN zs), .int (b3 zj), .int (b2 zj), .long (lN zx), .long (lN zy), .long (b9 zj), .long zc, .long zd, .long (b10 zj), .long (lN zr)])), (qo, .inl ((ct 1), 1, .inr (.inl og)))] : va_W) = ((lw_W ct hd us op hm qo qa fu au ns n ck n ck th hh a1 a2 a3 a4 a5 a6 a7 a8 a9 b0 b1 b2 b3 b4 b5 b6 b7 b8 b9 b10 og fo ad eu es) : va_W) := (ws_k rfl (ws_k rfl (ws_k (lw_s rfl hkn hes) (ws_k (lw_s rfl hzn hez) (ws_k rfl rfl)))))
  refine wk_i (sh_run (As := [.ref hd, .int (nI zj), .int (nI k), .long (lj (xs (iv + 3)) (xs (iv + 4))), .ref qo]) (rest := []) (hs := [(0, 12, 15, 25), (0, 12, 19, 15), (0, 12, 23, 13), (0, 12, 27, 27)]) ⟨hx, hb, hml, hown, hts⟩ (c_L_passV_ZV l hfl G ct H.size hd us op n ck fo k (ad k) (au u) (b0 k) sec (b3 k) (b2 k) x y (b9 k) c1 c2 (b10 k) rc a zj (ad zj) (au uz) (b0 zj) zs (b3 zj) (b2 zj) zx zy (b9 zj) zc zd (b10 zj) zr (lj (xs (iv + 3)) (xs (iv + 4))) qo og d_hn d_hkn d_hfo d_hs0 d_hs1 d_hzn d_hzf d_hxr) ⟨hw, ww_613, ww_0, ⟨by decide, by decide⟩, np_L_pass, ww_611, ww_612, rfl, rfl, Nat.le_of_ble_eq_true rfl, Nat.le_of_ble_eq_true rfl⟩ (wk_pre5 hPc hK hDc hD hS hA [22, 24, 25 + (8 + k), 25 + (8 + zj), 21] hC9 hZ hR hN) rfl hl.1 rfl (lv_room (Nat.le_of_ble_eq_true rfl)) d_L_law_729 ⟨by omega, by omega⟩) hP hD hS hA [22, 24, 25 + (8 + k), 25 + (8 + zj), 21] hn9 hC9 (fun _ => by simp only [List.map_cons, List.map_nil]) (fun _ H locs _ hP hD hS => ?_)
  have hP : va_P G classes (lw_W ct hd us op hm qo qa fu au ns n ck n ck th hh a1 a2 a3 a4 a5 a6 a7 a8 a9 b0 b1 b2 b3 b4 b5 b6 b7 b8 b9 b10 og fo ad eu es) H := lp_P hW9 hP
  have hD : va_D A (lw_W ct hd us op hm qo qa fu au ns n ck n ck th hh a1 a2 a3 a4 a5 a6 a7 a8 a9 b0 b1 b2 b3 b4 b5 b6 b7 b8 b9 b10 og fo ad eu es) := lp_D hW9 hD
  refine lv_istore (lv' := [(5, .int 2), (4, .int (nI iv)), (3, .ref qo), (2, .ref hm), (1, .ref hd), (0, .ref b)]) hx hb d_L_law_732 hl (Nat.le_of_ble_eq_true rfl) rfl (fun ls hl => ?_)
  refine lv_aload_n hx hb d_L_law_734 rfl (lv_at hl 3 rfl) ?_
  refine lv_aload_n hx hb d_L_law_735 rfl (lv_at hl 5 rfl) ?_
  refine lv_iload hx hb d_L_law_736 (lv_at hl 1 rfl) ?_
  refine lv_iconst (v := 1) hx hb d_L_law_738 (by decide) ?_
  refine lv_iadd hx hb d_L_law_739 ?_
  refine sl_ld (j := iv) (d := 1) hx hb hX hbl hbA hS hL (by omega) d_L_law_740 ?_
  refine tp_i (hv1) ?_
  refine lv_aload_n hx hb d_L_law_741 rfl (lv_at hl 5 rfl) ?_
  refine lv_iload hx hb d_L_law_742 (lv_at hl 1 rfl) ?_
  refine lv_iconst (v := 2) hx hb d_L_law_744 (by decide) ?_
  refine lv_iadd hx hb d_L_law_745 ?_
  refine sl_ld (j := iv) (d := 2) hx hb hX hbl hbA hS hL (by omega) d_L_law_746 ?_
  refine tp_i (hv2) ?_
  refine lv_aload_n hx hb d_L_law_747 rfl (lv_at hl 5 rfl) ?_
  refine lv_iload hx hb d_L_law_748 (lv_at hl 1 rfl) ?_
  refine lv_iconst (v := 3) hx hb d_L_law_750 (by decide) ?_
  refine lv_iadd hx hb d_L_law_751 ?_
  refine sl_ld (j := iv) (d := 3) hx hb hX hbl hbA hS hL (by omega) d_L_law_752 ?_
  refine lv_i2l (v := (xs (iv + 3)).toInt64) hx hb d_L_law_753 rfl ?_
  refine lv_bipush (v := 32) hx hb d_L_law_754 (by decide) ?_
  refine lv_lshl (v := ((xs (iv + 3)).toInt64) <<< ((32 : Int32).toInt64 &&& 63)) hx hb d_L_law_756 rfl ?_
  refine lv_aload_n hx hb d_L_law_757 rfl (lv_at hl 5 rfl) ?_
  refine lv_iload hx hb d_L_law_758 (lv_at hl 1 rfl) ?_
  refine lv_iconst (v := 4) hx hb d_L_law_760 (by decide) ?_
  refine lv_iadd hx hb d_L_law_761 ?_
  refine sl_ld (j := iv) (d := 4) hx hb hX hbl hbA hS hL (by omega) d_L_law_762 ?_
  refine lv_i2l (v := (xs (iv + 4)).toInt64) hx hb d_L_law_763 rfl ?_
  refine lv_ldc2 (v := 4294967295) hx hb hown (hw _ ww_884) d_L_law_764 ?_
  refine lv_land hx hb d_L_law_767 ?_
  refine lv_lor hx hb d_L_law_768 ?_
  refine tp_l (rfl) ?_
  have hC9 : List.map (fun i => ((lw_W ct hd us op hm qo qa fu au ns n ck n ck th hh a1 a2 a3 a4 a5 a6 a7 a8 a9 b0 b1 b2 b3 b4 b5 b6 b7 b8 b9 b10 og fo ad eu es) : va_W)[i]?) [0, 12, 13, 20] = List.map some ([(hm, .inr (4, [.int th, .long ns.toInt64, .int ck, .long hh, .ref (qa 1), .ref (qa 2), .ref (qa 3), .ref (qa 4), .ref (qa 5), .ref (qa 6), .ref (qa 7), .ref (qa 8), .int (nI n), .ref (qa 9), .ref (qa 10), .ref (qa 11), .ref (qa 12), .ref (qa 13), .ref (qa 14), .ref (qa 15), .ref (qa 16), .ref (qa 17), .ref (qa 18), .ref (qa 19), .ref (qa 20)])), ((qa 12), .inl ((ct 0), 40, .inl b2)), ((qa 13), .inl ((ct 0), 40, .inl b3)), ((qa 20), .inl ((ct 1), 40, .inr (.inl b10)))] : va_W) := (wc_c rfl (wc_c rfl (wc_c rfl (wc_c rfl rfl))))
  have hn9 : va_nd [0, 12, 13, 20] = true := by decide
  have hPc : va_P G classes [(hm, .inr (4, [.int th, .long ns.toInt64, .int ck, .long hh, .ref (qa 1), .ref (qa 2), .ref (qa 3), .ref (qa 4), .ref (qa 5), .ref (qa 6), .ref (qa 7), .ref (qa 8), .int (nI n), .ref (qa 9), .ref (qa 10), .ref (qa 11), .ref (qa 12), .ref (qa 13), .ref (qa 14), .ref (qa 15), .ref (qa 16), .ref (qa 17), .ref (qa 18), .ref (qa 19), .ref (qa 20)])), ((qa 12), .inl ((ct 0), 40, .inl b2)), ((qa 13), .inl ((ct 0), 40, .inl b3)), ((qa 20), .inl ((ct 1), 40, .inr (.inl b10)))] H := lp_sub hP [0, 12, 13, 20] hC9
  have hDc := hD.sub (ws' := [(hm, .inr (4, [.int th, .long ns.toInt64, .int ck, .long hh, .ref (qa 1), .ref (qa 2), .ref (qa 3), .ref (qa 4), .ref (qa 5), .ref (qa 6), .ref (qa 7), .ref (qa 8), .int (nI n), .ref (qa 9), .ref (qa 10), .ref (qa 11), .ref (qa 12), .ref (qa 13), .ref (qa 14), .ref (qa 15), .ref (qa 16), .ref (qa 17), .ref (qa 18), .ref (qa 19), .ref (qa 20)])), ((qa 12), .inl ((ct 0), 40, .inl b2)), ((qa 13), .inl ((ct 0), 40, .inl b3)), ((qa 20), .inl ((ct 1), 40, .inr (.inl b10)))]) [0, 12, 13, 20] hn9 hC9
  refine wk_i (va_runV (As := [.int (nI zj), .int (nI k), .long (lj (xs (iv + 3)) (xs (iv + 4)))]) (rest := []) ⟨hx, hb, hml, hown, hts⟩ (c_M_pass_R2 l G ct H.size hm th ns.toInt64 ck hh (qa 1) (qa 2) (qa 3) (qa 4) (qa 5) (qa 6) (qa 7) (qa 8) (qa 9) (qa 10) (qa 11) (qa 12) (qa 13) (qa 14) (qa 15) (qa 16) (qa 17) (qa 18) (qa 19) (qa 20) n b2 b3 b10 k a (nI zj) (lj (xs (iv + 3)) (xs (iv + 4))) m_hn m_hkn m_hst m_hpm m_hpn) (tb_V hw cy_M_pass ww_856 ww_857 ww_858 rfl rfl ⟨Nat.le_of_ble_eq_true rfl, Nat.le_of_ble_eq_true rfl⟩) (wk_preV (ci := 4) (q0 := 0) hPc hK hDc rfl rfl) rfl rfl hl.1 rfl (lv_room (Nat.le_of_ble_eq_true rfl)) d_L_law_769 ⟨by omega, by omega⟩) hP hD hS hA [0, 12, 13, 20] hn9 hC9 (fun _ => by simp only [List.map_cons, List.map_nil]) (fun _ H locs _ hP hD hS => ?_)
  have hW9 : wk_sets ((lw_W ct hd us op hm qo qa fu au ns n ck n ck th hh a1 a2 a3 a4 a5 a6 a7 a8 a9 b0 b1 b2 b3 b4 b5 b6 b7 b8 b9 b10 og fo ad eu es) : va_W) [0, 12, 13, 20] ([(hm, .inr (4, [.int 2, .long ns.toInt64, .int ck, .long hh, .ref (qa 1), .ref (qa 2), .ref (qa 3), .ref (qa 4), .ref (qa 5), .ref (qa 6), .ref (qa 7), .ref (qa 8), .int (nI n), .ref (qa 9), .ref (qa 10), .ref (qa 11), .ref (qa 12), .ref (qa 13), .ref (qa 14), .ref (qa 15), .ref (qa 16), .ref (qa 17), .ref (qa 18), .ref (qa 19), .ref (qa 20)])), ((qa 12), .inl ((ct 0), 40, .inl b2)), ((qa 13), .inl ((ct 0), 40, .inl b3)), ((qa 20), .inl ((ct 1), 40, .inr (.inl b10)))] : va_W) = ((lw_W ct hd us op hm qo qa fu au ns n ck n ck 2 hh a1 a2 a3 a4 a5 a6 a7 a8 a9 b0 b1 b2 b3 b4 b5 b6 b7 b8 b9 b10 og fo ad eu es) : va_W) := (ws_c (ws' := (lw_W ct hd us op hm qo qa fu au ns n ck n ck 2 hh a1 a2 a3 a4 a5 a6 a7 a8 a9 b0 b1 b2 b3 b4 b5 b6 b7 b8 b9 b10 og fo ad eu es)) rfl (ws_k rfl (ws_k rfl (ws_k rfl rfl))))
  have hP : va_P G classes (lw_W ct hd us op hm qo qa fu au ns n ck n ck 2 hh a1 a2 a3 a4 a5 a6 a7 a8 a9 b0 b1 b2 b3 b4 b5 b6 b7 b8 b9 b10 og fo ad eu es) H := lp_P hW9 hP
  have hD : va_D A (lw_W ct hd us op hm qo qa fu au ns n ck n ck 2 hh a1 a2 a3 a4 a5 a6 a7 a8 a9 b0 b1 b2 b3 b4 b5 b6 b7 b8 b9 b10 og fo ad eu es) := lp_D hW9 hD
  refine lv_istore (lv' := [(6, .int 0), (5, .int 2), (4, .int (nI iv)), (3, .ref qo), (2, .ref hm), (1, .ref hd), (0, .ref b)]) hx hb d_L_law_772 hl (Nat.le_of_ble_eq_true rfl) rfl (fun ls hl => ?_)
  refine lv_aload_n hx hb d_L_law_774 rfl (lv_at hl 4 rfl) ?_
  have hPc : va_P G classes [(hm, .inr (4, [.int 2, .long ns.toInt64, .int ck, .long hh, .ref (qa 1), .ref (qa 2), .ref (qa 3), .ref (qa 4), .ref (qa 5), .ref (qa 6), .ref (qa 7), .ref (qa 8), .int (nI n), .ref (qa 9), .ref (qa 10), .ref (qa 11), .ref (qa 12), .ref (qa 13), .ref (qa 14), .ref (qa 15), .ref (qa 16), .ref (qa 17), .ref (qa 18), .ref (qa 19), .ref (qa 20)]))] H := hP.sub [0] rfl
  have hDc := hD.sub (ws' := [(hm, .inr (4, [.int 2, .long ns.toInt64, .int ck, .long hh, .ref (qa 1), .ref (qa 2), .ref (qa 3), .ref (qa 4), .ref (qa 5), .ref (qa 6), .ref (qa 7), .ref (qa 8), .int (nI n), .ref (qa 9), .ref (qa 10), .ref (qa 11), .ref (qa 12), .ref (qa 13), .ref (qa 14), .ref (qa 15), .ref (qa 16), .ref (qa 17), .ref (qa 18), .ref (qa 19), .ref (qa 20)]))]) [0] (by decide) rfl
  refine vp_callSi (W.runV (As := []) (rest := []) ⟨hx, hb, hml, hown, hts⟩ (c_M_thrown l G ct H.size hm 2 ns.toInt64 ck hh (qa 1) (qa 2) (qa 3) (qa 4) (qa 5) (qa 6) (qa 7) (qa 8) (qa 9) (qa 10) (qa 11) (qa 12) (qa 13) (qa 14) (qa 15) (qa 16) (qa 17) (qa 18) (qa 19) (qa 20) n) (tb_V hw cy_M_thrown ww_719 ww_720 ww_721 rfl rfl ⟨Nat.le_of_ble_eq_true rfl, Nat.le_of_ble_eq_true rfl⟩) (wk_preV (ci := 4) (q0 := 0) hPc hK hDc rfl rfl) rfl rfl hl.1 rfl (lv_room (Nat.le_of_ble_eq_true rfl)) d_L_law_775 ⟨by omega, by omega⟩) (fun r1359 er1359 => ?_)
  subst er1359
  refine lv_iload hx hb d_L_law_778 (lv_at hl 1 rfl) ?_
  refine lv_icmp_eq (tgt := 785) hx hb d_L_law_780 (by decide) (fun h1360 => ?_) (fun h1360 => ?_)
  · refine lv_iload hx hb d_L_law_785 (lv_at hl 1 rfl) ?_
    refine lv_if_ne (tgt := 802) hx hb d_L_law_787 (by decide) (fun h1361 => ?_) (fun h1361 => ?_)
    · refine lv_goto (tgt := 1005) hx hb d_L_law_802 (by decide) ?_
      refine W.widen (k := cells + 1) (n := slots + 13) (by omega) (by omega) ?_
      exact kk n ck 2 hh a1 a2 a3 a4 a5 a6 a7 a8 a9 b0 b1 b2 b3 b4 b5 b6 b7 b8 b9 b10 og fo ad eu es H locs _ hnew hP hD hS (lv_sub hl [2, 3, 4, 5, 6] rfl)
    · exact absurd h1361 (by decide)
  · exact absurd h1360 (by decide)
set_option maxHeartbeats 4000000 in
set_option maxRecDepth 100000 in
theorem lq_passN_N_R1 {a : Int64} (C0 : lc_C p l s m meth c b L xs G ct A) (hiv : iv + 7 ≤ L) (hcc : cells + 1 ≤ room_1.cells) (hzz : slots + 13 ≤ room_1.slots)
    (hP : va_P G classes (lw_W ct hd us op hm qo qa fu au ns n ck n ck th hh a1 a2 a3 a4 a5 a6 a7 a8 a9 b0 b1 b2 b3 b4 b5 b6 b7 b8 b9 b10 og fo ad eu es) H) (hD : va_D A (lw_W ct hd us op hm qo qa fu au ns n ck n ck th hh a1 a2 a3 a4 a5 a6 a7 a8 a9 b0 b1 b2 b3 b4 b5 b6 b7 b8 b9 b10 og fo ad eu es)) (hS : va_S A s.heap H locs) (hl : lv_has ls 8 [(4, .int (nI iv)), (3, .ref qo), (2, .ref hm), (1, .ref hd), (0, .ref b)])
    (kk : lc_K p l e s m below meth c b L xs G ct A hd us op hm qo qa fu au ns iv (cells + 1) (slots + 13) Q)
     (d_hno : ¬ th_in (xs (iv + 2)) n) (d_hnf : ¬ th_in (xs (iv + 1)) n) (d_hxr : 0 ^^^ (lj (xs (iv + 3)) (xs (iv + 4))) = a) (m_hno : ¬ th_in (xs (iv + 2)) n) (m_hn : n ≤ 40) (m_hpm : ∀ j, j < n → (xs (iv + 1)) = nI j → b10 j ^^^ (lj (xs (iv + 3)) (xs (iv + 4))) = a) (m_hpn : ¬ th_in (xs (iv + 1)) n → (lj (xs (iv + 3)) (xs (iv + 4))) = a)  (hnew : li_R fu au ns n a1 a2 a3 a4 a5 a6 a7 a8 a9 b0 b1 b2 b3 b4 b5 b6 b7 b8 b9 b10 fo ad eu es)  : W p l e room_1 s m #[Value.ref b] below meth c H locs cells slots Q (F0 m 693 ls []) := by
  obtain ⟨hx, hb, hr, hml, hown, hw, hK, hZ, hR, hN, hfl, hA, hbA, hX, hbl, hL, hlocks⟩ := C0
  have hts := hw
  have hP : va_P G classes (lw_W ct hd us op hm qo qa fu au ns n ck n ck th hh a1 a2 a3 a4 a5 a6 a7 a8 a9 b0 b1 b2 b3 b4 b5 b6 b7 b8 b9 b10 og fo ad eu es) H := hP
  have hD : va_D A (lw_W ct hd us op hm qo qa fu au ns n ck n ck th hh a1 a2 a3 a4 a5 a6 a7 a8 a9 b0 b1 b2 b3 b4 b5 b6 b7 b8 b9 b10 og fo ad eu es) := hD
  refine lv_aload_n hx hb d_L_law_693 rfl (lv_at hl 3 rfl) ?_
  refine lv_aload_n hx hb d_L_law_694 rfl (lv_at hl 4 rfl) ?_
  refine lv_iload hx hb d_L_law_695 (lv_at hl 0 rfl) ?_
  refine lv_iconst (v := 1) hx hb d_L_law_697 (by decide) ?_
  refine lv_iadd hx hb d_L_law_698 ?_
  refine sl_ld (j := iv) (d := 1) hx hb hX hbl hbA hS hL (by omega) d_L_law_699 ?_
  refine lv_aload_n hx hb d_L_law_700 rfl (lv_at hl 4 rfl) ?_
  refine lv_iload hx hb d_L_law_701 (lv_at hl 0 rfl) ?_
  refine lv_iconst (v := 2) hx hb d_L_law_703 (by decide) ?_
  refine lv_iadd hx hb d_L_law_704 ?_
  refine sl_ld (j := iv) (d := 2) hx hb hX hbl hbA hS hL (by omega) d_L_law_705 ?_
  refine lv_aload_n hx hb d_L_law_706 rfl (lv_at hl 4 rfl) ?_
  refine lv_iload hx hb d_L_law_707 (lv_at hl 0 rfl) ?_
  refine lv_iconst (v := 3) hx hb d_L_law_709 (by decide) ?_
  refine lv_iadd hx hb d_L_law_710 ?_
  refine sl_ld (j := iv) (d := 3) hx hb hX hbl hbA hS hL (by omega) d_L_law_711 ?_
  refine lv_i2l (v := (xs (iv + 3)).toInt64) hx hb d_L_law_712 rfl ?_
  refine lv_bipush (v := 32) hx hb d_L_law_713 (by decide) ?_
  refine lv_lshl (v := ((xs (iv + 3)).toInt64) <<< ((32 : Int32).toInt64 &&& 63)) hx hb d_L_law_715 rfl ?_
  refine lv_aload_n hx hb d_L_law_716 rfl (lv_at hl 4 rfl) ?_
  refine lv_iload hx hb d_L_law_717 (lv_at hl 0 rfl) ?_
  refine lv_iconst (v := 4) hx hb d_L_law_719 (by decide) ?_
  refine lv_iadd hx hb d_L_law_720 ?_
  refine sl_ld (j := iv) (d := 4) hx hb hX hbl hbA hS hL (by omega) d_L_law_721 ?_
  refine lv_i2l (v := (xs (iv + 4)).toInt64) hx hb d_L_law_722 rfl ?_
  refine lv_ldc2 (v := 4294967295) hx hb hown (hw _ ww_884) d_L_law_723 ?_
  refine lv_land hx hb d_L_law_726 ?_
  refine lv_lor hx hb d_L_law_727 ?_
  refine tp_l (rfl) ?_
  refine lv_aload_n hx hb d_L_law_728 rfl (lv_at hl 1 rfl) ?_
  have hC9 : List.map (fun i => ((lw_W ct hd us op hm qo qa fu au ns n ck n ck th hh a1 a2 a3 a4 a5 a6 a7 a8 a9 b0 b1 b2 b3 b4 b5 b6 b7 b8 b9 b10 og fo ad eu es) : va_W)[i]?) [22, 21] = List.map some ([(hd, .inr (0, [.ref us, .ref op, .int (nI n), .int ck])), (qo, .inl ((ct 1), 1, .inr (.inl og)))] : va_W) := (wc_c rfl (wc_c rfl rfl))
  have hn9 : va_nd [22, 21] = true := by decide
  have hPc : va_P G classes [(hd, .inr (0, [.ref us, .ref op, .int (nI n), .int ck])), (qo, .inl ((ct 1), 1, .inr (.inl og)))] H := lp_sub hP [22, 21] hC9
  have hDc := hD.sub (ws' := [(hd, .inr (0, [.ref us, .ref op, .int (nI n), .int ck])), (qo, .inl ((ct 1), 1, .inr (.inl og)))]) [22, 21] hn9 hC9
  have hW9 : wk_sets ((lw_W ct hd us op hm qo qa fu au ns n ck n ck th hh a1 a2 a3 a4 a5 a6 a7 a8 a9 b0 b1 b2 b3 b4 b5 b6 b7 b8 b9 b10 og fo ad eu es) : va_W) [22, 21] ([(hd, .inr (0, [.ref us, .ref op, .int (nI n), .int ck])), (qo, .inl ((ct 1), 1, .inr (.inl og)))] : va_W) = ((lw_W ct hd us op hm qo qa fu au ns n ck n ck th hh a1 a2 a3 a4 a5 a6 a7 a8 a9 b0 b1 b2 b3 b4 b5 b6 b7 b8 b9 b10 og fo ad eu es) : va_W) := (ws_k rfl (ws_k rfl rfl))
  refine wk_i (sh_run (As := [.ref hd, .int (xs (iv + 1)), .int (xs (iv + 2)), .long (lj (xs (iv + 3)) (xs (iv + 4))), .ref qo]) (rest := []) (hs := [(0, 12, 15, 25), (0, 12, 19, 15), (0, 12, 23, 13), (0, 12, 27, 27)]) ⟨hx, hb, hml, hown, hts⟩ (c_L_passN_N l hfl G ct H.size hd us op n ck (xs (iv + 2)) a (xs (iv + 1)) (lj (xs (iv + 3)) (xs (iv + 4))) qo og d_hno d_hnf d_hxr) ⟨hw, ww_613, ww_0, ⟨by decide, by decide⟩, np_L_pass, ww_611, ww_612, rfl, rfl, Nat.le_of_ble_eq_true rfl, Nat.le_of_ble_eq_true rfl⟩ (wk_pre5 hPc hK hDc hD hS hA [22, 21] hC9 hZ hR hN) rfl hl.1 rfl (lv_room (Nat.le_of_ble_eq_true rfl)) d_L_law_729 ⟨by omega, by omega⟩) hP hD hS hA [22, 21] hn9 hC9 (fun _ => by simp only [List.map_cons, List.map_nil]) (fun _ H locs _ hP hD hS => ?_)
  have hP : va_P G classes (lw_W ct hd us op hm qo qa fu au ns n ck n ck th hh a1 a2 a3 a4 a5 a6 a7 a8 a9 b0 b1 b2 b3 b4 b5 b6 b7 b8 b9 b10 og fo ad eu es) H := lp_P hW9 hP
  have hD : va_D A (lw_W ct hd us op hm qo qa fu au ns n ck n ck th hh a1 a2 a3 a4 a5 a6 a7 a8 a9 b0 b1 b2 b3 b4 b5 b6 b7 b8 b9 b10 og fo ad eu es) := lp_D hW9 hD
  refine lv_istore (lv' := [(5, .int 1), (4, .int (nI iv)), (3, .ref qo), (2, .ref hm), (1, .ref hd), (0, .ref b)]) hx hb d_L_law_732 hl (Nat.le_of_ble_eq_true rfl) rfl (fun ls hl => ?_)
  refine lv_aload_n hx hb d_L_law_734 rfl (lv_at hl 3 rfl) ?_
  refine lv_aload_n hx hb d_L_law_735 rfl (lv_at hl 5 rfl) ?_
  refine lv_iload hx hb d_L_law_736 (lv_at hl 1 rfl) ?_
  refine lv_iconst (v := 1) hx hb d_L_law_738 (by decide) ?_
  refine lv_iadd hx hb d_L_law_739 ?_
  refine sl_ld (j := iv) (d := 1) hx hb hX hbl hbA hS hL (by omega) d_L_law_740 ?_
  refine lv_aload_n hx hb d_L_law_741 rfl (lv_at hl 5 rfl) ?_
  refine lv_iload hx hb d_L_law_742 (lv_at hl 1 rfl) ?_
  refine lv_iconst (v := 2) hx hb d_L_law_744 (by decide) ?_
  refine lv_iadd hx hb d_L_law_745 ?_
  refine sl_ld (j := iv) (d := 2) hx hb hX hbl hbA hS hL (by omega) d_L_law_746 ?_
  refine lv_aload_n hx hb d_L_law_747 rfl (lv_at hl 5 rfl) ?_
  refine lv_iload hx hb d_L_law_748 (lv_at hl 1 rfl) ?_
  refine lv_iconst (v := 3) hx hb d_L_law_750 (by decide) ?_
  refine lv_iadd hx hb d_L_law_751 ?_
  refine sl_ld (j := iv) (d := 3) hx hb hX hbl hbA hS hL (by omega) d_L_law_752 ?_
  refine lv_i2l (v := (xs (iv + 3)).toInt64) hx hb d_L_law_753 rfl ?_
  refine lv_bipush (v := 32) hx hb d_L_law_754 (by decide) ?_
  refine lv_lshl (v := ((xs (iv + 3)).toInt64) <<< ((32 : Int32).toInt64 &&& 63)) hx hb d_L_law_756 rfl ?_
  refine lv_aload_n hx hb d_L_law_757 rfl (lv_at hl 5 rfl) ?_
  refine lv_iload hx hb d_L_law_758 (lv_at hl 1 rfl) ?_
  refine lv_iconst (v := 4) hx hb d_L_law_760 (by decide) ?_
  refine lv_iadd hx hb d_L_law_761 ?_
  refine sl_ld (j := iv) (d := 4) hx hb hX hbl hbA hS hL (by omega) d_L_law_762 ?_
  refine lv_i2l (v := (xs (iv + 4)).toInt64) hx hb d_L_law_763 rfl ?_
  refine lv_ldc2 (v := 4294967295) hx hb hown (hw _ ww_884) d_L_law_764 ?_
  refine lv_land hx hb d_L_law_767 ?_
  refine lv_lor hx hb d_L_law_768 ?_
  refine tp_l (rfl) ?_
  have hC9 : List.map (fun i => ((lw_W ct hd us op hm qo qa fu au ns n ck n ck th hh a1 a2 a3 a4 a5 a6 a7 a8 a9 b0 b1 b2 b3 b4 b5 b6 b7 b8 b9 b10 og fo ad eu es) : va_W)[i]?) [0, 20] = List.map some ([(hm, .inr (4, [.int th, .long ns.toInt64, .int ck, .long hh, .ref (qa 1), .ref (qa 2), .ref (qa 3), .ref (qa 4), .ref (qa 5), .ref (qa 6), .ref (qa 7), .ref (qa 8), .int (nI n), .ref (qa 9), .ref (qa 10), .ref (qa 11), .ref (qa 12), .ref (qa 13), .ref (qa 14), .ref (qa 15), .ref (qa 16), .ref (qa 17), .ref (qa 18), .ref (qa 19), .ref (qa 20)])), ((qa 20), .inl ((ct 1), 40, .inr (.inl b10)))] : va_W) := (wc_c rfl (wc_c rfl rfl))
  have hn9 : va_nd [0, 20] = true := by decide
  have hPc : va_P G classes [(hm, .inr (4, [.int th, .long ns.toInt64, .int ck, .long hh, .ref (qa 1), .ref (qa 2), .ref (qa 3), .ref (qa 4), .ref (qa 5), .ref (qa 6), .ref (qa 7), .ref (qa 8), .int (nI n), .ref (qa 9), .ref (qa 10), .ref (qa 11), .ref (qa 12), .ref (qa 13), .ref (qa 14), .ref (qa 15), .ref (qa 16), .ref (qa 17), .ref (qa 18), .ref (qa 19), .ref (qa 20)])), ((qa 20), .inl ((ct 1), 40, .inr (.inl b10)))] H := lp_sub hP [0, 20] hC9
  have hDc := hD.sub (ws' := [(hm, .inr (4, [.int th, .long ns.toInt64, .int ck, .long hh, .ref (qa 1), .ref (qa 2), .ref (qa 3), .ref (qa 4), .ref (qa 5), .ref (qa 6), .ref (qa 7), .ref (qa 8), .int (nI n), .ref (qa 9), .ref (qa 10), .ref (qa 11), .ref (qa 12), .ref (qa 13), .ref (qa 14), .ref (qa 15), .ref (qa 16), .ref (qa 17), .ref (qa 18), .ref (qa 19), .ref (qa 20)])), ((qa 20), .inl ((ct 1), 40, .inr (.inl b10)))]) [0, 20] hn9 hC9
  refine wk_i (va_runV (As := [.int (xs (iv + 1)), .int (xs (iv + 2)), .long (lj (xs (iv + 3)) (xs (iv + 4)))]) (rest := []) ⟨hx, hb, hml, hown, hts⟩ (c_M_pass_R1 l G ct H.size hm th ns.toInt64 ck hh (qa 1) (qa 2) (qa 3) (qa 4) (qa 5) (qa 6) (qa 7) (qa 8) (qa 9) (qa 10) (qa 11) (qa 12) (qa 13) (qa 14) (qa 15) (qa 16) (qa 17) (qa 18) (qa 19) (qa 20) n b10 (xs (iv + 2)) a (xs (iv + 1)) (lj (xs (iv + 3)) (xs (iv + 4))) m_hno m_hn m_hpm m_hpn) (tb_V hw cy_M_pass ww_856 ww_857 ww_858 rfl rfl ⟨Nat.le_of_ble_eq_true rfl, Nat.le_of_ble_eq_true rfl⟩) (wk_preV (ci := 4) (q0 := 0) hPc hK hDc rfl rfl) rfl rfl hl.1 rfl (lv_room (Nat.le_of_ble_eq_true rfl)) d_L_law_769 ⟨by omega, by omega⟩) hP hD hS hA [0, 20] hn9 hC9 (fun _ => by simp only [List.map_cons, List.map_nil]) (fun _ H locs _ hP hD hS => ?_)
  have hW9 : wk_sets ((lw_W ct hd us op hm qo qa fu au ns n ck n ck th hh a1 a2 a3 a4 a5 a6 a7 a8 a9 b0 b1 b2 b3 b4 b5 b6 b7 b8 b9 b10 og fo ad eu es) : va_W) [0, 20] ([(hm, .inr (4, [.int 1, .long ns.toInt64, .int ck, .long hh, .ref (qa 1), .ref (qa 2), .ref (qa 3), .ref (qa 4), .ref (qa 5), .ref (qa 6), .ref (qa 7), .ref (qa 8), .int (nI n), .ref (qa 9), .ref (qa 10), .ref (qa 11), .ref (qa 12), .ref (qa 13), .ref (qa 14), .ref (qa 15), .ref (qa 16), .ref (qa 17), .ref (qa 18), .ref (qa 19), .ref (qa 20)])), ((qa 20), .inl ((ct 1), 40, .inr (.inl b10)))] : va_W) = ((lw_W ct hd us op hm qo qa fu au ns n ck n ck 1 hh a1 a2 a3 a4 a5 a6 a7 a8 a9 b0 b1 b2 b3 b4 b5 b6 b7 b8 b9 b10 og fo ad eu es) : va_W) := (ws_c (ws' := (lw_W ct hd us op hm qo qa fu au ns n ck n ck 1 hh a1 a2 a3 a4 a5 a6 a7 a8 a9 b0 b1 b2 b3 b4 b5 b6 b7 b8 b9 b10 og fo ad eu es)) rfl (ws_k rfl rfl))
  have hP : va_P G classes (lw_W ct hd us op hm qo qa fu au ns n ck n ck 1 hh a1 a2 a3 a4 a5 a6 a7 a8 a9 b0 b1 b2 b3 b4 b5 b6 b7 b8 b9 b10 og fo ad eu es) H := lp_P hW9 hP
  have hD : va_D A (lw_W ct hd us op hm qo qa fu au ns n ck n ck 1 hh a1 a2 a3 a4 a5 a6 a7 a8 a9 b0 b1 b2 b3 b4 b5 b6 b7 b8 b9 b10 og fo ad eu es) := lp_D hW9 hD
  refine lv_istore (lv' := [(6, .int 0), (5, .int 1), (4, .int (nI iv)), (3, .ref qo), (2, .ref hm), (1, .ref hd), (0, .ref b)]) hx hb d_L_law_772 hl (Nat.le_of_ble_eq_true rfl) rfl (fun ls hl => ?_)
  refine lv_aload_n hx hb d_L_law_774 rfl (lv_at hl 4 rfl) ?_
  have hPc : va_P G classes [(hm, .inr (4, [.int 1, .long ns.toInt64, .int ck, .long hh, .ref (qa 1), .ref (qa 2), .ref (qa 3), .ref (qa 4), .ref (qa 5), .ref (qa 6), .ref (qa 7), .ref (qa 8), .int (nI n), .ref (qa 9), .ref (qa 10), .ref (qa 11), .ref (qa 12), .ref (qa 13), .ref (qa 14), .ref (qa 15), .ref (qa 16), .ref (qa 17), .ref (qa 18), .ref (qa 19), .ref (qa 20)]))] H := hP.sub [0] rfl
  have hDc := hD.sub (ws' := [(hm, .inr (4, [.int 1, .long ns.toInt64, .int ck, .long hh, .ref (qa 1), .ref (qa 2), .ref (qa 3), .ref (qa 4), .ref (qa 5), .ref (qa 6), .ref (qa 7), .ref (qa 8), .int (nI n), .ref (qa 9), .ref (qa 10), .ref (qa 11), .ref (qa 12), .ref (qa 13), .ref (qa 14), .ref (qa 15), .ref (qa 16), .ref (qa 17), .ref (qa 18), .ref (qa 19), .ref (qa 20)]))]) [0] (by decide) rfl
  refine vp_callSi (W.runV (As := []) (rest := []) ⟨hx, hb, hml, hown, hts⟩ (c_M_thrown l G ct H.size hm 1 ns.toInt64 ck hh (qa 1) (qa 2) (qa 3) (qa 4) (qa 5) (qa 6) (qa 7) (qa 8) (qa 9) (qa 10) (qa 11) (qa 12) (qa 13) (qa 14) (qa 15) (qa 16) (qa 17) (qa 18) (qa 19) (qa 20) n) (tb_V hw cy_M_thrown ww_719 ww_720 ww_721 rfl rfl ⟨Nat.le_of_ble_eq_true rfl, Nat.le_of_ble_eq_true rfl⟩) (wk_preV (ci := 4) (q0 := 0) hPc hK hDc rfl rfl) rfl rfl hl.1 rfl (lv_room (Nat.le_of_ble_eq_true rfl)) d_L_law_775 ⟨by omega, by omega⟩) (fun r1362 er1362 => ?_)
  subst er1362
  refine lv_iload hx hb d_L_law_778 (lv_at hl 1 rfl) ?_
  refine lv_icmp_eq (tgt := 785) hx hb d_L_law_780 (by decide) (fun h1363 => ?_) (fun h1363 => ?_)
  · refine lv_iload hx hb d_L_law_785 (lv_at hl 1 rfl) ?_
    refine lv_if_ne (tgt := 802) hx hb d_L_law_787 (by decide) (fun h1364 => ?_) (fun h1364 => ?_)
    · refine lv_goto (tgt := 1005) hx hb d_L_law_802 (by decide) ?_
      refine W.widen (k := cells + 1) (n := slots + 13) (by omega) (by omega) ?_
      exact kk n ck 1 hh a1 a2 a3 a4 a5 a6 a7 a8 a9 b0 b1 b2 b3 b4 b5 b6 b7 b8 b9 b10 og fo ad eu es H locs _ hnew hP hD hS (lv_sub hl [2, 3, 4, 5, 6] rfl)
    · exact absurd h1364 (by decide)
  · exact absurd h1363 (by decide)
set_option maxHeartbeats 4000000 in
set_option maxRecDepth 100000 in
theorem lq_passC_N_R1 {zj : Nat} {uz : Nat} {zs : Nat} {zx : Nat} {zy : Nat} {zr : Nat} {zc : Int64} {zd : Int64} {a : Int64} (C0 : lc_C p l s m meth c b L xs G ct A) (hiv : iv + 7 ≤ L) (hcc : cells + 1 ≤ room_1.cells) (hzz : slots + 13 ≤ room_1.slots)
    (hP : va_P G classes (lw_W ct hd us op hm qo qa fu au ns n ck n ck th hh a1 a2 a3 a4 a5 a6 a7 a8 a9 b0 b1 b2 b3 b4 b5 b6 b7 b8 b9 b10 og fo ad eu es) H) (hD : va_D A (lw_W ct hd us op hm qo qa fu au ns n ck n ck th hh a1 a2 a3 a4 a5 a6 a7 a8 a9 b0 b1 b2 b3 b4 b5 b6 b7 b8 b9 b10 og fo ad eu es)) (hS : va_S A s.heap H locs) (hl : lv_has ls 8 [(4, .int (nI iv)), (3, .ref qo), (2, .ref hm), (1, .ref hd), (0, .ref b)])
    (kk : lc_K p l e s m below meth c b L xs G ct A hd us op hm qo qa fu au ns iv (cells + 1) (slots + 13) Q)
    (hv1 : xs (iv + 1) = nI zj) (hzn : zj < n) (hez : es zj = .inr (2, [.ref (au uz), .int (b0 zj), .long (lN zs), .int (b3 zj), .int (b2 zj), .long (lN zx), .long (lN zy), .long (b9 zj), .long zc, .long zd, .long (b10 zj), .long (b5 zj), .long (lN zr)])) (d_hno : ¬ th_in (xs (iv + 2)) n) (d_hn : n ≤ 40) (d_hzn : zj < n) (d_hzf : fo zj = some (ad zj)) (d_hxr : (b10 zj) ^^^ (lj (xs (iv + 3)) (xs (iv + 4))) = a) (m_hno : ¬ th_in (xs (iv + 2)) n) (m_hn : n ≤ 40) (m_hpm : ∀ j, j < n → (nI zj) = nI j → b10 j ^^^ (lj (xs (iv + 3)) (xs (iv + 4))) = a) (m_hpn : ¬ th_in (nI zj) n → (lj (xs (iv + 3)) (xs (iv + 4))) = a)  (hnew : li_R fu au ns n a1 a2 a3 a4 a5 a6 a7 a8 a9 b0 b1 b2 b3 b4 b5 b6 b7 b8 b9 b10 fo ad eu es)  : W p l e room_1 s m #[Value.ref b] below meth c H locs cells slots Q (F0 m 693 ls []) := by
  obtain ⟨hx, hb, hr, hml, hown, hw, hK, hZ, hR, hN, hfl, hA, hbA, hX, hbl, hL, hlocks⟩ := C0
  have hts := hw
  have hP : va_P G classes (lw_W ct hd us op hm qo qa fu au ns n ck n ck th hh a1 a2 a3 a4 a5 a6 a7 a8 a9 b0 b1 b2 b3 b4 b5 b6 b7 b8 b9 b10 og fo ad eu es) H := hP
  have hD : va_D A (lw_W ct hd us op hm qo qa fu au ns n ck n ck th hh a1 a2 a3 a4 a5 a6 a7 a8 a9 b0 b1 b2 b3 b4 b5 b6 b7 b8 b9 b10 og fo ad eu es) := hD
  refine lv_aload_n hx hb d_L_law_693 rfl (lv_at hl 3 rfl) ?_
  refine lv_aload_n hx hb d_L_law_694 rfl (lv_at hl 4 rfl) ?_
  refine lv_iload hx hb d_L_law_695 (lv_at hl 0 rfl) ?_
  refine lv_iconst (v := 1) hx hb d_L_law_697 (by decide) ?_
  refine lv_iadd hx hb d_L_law_698 ?_
  refine sl_ld (j := iv) (d := 1) hx hb hX hbl hbA hS hL (by omega) d_L_law_699 ?_
  refine tp_i (hv1) ?_
  refine lv_aload_n hx hb d_L_law_700 rfl (lv_at hl 4 rfl) ?_
  refine lv_iload hx hb d_L_law_701 (lv_at hl 0 rfl) ?_
  refine lv_iconst (v := 2) hx hb d_L_law_703 (by decide) ?_
  refine lv_iadd hx hb d_L_law_704 ?_
  refine sl_ld (j := iv) (d := 2) hx hb hX hbl hbA hS hL (by omega) d_L_law_705 ?_
  refine lv_aload_n hx hb d_L_law_706 rfl (lv_at hl 4 rfl) ?_
  refine lv_iload hx hb d_L_law_707 (lv_at hl 0 rfl) ?_
  refine lv_iconst (v := 3) hx hb d_L_law_709 (by decide) ?_
  refine lv_iadd hx hb d_L_law_710 ?_
  refine sl_ld (j := iv) (d := 3) hx hb hX hbl hbA hS hL (by omega) d_L_law_711 ?_
  refine lv_i2l (v := (xs (iv + 3)).toInt64) hx hb d_L_law_712 rfl ?_
  refine lv_bipush (v := 32) hx hb d_L_law_713 (by decide) ?_
  refine lv_lshl (v := ((xs (iv + 3)).toInt64) <<< ((32 : Int32).toInt64 &&& 63)) hx hb d_L_law_715 rfl ?_
  refine lv_aload_n hx hb d_L_law_716 rfl (lv_at hl 4 rfl) ?_
  refine lv_iload hx hb d_L_law_717 (lv_at hl 0 rfl) ?_
  refine lv_iconst (v := 4) hx hb d_L_law_719 (by decide) ?_
  refine lv_iadd hx hb d_L_law_720 ?_
  refine sl_ld (j := iv) (d := 4) hx hb hX hbl hbA hS hL (by omega) d_L_law_721 ?_
  refine lv_i2l (v := (xs (iv + 4)).toInt64) hx hb d_L_law_722 rfl ?_
  refine lv_ldc2 (v := 4294967295) hx hb hown (hw _ ww_884) d_L_law_723 ?_
  refine lv_land hx hb d_L_law_726 ?_
  refine lv_lor hx hb d_L_law_727 ?_
  refine tp_l (rfl) ?_
  refine lv_aload_n hx hb d_L_law_728 rfl (lv_at hl 1 rfl) ?_
  have hC9 : List.map (fun i => ((lw_W ct hd us op hm qo qa fu au ns n ck n ck th hh a1 a2 a3 a4 a5 a6 a7 a8 a9 b0 b1 b2 b3 b4 b5 b6 b7 b8 b9 b10 og fo ad eu es) : va_W)[i]?) [22, 24, 25 + (8 + zj), 21] = List.map some ([(hd, .inr (0, [.ref us, .ref op, .int (nI n), .int ck])), (op, .inl ((ct 4), 40, .inr (.inr (.inr (.inr fo))))), ((ad zj), .inr (2, [.ref (au uz), .int (b0 zj), .long (lN zs), .int (b3 zj), .int (b2 zj), .long (lN zx), .long (lN zy), .long (b9 zj), .long zc, .long zd, .long (b10 zj), .long (b5 zj), .long (lN zr)])), (qo, .inl ((ct 1), 1, .inr (.inl og)))] : va_W) := (wc_c rfl (wc_c rfl (wc_c (lw_s rfl hzn hez) (wc_c rfl rfl))))
  have hn9 : va_nd [22, 24, 25 + (8 + zj), 21] = true := (nd_c (by simp only [List.mem_cons, List.not_mem_nil, or_false]; omega) (nd_c (by simp only [List.mem_cons, List.not_mem_nil, or_false]; omega) (nd_c (by simp only [List.mem_cons, List.not_mem_nil, or_false]; omega) (nd_c List.not_mem_nil rfl))))
  have hPc : va_P G classes [(hd, .inr (0, [.ref us, .ref op, .int (nI n), .int ck])), (op, .inl ((ct 4), 40, .inr (.inr (.inr (.inr fo))))), ((ad zj), .inr (2, [.ref (au uz), .int (b0 zj), .long (lN zs), .int (b3 zj), .int (b2 zj), .long (lN zx), .long (lN zy), .long (b9 zj), .long zc, .long zd, .long (b10 zj), .long (b5 zj), .long (lN zr)])), (qo, .inl ((ct 1), 1, .inr (.inl og)))] H := lp_sub hP [22, 24, 25 + (8 + zj), 21] hC9
  have hDc := hD.sub (ws' := [(hd, .inr (0, [.ref us, .ref op, .int (nI n), .int ck])), (op, .inl ((ct 4), 40, .inr (.inr (.inr (.inr fo))))), ((ad zj), .inr (2, [.ref (au uz), .int (b0 zj), .long (lN zs), .int (b3 zj), .int (b2 zj), .long (lN zx), .long (lN zy), .long (b9 zj), .long zc, .long zd, .long (b10 zj), .long (b5 zj), .long (lN zr)])), (qo, .inl ((ct 1), 1, .inr (.inl og)))]) [22, 24, 25 + (8 + zj), 21] hn9 hC9
  have hW9 : wk_sets ((lw_W ct hd us op hm qo qa fu au ns n ck n ck th hh a1 a2 a3 a4 a5 a6 a7 a8 a9 b0 b1 b2 b3 b4 b5 b6 b7 b8 b9 b10 og fo ad eu es) : va_W) [22, 24, 25 + (8 + zj), 21] ([(hd, .inr (0, [.ref us, .ref op, .int (nI n), .int ck])), (op, .inl ((ct 4), 40, .inr (.inr (.inr (.inr fo))))), ((ad zj), .inr (2, [.ref (au uz), .int (b0 zj), .long (lN zs), .int (b3 zj), .int (b2 zj), .long (lN zx), .long (lN zy), .long (b9 zj), .long zc, .long zd, .long (b10 zj), .long (b5 zj), .long (lN zr)])), (qo, .inl ((ct 1), 1, .inr (.inl og)))] : va_W) = ((lw_W ct hd us op hm qo qa fu au ns n ck n ck th hh a1 a2 a3 a4 a5 a6 a7 a8 a9 b0 b1 b2 b3 b4 b5 b6 b7 b8 b9 b10 og fo ad eu es) : va_W) := (ws_k rfl (ws_k rfl (ws_k (lw_s rfl hzn hez) (ws_k rfl rfl))))
  refine wk_i (sh_run (As := [.ref hd, .int (nI zj), .int (xs (iv + 2)), .long (lj (xs (iv + 3)) (xs (iv + 4))), .ref qo]) (rest := []) (hs := [(0, 12, 15, 25), (0, 12, 19, 15), (0, 12, 23, 13), (0, 12, 27, 27)]) ⟨hx, hb, hml, hown, hts⟩ (c_L_passC_N l hfl G ct H.size hd us op n ck (xs (iv + 2)) a fo zj (ad zj) (au uz) (b0 zj) zs (b3 zj) (b2 zj) zx zy (b9 zj) zc zd (b10 zj) (b5 zj) zr (lj (xs (iv + 3)) (xs (iv + 4))) qo og d_hno d_hn d_hzn d_hzf d_hxr) ⟨hw, ww_613, ww_0, ⟨by decide, by decide⟩, np_L_pass, ww_611, ww_612, rfl, rfl, Nat.le_of_ble_eq_true rfl, Nat.le_of_ble_eq_true rfl⟩ (wk_pre5 hPc hK hDc hD hS hA [22, 24, 25 + (8 + zj), 21] hC9 hZ hR hN) rfl hl.1 rfl (lv_room (Nat.le_of_ble_eq_true rfl)) d_L_law_729 ⟨by omega, by omega⟩) hP hD hS hA [22, 24, 25 + (8 + zj), 21] hn9 hC9 (fun _ => by simp only [List.map_cons, List.map_nil]) (fun _ H locs _ hP hD hS => ?_)
  have hP : va_P G classes (lw_W ct hd us op hm qo qa fu au ns n ck n ck th hh a1 a2 a3 a4 a5 a6 a7 a8 a9 b0 b1 b2 b3 b4 b5 b6 b7 b8 b9 b10 og fo ad eu es) H := lp_P hW9 hP
  have hD : va_D A (lw_W ct hd us op hm qo qa fu au ns n ck n ck th hh a1 a2 a3 a4 a5 a6 a7 a8 a9 b0 b1 b2 b3 b4 b5 b6 b7 b8 b9 b10 og fo ad eu es) := lp_D hW9 hD
  refine lv_istore (lv' := [(5, .int 1), (4, .int (nI iv)), (3, .ref qo), (2, .ref hm), (1, .ref hd), (0, .ref b)]) hx hb d_L_law_732 hl (Nat.le_of_ble_eq_true rfl) rfl (fun ls hl => ?_)
  refine lv_aload_n hx hb d_L_law_734 rfl (lv_at hl 3 rfl) ?_
  refine lv_aload_n hx hb d_L_law_735 rfl (lv_at hl 5 rfl) ?_
  refine lv_iload hx hb d_L_law_736 (lv_at hl 1 rfl) ?_
  refine lv_iconst (v := 1) hx hb d_L_law_738 (by decide) ?_
  refine lv_iadd hx hb d_L_law_739 ?_
  refine sl_ld (j := iv) (d := 1) hx hb hX hbl hbA hS hL (by omega) d_L_law_740 ?_
  refine tp_i (hv1) ?_
  refine lv_aload_n hx hb d_L_law_741 rfl (lv_at hl 5 rfl) ?_
  refine lv_iload hx hb d_L_law_742 (lv_at hl 1 rfl) ?_
  refine lv_iconst (v := 2) hx hb d_L_law_744 (by decide) ?_
  refine lv_iadd hx hb d_L_law_745 ?_
  refine sl_ld (j := iv) (d := 2) hx hb hX hbl hbA hS hL (by omega) d_L_law_746 ?_
  refine lv_aload_n hx hb d_L_law_747 rfl (lv_at hl 5 rfl) ?_
  refine lv_iload hx hb d_L_law_748 (lv_at hl 1 rfl) ?_
  refine lv_iconst (v := 3) hx hb d_L_law_750 (by decide) ?_
  refine lv_iadd hx hb d_L_law_751 ?_
  refine sl_ld (j := iv) (d := 3) hx hb hX hbl hbA hS hL (by omega) d_L_law_752 ?_
  refine lv_i2l (v := (xs (iv + 3)).toInt64) hx hb d_L_law_753 rfl ?_
  refine lv_bipush (v := 32) hx hb d_L_law_754 (by decide) ?_
  refine lv_lshl (v := ((xs (iv + 3)).toInt64) <<< ((32 : Int32).toInt64 &&& 63)) hx hb d_L_law_756 rfl ?_
  refine lv_aload_n hx hb d_L_law_757 rfl (lv_at hl 5 rfl) ?_
  refine lv_iload hx hb d_L_law_758 (lv_at hl 1 rfl) ?_
  refine lv_iconst (v := 4) hx hb d_L_law_760 (by decide) ?_
  refine lv_iadd hx hb d_L_law_761 ?_
  refine sl_ld (j := iv) (d := 4) hx hb hX hbl hbA hS hL (by omega) d_L_law_762 ?_
  refine lv_i2l (v := (xs (iv + 4)).toInt64) hx hb d_L_law_763 rfl ?_
  refine lv_ldc2 (v := 4294967295) hx hb hown (hw _ ww_884) d_L_law_764 ?_
  refine lv_land hx hb d_L_law_767 ?_
  refine lv_lor hx hb d_L_law_768 ?_
  refine tp_l (rfl) ?_
  have hC9 : List.map (fun i => ((lw_W ct hd us op hm qo qa fu au ns n ck n ck th hh a1 a2 a3 a4 a5 a6 a7 a8 a9 b0 b1 b2 b3 b4 b5 b6 b7 b8 b9 b10 og fo ad eu es) : va_W)[i]?) [0, 20] = List.map some ([(hm, .inr (4, [.int th, .long ns.toInt64, .int ck, .long hh, .ref (qa 1), .ref (qa 2), .ref (qa 3), .ref (qa 4), .ref (qa 5), .ref (qa 6), .ref (qa 7), .ref (qa 8), .int (nI n), .ref (qa 9), .ref (qa 10), .ref (qa 11), .ref (qa 12), .ref (qa 13), .ref (qa 14), .ref (qa 15), .ref (qa 16), .ref (qa 17), .ref (qa 18), .ref (qa 19), .ref (qa 20)])), ((qa 20), .inl ((ct 1), 40, .inr (.inl b10)))] : va_W) := (wc_c rfl (wc_c rfl rfl))
  have hn9 : va_nd [0, 20] = true := by decide
  have hPc : va_P G classes [(hm, .inr (4, [.int th, .long ns.toInt64, .int ck, .long hh, .ref (qa 1), .ref (qa 2), .ref (qa 3), .ref (qa 4), .ref (qa 5), .ref (qa 6), .ref (qa 7), .ref (qa 8), .int (nI n), .ref (qa 9), .ref (qa 10), .ref (qa 11), .ref (qa 12), .ref (qa 13), .ref (qa 14), .ref (qa 15), .ref (qa 16), .ref (qa 17), .ref (qa 18), .ref (qa 19), .ref (qa 20)])), ((qa 20), .inl ((ct 1), 40, .inr (.inl b10)))] H := lp_sub hP [0, 20] hC9
  have hDc := hD.sub (ws' := [(hm, .inr (4, [.int th, .long ns.toInt64, .int ck, .long hh, .ref (qa 1), .ref (qa 2), .ref (qa 3), .ref (qa 4), .ref (qa 5), .ref (qa 6), .ref (qa 7), .ref (qa 8), .int (nI n), .ref (qa 9), .ref (qa 10), .ref (qa 11), .ref (qa 12), .ref (qa 13), .ref (qa 14), .ref (qa 15), .ref (qa 16), .ref (qa 17), .ref (qa 18), .ref (qa 19), .ref (qa 20)])), ((qa 20), .inl ((ct 1), 40, .inr (.inl b10)))]) [0, 20] hn9 hC9
  refine wk_i (va_runV (As := [.int (nI zj), .int (xs (iv + 2)), .long (lj (xs (iv + 3)) (xs (iv + 4)))]) (rest := []) ⟨hx, hb, hml, hown, hts⟩ (c_M_pass_R1 l G ct H.size hm th ns.toInt64 ck hh (qa 1) (qa 2) (qa 3) (qa 4) (qa 5) (qa 6) (qa 7) (qa 8) (qa 9) (qa 10) (qa 11) (qa 12) (qa 13) (qa 14) (qa 15) (qa 16) (qa 17) (qa 18) (qa 19) (qa 20) n b10 (xs (iv + 2)) a (nI zj) (lj (xs (iv + 3)) (xs (iv + 4))) m_hno m_hn m_hpm m_hpn) (tb_V hw cy_M_pass ww_856 ww_857 ww_858 rfl rfl ⟨Nat.le_of_ble_eq_true rfl, Nat.le_of_ble_eq_true rfl⟩) (wk_preV (ci := 4) (q0 := 0) hPc hK hDc rfl rfl) rfl rfl hl.1 rfl (lv_room (Nat.le_of_ble_eq_true rfl)) d_L_law_769 ⟨by omega, by omega⟩) hP hD hS hA [0, 20] hn9 hC9 (fun _ => by simp only [List.map_cons, List.map_nil]) (fun _ H locs _ hP hD hS => ?_)
  have hW9 : wk_sets ((lw_W ct hd us op hm qo qa fu au ns n ck n ck th hh a1 a2 a3 a4 a5 a6 a7 a8 a9 b0 b1 b2 b3 b4 b5 b6 b7 b8 b9 b10 og fo ad eu es) : va_W) [0, 20] ([(hm, .inr (4, [.int 1, .long ns.toInt64, .int ck, .long hh, .ref (qa 1), .ref (qa 2), .ref (qa 3), .ref (qa 4), .ref (qa 5), .ref (qa 6), .ref (qa 7), .ref (qa 8), .int (nI n), .ref (qa 9), .ref (qa 10), .ref (qa 11), .ref (qa 12), .ref (qa 13), .ref (qa 14), .ref (qa 15), .ref (qa 16), .ref (qa 17), .ref (qa 18), .ref (qa 19), .ref (qa 20)])), ((qa 20), .inl ((ct 1), 40, .inr (.inl b10)))] : va_W) = ((lw_W ct hd us op hm qo qa fu au ns n ck n ck 1 hh a1 a2 a3 a4 a5 a6 a7 a8 a9 b0 b1 b2 b3 b4 b5 b6 b7 b8 b9 b10 og fo ad eu es) : va_W) := (ws_c (ws' := (lw_W ct hd us op hm qo qa fu au ns n ck n ck 1 hh a1 a2 a3 a4 a5 a6 a7 a8 a9 b0 b1 b2 b3 b4 b5 b6 b7 b8 b9 b10 og fo ad eu es)) rfl (ws_k rfl rfl))
  have hP : va_P G classes (lw_W ct hd us op hm qo qa fu au ns n ck n ck 1 hh a1 a2 a3 a4 a5 a6 a7 a8 a9 b0 b1 b2 b3 b4 b5 b6 b7 b8 b9 b10 og fo ad eu es) H := lp_P hW9 hP
  have hD : va_D A (lw_W ct hd us op hm qo qa fu au ns n ck n ck 1 hh a1 a2 a3 a4 a5 a6 a7 a8 a9 b0 b1 b2 b3 b4 b5 b6 b7 b8 b9 b10 og fo ad eu es) := lp_D hW9 hD
  refine lv_istore (lv' := [(6, .int 0), (5, .int 1), (4, .int (nI iv)), (3, .ref qo), (2, .ref hm), (1, .ref hd), (0, .ref b)]) hx hb d_L_law_772 hl (Nat.le_of_ble_eq_true rfl) rfl (fun ls hl => ?_)
  refine lv_aload_n hx hb d_L_law_774 rfl (lv_at hl 4 rfl) ?_
  have hPc : va_P G classes [(hm, .inr (4, [.int 1, .long ns.toInt64, .int ck, .long hh, .ref (qa 1), .ref (qa 2), .ref (qa 3), .ref (qa 4), .ref (qa 5), .ref (qa 6), .ref (qa 7), .ref (qa 8), .int (nI n), .ref (qa 9), .ref (qa 10), .ref (qa 11), .ref (qa 12), .ref (qa 13), .ref (qa 14), .ref (qa 15), .ref (qa 16), .ref (qa 17), .ref (qa 18), .ref (qa 19), .ref (qa 20)]))] H := hP.sub [0] rfl
  have hDc := hD.sub (ws' := [(hm, .inr (4, [.int 1, .long ns.toInt64, .int ck, .long hh, .ref (qa 1), .ref (qa 2), .ref (qa 3), .ref (qa 4), .ref (qa 5), .ref (qa 6), .ref (qa 7), .ref (qa 8), .int (nI n), .ref (qa 9), .ref (qa 10), .ref (qa 11), .ref (qa 12), .ref (qa 13), .ref (qa 14), .ref (qa 15), .ref (qa 16), .ref (qa 17), .ref (qa 18), .ref (qa 19), .ref (qa 20)]))]) [0] (by decide) rfl
  refine vp_callSi (W.runV (As := []) (rest := []) ⟨hx, hb, hml, hown, hts⟩ (c_M_thrown l G ct H.size hm 1 ns.toInt64 ck hh (qa 1) (qa 2) (qa 3) (qa 4) (qa 5) (qa 6) (qa 7) (qa 8) (qa 9) (qa 10) (qa 11) (qa 12) (qa 13) (qa 14) (qa 15) (qa 16) (qa 17) (qa 18) (qa 19) (qa 20) n) (tb_V hw cy_M_thrown ww_719 ww_720 ww_721 rfl rfl ⟨Nat.le_of_ble_eq_true rfl, Nat.le_of_ble_eq_true rfl⟩) (wk_preV (ci := 4) (q0 := 0) hPc hK hDc rfl rfl) rfl rfl hl.1 rfl (lv_room (Nat.le_of_ble_eq_true rfl)) d_L_law_775 ⟨by omega, by omega⟩) (fun r1365 er1365 => ?_)
  subst er1365
  refine lv_iload hx hb d_L_law_778 (lv_at hl 1 rfl) ?_
  refine lv_icmp_eq (tgt := 785) hx hb d_L_law_780 (by decide) (fun h1366 => ?_) (fun h1366 => ?_)
  · refine lv_iload hx hb d_L_law_785 (lv_at hl 1 rfl) ?_
    refine lv_if_ne (tgt := 802) hx hb d_L_law_787 (by decide) (fun h1367 => ?_) (fun h1367 => ?_)
    · refine lv_goto (tgt := 1005) hx hb d_L_law_802 (by decide) ?_
      refine W.widen (k := cells + 1) (n := slots + 13) (by omega) (by omega) ?_
      exact kk n ck 1 hh a1 a2 a3 a4 a5 a6 a7 a8 a9 b0 b1 b2 b3 b4 b5 b6 b7 b8 b9 b10 og fo ad eu es H locs _ hnew hP hD hS (lv_sub hl [2, 3, 4, 5, 6] rfl)
    · exact absurd h1367 (by decide)
  · exact absurd h1366 (by decide)
set_option maxHeartbeats 4000000 in
set_option maxRecDepth 100000 in
theorem lq_passV_N_R1 {zj : Nat} {uz : Nat} {zs : Nat} {zx : Nat} {zy : Nat} {zr : Nat} {zc : Int64} {zd : Int64} {a : Int64} (C0 : lc_C p l s m meth c b L xs G ct A) (hiv : iv + 7 ≤ L) (hcc : cells + 1 ≤ room_1.cells) (hzz : slots + 13 ≤ room_1.slots)
    (hP : va_P G classes (lw_W ct hd us op hm qo qa fu au ns n ck n ck th hh a1 a2 a3 a4 a5 a6 a7 a8 a9 b0 b1 b2 b3 b4 b5 b6 b7 b8 b9 b10 og fo ad eu es) H) (hD : va_D A (lw_W ct hd us op hm qo qa fu au ns n ck n ck th hh a1 a2 a3 a4 a5 a6 a7 a8 a9 b0 b1 b2 b3 b4 b5 b6 b7 b8 b9 b10 og fo ad eu es)) (hS : va_S A s.heap H locs) (hl : lv_has ls 8 [(4, .int (nI iv)), (3, .ref qo), (2, .ref hm), (1, .ref hd), (0, .ref b)])
    (kk : lc_K p l e s m below meth c b L xs G ct A hd us op hm qo qa fu au ns iv (cells + 1) (slots + 13) Q)
    (hv1 : xs (iv + 1) = nI zj) (hzn : zj < n) (hez : es zj = .inr (3, [.ref (au uz), .int (b0 zj), .long (lN zs), .int (b3 zj), .int (b2 zj), .long (lN zx), .long (lN zy), .long (b9 zj), .long zc, .long zd, .long (b10 zj), .long (lN zr)])) (d_hno : ¬ th_in (xs (iv + 2)) n) (d_hn : n ≤ 40) (d_hzn : zj < n) (d_hzf : fo zj = some (ad zj)) (d_hxr : (b10 zj) ^^^ (lj (xs (iv + 3)) (xs (iv + 4))) = a) (m_hno : ¬ th_in (xs (iv + 2)) n) (m_hn : n ≤ 40) (m_hpm : ∀ j, j < n → (nI zj) = nI j → b10 j ^^^ (lj (xs (iv + 3)) (xs (iv + 4))) = a) (m_hpn : ¬ th_in (nI zj) n → (lj (xs (iv + 3)) (xs (iv + 4))) = a)  (hnew : li_R fu au ns n a1 a2 a3 a4 a5 a6 a7 a8 a9 b0 b1 b2 b3 b4 b5 b6 b7 b8 b9 b10 fo ad eu es)  : W p l e room_1 s m #[Value.ref b] below meth c H locs cells slots Q (F0 m 693 ls []) := by
  obtain ⟨hx, hb, hr, hml, hown, hw, hK, hZ, hR, hN, hfl, hA, hbA, hX, hbl, hL, hlocks⟩ := C0
  have hts := hw
  have hP : va_P G classes (lw_W ct hd us op hm qo qa fu au ns n ck n ck th hh a1 a2 a3 a4 a5 a6 a7 a8 a9 b0 b1 b2 b3 b4 b5 b6 b7 b8 b9 b10 og fo ad eu es) H := hP
  have hD : va_D A (lw_W ct hd us op hm qo qa fu au ns n ck n ck th hh a1 a2 a3 a4 a5 a6 a7 a8 a9 b0 b1 b2 b3 b4 b5 b6 b7 b8 b9 b10 og fo ad eu es) := hD
  refine lv_aload_n hx hb d_L_law_693 rfl (lv_at hl 3 rfl) ?_
  refine lv_aload_n hx hb d_L_law_694 rfl (lv_at hl 4 rfl) ?_
  refine lv_iload hx hb d_L_law_695 (lv_at hl 0 rfl) ?_
  refine lv_iconst (v := 1) hx hb d_L_law_697 (by decide) ?_
  refine lv_iadd hx hb d_L_law_698 ?_
  refine sl_ld (j := iv) (d := 1) hx hb hX hbl hbA hS hL (by omega) d_L_law_699 ?_
  refine tp_i (hv1) ?_
  refine lv_aload_n hx hb d_L_law_700 rfl (lv_at hl 4 rfl) ?_
  refine lv_iload hx hb d_L_law_701 (lv_at hl 0 rfl) ?_
  refine lv_iconst (v := 2) hx hb d_L_law_703 (by decide) ?_
  refine lv_iadd hx hb d_L_law_704 ?_
  refine sl_ld (j := iv) (d := 2) hx hb hX hbl hbA hS hL (by omega) d_L_law_705 ?_
  refine lv_aload_n hx hb d_L_law_706 rfl (lv_at hl 4 rfl) ?_
  refine lv_iload hx hb d_L_law_707 (lv_at hl 0 rfl) ?_
  refine lv_iconst (v := 3) hx hb d_L_law_709 (by decide) ?_
  refine lv_iadd hx hb d_L_law_710 ?_
  refine sl_ld (j := iv) (d := 3) hx hb hX hbl hbA hS hL (by omega) d_L_law_711 ?_
  refine lv_i2l (v := (xs (iv + 3)).toInt64) hx hb d_L_law_712 rfl ?_
  refine lv_bipush (v := 32) hx hb d_L_law_713 (by decide) ?_
  refine lv_lshl (v := ((xs (iv + 3)).toInt64) <<< ((32 : Int32).toInt64 &&& 63)) hx hb d_L_law_715 rfl ?_
  refine lv_aload_n hx hb d_L_law_716 rfl (lv_at hl 4 rfl) ?_
  refine lv_iload hx hb d_L_law_717 (lv_at hl 0 rfl) ?_
  refine lv_iconst (v := 4) hx hb d_L_law_719 (by decide) ?_
  refine lv_iadd hx hb d_L_law_720 ?_
  refine sl_ld (j := iv) (d := 4) hx hb hX hbl hbA hS hL (by omega) d_L_law_721 ?_
  refine lv_i2l (v := (xs (iv + 4)).toInt64) hx hb d_L_law_722 rfl ?_
  refine lv_ldc2 (v := 4294967295) hx hb hown (hw _ ww_884) d_L_law_723 ?_
  refine lv_land hx hb d_L_law_726 ?_
  refine lv_lor hx hb d_L_law_727 ?_
  refine tp_l (rfl) ?_
  refine lv_aload_n hx hb d_L_law_728 rfl (lv_at hl 1 rfl) ?_
  have hC9 : List.map (fun i => ((lw_W ct hd us op hm qo qa fu au ns n ck n ck th hh a1 a2 a3 a4 a5 a6 a7 a8 a9 b0 b1 b2 b3 b4 b5 b6 b7 b8 b9 b10 og fo ad eu es) : va_W)[i]?) [22, 24, 25 + (8 + zj), 21] = List.map some ([(hd, .inr (0, [.ref us, .ref op, .int (nI n), .int ck])), (op, .inl ((ct 4), 40, .inr (.inr (.inr (.inr fo))))), ((ad zj), .inr (3, [.ref (au uz), .int (b0 zj), .long (lN zs), .int (b3 zj), .int (b2 zj), .long (lN zx), .long (lN zy), .long (b9 zj), .long zc, .long zd, .long (b10 zj), .long (lN zr)])), (qo, .inl ((ct 1), 1, .inr (.inl og)))] : va_W) := (wc_c rfl (wc_c rfl (wc_c (lw_s rfl hzn hez) (wc_c rfl rfl))))
  have hn9 : va_nd [22, 24, 25 + (8 + zj), 21] = true := (nd_c (by simp only [List.mem_cons, List.not_mem_nil, or_false]; omega) (nd_c (by simp only [List.mem_cons, List.not_mem_nil, or_false]; omega) (nd_c (by simp only [List.mem_cons, List.not_mem_nil, or_false]; omega) (nd_c List.not_mem_nil rfl))))
  have hPc : va_P G classes [(hd, .inr (0, [.ref us, .ref op, .int (nI n), .int ck])), (op, .inl ((ct 4), 40, .inr (.inr (.inr (.inr fo))))), ((ad zj), .inr (3, [.ref (au uz), .int (b0 zj), .long (lN zs), .int (b3 zj), .int (b2 zj), .long (lN zx), .long (lN zy), .long (b9 zj), .long zc, .long zd, .long (b10 zj), .long (lN zr)])), (qo, .inl ((ct 1), 1, .inr (.inl og)))] H := lp_sub hP [22, 24, 25 + (8 + zj), 21] hC9
  have hDc := hD.sub (ws' := [(hd, .inr (0, [.ref us, .ref op, .int (nI n), .int ck])), (op, .inl ((ct 4), 40, .inr (.inr (.inr (.inr fo))))), ((ad zj), .inr (3, [.ref (au uz), .int (b0 zj), .long (lN zs), .int (b3 zj), .int (b2 zj), .long (lN zx), .long (lN zy), .long (b9 zj), .long zc, .long zd, .long (b10 zj), .long (lN zr)])), (qo, .inl ((ct 1), 1, .inr (.inl og)))]) [22, 24, 25 + (8 + zj), 21] hn9 hC9
  have hW9 : wk_sets ((lw_W ct hd us op hm qo qa fu au ns n ck n ck th hh a1 a2 a3 a4 a5 a6 a7 a8 a9 b0 b1 b2 b3 b4 b5 b6 b7 b8 b9 b10 og fo ad eu es) : va_W) [22, 24, 25 + (8 + zj), 21] ([(hd, .inr (0, [.ref us, .ref op, .int (nI n), .int ck])), (op, .inl ((ct 4), 40, .inr (.inr (.inr (.inr fo))))), ((ad zj), .inr (3, [.ref (au uz), .int (b0 zj), .long (lN zs), .int (b3 zj), .int (b2 zj), .long (lN zx), .long (lN zy), .long (b9 zj), .long zc, .long zd, .long (b10 zj), .long (lN zr)])), (qo, .inl ((ct 1), 1, .inr (.inl og)))] : va_W) = ((lw_W ct hd us op hm qo qa fu au ns n ck n ck th hh a1 a2 a3 a4 a5 a6 a7 a8 a9 b0 b1 b2 b3 b4 b5 b6 b7 b8 b9 b10 og fo ad eu es) : va_W) := (ws_k rfl (ws_k rfl (ws_k (lw_s rfl hzn hez) (ws_k rfl rfl))))
  refine wk_i (sh_run (As := [.ref hd, .int (nI zj), .int (xs (iv + 2)), .long (lj (xs (iv + 3)) (xs (iv + 4))), .ref qo]) (rest := []) (hs := [(0, 12, 15, 25), (0, 12, 19, 15), (0, 12, 23, 13), (0, 12, 27, 27)]) ⟨hx, hb, hml, hown, hts⟩ (c_L_passV_N l hfl G ct H.size hd us op n ck (xs (iv + 2)) a fo zj (ad zj) (au uz) (b0 zj) zs (b3 zj) (b2 zj) zx zy (b9 zj) zc zd (b10 zj) zr (lj (xs (iv + 3)) (xs (iv + 4))) qo og d_hno d_hn d_hzn d_hzf d_hxr) ⟨hw, ww_613, ww_0, ⟨by decide, by decide⟩, np_L_pass, ww_611, ww_612, rfl, rfl, Nat.le_of_ble_eq_true rfl, Nat.le_of_ble_eq_true rfl⟩ (wk_pre5 hPc hK hDc hD hS hA [22, 24, 25 + (8 + zj), 21] hC9 hZ hR hN) rfl hl.1 rfl (lv_room (Nat.le_of_ble_eq_true rfl)) d_L_law_729 ⟨by omega, by omega⟩) hP hD hS hA [22, 24, 25 + (8 + zj), 21] hn9 hC9 (fun _ => by simp only [List.map_cons, List.map_nil]) (fun _ H locs _ hP hD hS => ?_)
  have hP : va_P G classes (lw_W ct hd us op hm qo qa fu au ns n ck n ck th hh a1 a2 a3 a4 a5 a6 a7 a8 a9 b0 b1 b2 b3 b4 b5 b6 b7 b8 b9 b10 og fo ad eu es) H := lp_P hW9 hP
  have hD : va_D A (lw_W ct hd us op hm qo qa fu au ns n ck n ck th hh a1 a2 a3 a4 a5 a6 a7 a8 a9 b0 b1 b2 b3 b4 b5 b6 b7 b8 b9 b10 og fo ad eu es) := lp_D hW9 hD
  refine lv_istore (lv' := [(5, .int 1), (4, .int (nI iv)), (3, .ref qo), (2, .ref hm), (1, .ref hd), (0, .ref b)]) hx hb d_L_law_732 hl (Nat.le_of_ble_eq_true rfl) rfl (fun ls hl => ?_)
  refine lv_aload_n hx hb d_L_law_734 rfl (lv_at hl 3 rfl) ?_
  refine lv_aload_n hx hb d_L_law_735 rfl (lv_at hl 5 rfl) ?_
  refine lv_iload hx hb d_L_law_736 (lv_at hl 1 rfl) ?_
  refine lv_iconst (v := 1) hx hb d_L_law_738 (by decide) ?_
  refine lv_iadd hx hb d_L_law_739 ?_
  refine sl_ld (j := iv) (d := 1) hx hb hX hbl hbA hS hL (by omega) d_L_law_740 ?_
  refine tp_i (hv1) ?_
  refine lv_aload_n hx hb d_L_law_741 rfl (lv_at hl 5 rfl) ?_
  refine lv_iload hx hb d_L_law_742 (lv_at hl 1 rfl) ?_
  refine lv_iconst (v := 2) hx hb d_L_law_744 (by decide) ?_
  refine lv_iadd hx hb d_L_law_745 ?_
  refine sl_ld (j := iv) (d := 2) hx hb hX hbl hbA hS hL (by omega) d_L_law_746 ?_
  refine lv_aload_n hx hb d_L_law_747 rfl (lv_at hl 5 rfl) ?_
  refine lv_iload hx hb d_L_law_748 (lv_at hl 1 rfl) ?_
  refine lv_iconst (v := 3) hx hb d_L_law_750 (by decide) ?_
  refine lv_iadd hx hb d_L_law_751 ?_
  refine sl_ld (j := iv) (d := 3) hx hb hX hbl hbA hS hL (by omega) d_L_law_752 ?_
  refine lv_i2l (v := (xs (iv + 3)).toInt64) hx hb d_L_law_753 rfl ?_
  refine lv_bipush (v := 32) hx hb d_L_law_754 (by decide) ?_
  refine lv_lshl (v := ((xs (iv + 3)).toInt64) <<< ((32 : Int32).toInt64 &&& 63)) hx hb d_L_law_756 rfl ?_
  refine lv_aload_n hx hb d_L_law_757 rfl (lv_at hl 5 rfl) ?_
  refine lv_iload hx hb d_L_law_758 (lv_at hl 1 rfl) ?_
  refine lv_iconst (v := 4) hx hb d_L_law_760 (by decide) ?_
  refine lv_iadd hx hb d_L_law_761 ?_
  refine sl_ld (j := iv) (d := 4) hx hb hX hbl hbA hS hL (by omega) d_L_law_762 ?_
  refine lv_i2l (v := (xs (iv + 4)).toInt64) hx hb d_L_law_763 rfl ?_
  refine lv_ldc2 (v := 4294967295) hx hb hown (hw _ ww_884) d_L_law_764 ?_
  refine lv_land hx hb d_L_law_767 ?_
  refine lv_lor hx hb d_L_law_768 ?_
  refine tp_l (rfl) ?_
  have hC9 : List.map (fun i => ((lw_W ct hd us op hm qo qa fu au ns n ck n ck th hh a1 a2 a3 a4 a5 a6 a7 a8 a9 b0 b1 b2 b3 b4 b5 b6 b7 b8 b9 b10 og fo ad eu es) : va_W)[i]?) [0, 20] = List.map some ([(hm, .inr (4, [.int th, .long ns.toInt64, .int ck, .long hh, .ref (qa 1), .ref (qa 2), .ref (qa 3), .ref (qa 4), .ref (qa 5), .ref (qa 6), .ref (qa 7), .ref (qa 8), .int (nI n), .ref (qa 9), .ref (qa 10), .ref (qa 11), .ref (qa 12), .ref (qa 13), .ref (qa 14), .ref (qa 15), .ref (qa 16), .ref (qa 17), .ref (qa 18), .ref (qa 19), .ref (qa 20)])), ((qa 20), .inl ((ct 1), 40, .inr (.inl b10)))] : va_W) := (wc_c rfl (wc_c rfl rfl))
  have hn9 : va_nd [0, 20] = true := by decide
  have hPc : va_P G classes [(hm, .inr (4, [.int th, .long ns.toInt64, .int ck, .long hh, .ref (qa 1), .ref (qa 2), .ref (qa 3), .ref (qa 4), .ref (qa 5), .ref (qa 6), .ref (qa 7), .ref (qa 8), .int (nI n), .ref (qa 9), .ref (qa 10), .ref (qa 11), .ref (qa 12), .ref (qa 13), .ref (qa 14), .ref (qa 15), .ref (qa 16), .ref (qa 17), .ref (qa 18), .ref (qa 19), .ref (qa 20)])), ((qa 20), .inl ((ct 1), 40, .inr (.inl b10)))] H := lp_sub hP [0, 20] hC9
  have hDc := hD.sub (ws' := [(hm, .inr (4, [.int th, .long ns.toInt64, .int ck, .long hh, .ref (qa 1), .ref (qa 2), .ref (qa 3), .ref (qa 4), .ref (qa 5), .ref (qa 6), .ref (qa 7), .ref (qa 8), .int (nI n), .ref (qa 9), .ref (qa 10), .ref (qa 11), .ref (qa 12), .ref (qa 13), .ref (qa 14), .ref (qa 15), .ref (qa 16), .ref (qa 17), .ref (qa 18), .ref (qa 19), .ref (qa 20)])), ((qa 20), .inl ((ct 1), 40, .inr (.inl b10)))]) [0, 20] hn9 hC9
  refine wk_i (va_runV (As := [.int (nI zj), .int (xs (iv + 2)), .long (lj (xs (iv + 3)) (xs (iv + 4)))]) (rest := []) ⟨hx, hb, hml, hown, hts⟩ (c_M_pass_R1 l G ct H.size hm th ns.toInt64 ck hh (qa 1) (qa 2) (qa 3) (qa 4) (qa 5) (qa 6) (qa 7) (qa 8) (qa 9) (qa 10) (qa 11) (qa 12) (qa 13) (qa 14) (qa 15) (qa 16) (qa 17) (qa 18) (qa 19) (qa 20) n b10 (xs (iv + 2)) a (nI zj) (lj (xs (iv + 3)) (xs (iv + 4))) m_hno m_hn m_hpm m_hpn) (tb_V hw cy_M_pass ww_856 ww_857 ww_858 rfl rfl ⟨Nat.le_of_ble_eq_true rfl, Nat.le_of_ble_eq_true rfl⟩) (wk_preV (ci := 4) (q0 := 0) hPc hK hDc rfl rfl) rfl rfl hl.1 rfl (lv_room (Nat.le_of_ble_eq_true rfl)) d_L_law_769 ⟨by omega, by omega⟩) hP hD hS hA [0, 20] hn9 hC9 (fun _ => by simp only [List.map_cons, List.map_nil]) (fun _ H locs _ hP hD hS => ?_)
  have hW9 : wk_sets ((lw_W ct hd us op hm qo qa fu au ns n ck n ck th hh a1 a2 a3 a4 a5 a6 a7 a8 a9 b0 b1 b2 b3 b4 b5 b6 b7 b8 b9 b10 og fo ad eu es) : va_W) [0, 20] ([(hm, .inr (4, [.int 1, .long ns.toInt64, .int ck, .long hh, .ref (qa 1), .ref (qa 2), .ref (qa 3), .ref (qa 4), .ref (qa 5), .ref (qa 6), .ref (qa 7), .ref (qa 8), .int (nI n), .ref (qa 9), .ref (qa 10), .ref (qa 11), .ref (qa 12), .ref (qa 13), .ref (qa 14), .ref (qa 15), .ref (qa 16), .ref (qa 17), .ref (qa 18), .ref (qa 19), .ref (qa 20)])), ((qa 20), .inl ((ct 1), 40, .inr (.inl b10)))] : va_W) = ((lw_W ct hd us op hm qo qa fu au ns n ck n ck 1 hh a1 a2 a3 a4 a5 a6 a7 a8 a9 b0 b1 b2 b3 b4 b5 b6 b7 b8 b9 b10 og fo ad eu es) : va_W) := (ws_c (ws' := (lw_W ct hd us op hm qo qa fu au ns n ck n ck 1 hh a1 a2 a3 a4 a5 a6 a7 a8 a9 b0 b1 b2 b3 b4 b5 b6 b7 b8 b9 b10 og fo ad eu es)) rfl (ws_k rfl rfl))
  have hP : va_P G classes (lw_W ct hd us op hm qo qa fu au ns n ck n ck 1 hh a1 a2 a3 a4 a5 a6 a7 a8 a9 b0 b1 b2 b3 b4 b5 b6 b7 b8 b9 b10 og fo ad eu es) H := lp_P hW9 hP
  have hD : va_D A (lw_W ct hd us op hm qo qa fu au ns n ck n ck 1 hh a1 a2 a3 a4 a5 a6 a7 a8 a9 b0 b1 b2 b3 b4 b5 b6 b7 b8 b9 b10 og fo ad eu es) := lp_D hW9 hD
  refine lv_istore (lv' := [(6, .int 0), (5, .int 1), (4, .int (nI iv)), (3, .ref qo), (2, .ref hm), (1, .ref hd), (0, .ref b)]) hx hb d_L_law_772 hl (Nat.le_of_ble_eq_true rfl) rfl (fun ls hl => ?_)
  refine lv_aload_n hx hb d_L_law_774 rfl (lv_at hl 4 rfl) ?_
  have hPc : va_P G classes [(hm, .inr (4, [.int 1, .long ns.toInt64, .int ck, .long hh, .ref (qa 1), .ref (qa 2), .ref (qa 3), .ref (qa 4), .ref (qa 5), .ref (qa 6), .ref (qa 7), .ref (qa 8), .int (nI n), .ref (qa 9), .ref (qa 10), .ref (qa 11), .ref (qa 12), .ref (qa 13), .ref (qa 14), .ref (qa 15), .ref (qa 16), .ref (qa 17), .ref (qa 18), .ref (qa 19), .ref (qa 20)]))] H := hP.sub [0] rfl
  have hDc := hD.sub (ws' := [(hm, .inr (4, [.int 1, .long ns.toInt64, .int ck, .long hh, .ref (qa 1), .ref (qa 2), .ref (qa 3), .ref (qa 4), .ref (qa 5), .ref (qa 6), .ref (qa 7), .ref (qa 8), .int (nI n), .ref (qa 9), .ref (qa 10), .ref (qa 11), .ref (qa 12), .ref (qa 13), .ref (qa 14), .ref (qa 15), .ref (qa 16), .ref (qa 17), .ref (qa 18), .ref (qa 19), .ref (qa 20)]))]) [0] (by decide) rfl
  refine vp_callSi (W.runV (As := []) (rest := []) ⟨hx, hb, hml, hown, hts⟩ (c_M_thrown l G ct H.size hm 1 ns.toInt64 ck hh (qa 1) (qa 2) (qa 3) (qa 4) (qa 5) (qa 6) (qa 7) (qa 8) (qa 9) (qa 10) (qa 11) (qa 12) (qa 13) (qa 14) (qa 15) (qa 16) (qa 17) (qa 18) (qa 19) (qa 20) n) (tb_V hw cy_M_thrown ww_719 ww_720 ww_721 rfl rfl ⟨Nat.le_of_ble_eq_true rfl, Nat.le_of_ble_eq_true rfl⟩) (wk_preV (ci := 4) (q0 := 0) hPc hK hDc rfl rfl) rfl rfl hl.1 rfl (lv_room (Nat.le_of_ble_eq_true rfl)) d_L_law_775 ⟨by omega, by omega⟩) (fun r1368 er1368 => ?_)
  subst er1368
  refine lv_iload hx hb d_L_law_778 (lv_at hl 1 rfl) ?_
  refine lv_icmp_eq (tgt := 785) hx hb d_L_law_780 (by decide) (fun h1369 => ?_) (fun h1369 => ?_)
  · refine lv_iload hx hb d_L_law_785 (lv_at hl 1 rfl) ?_
    refine lv_if_ne (tgt := 802) hx hb d_L_law_787 (by decide) (fun h1370 => ?_) (fun h1370 => ?_)
    · refine lv_goto (tgt := 1005) hx hb d_L_law_802 (by decide) ?_
      refine W.widen (k := cells + 1) (n := slots + 13) (by omega) (by omega) ?_
      exact kk n ck 1 hh a1 a2 a3 a4 a5 a6 a7 a8 a9 b0 b1 b2 b3 b4 b5 b6 b7 b8 b9 b10 og fo ad eu es H locs _ hnew hP hD hS (lv_sub hl [2, 3, 4, 5, 6] rfl)
    · exact absurd h1370 (by decide)
  · exact absurd h1369 (by decide)
end LQ
