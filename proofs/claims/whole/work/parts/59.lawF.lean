section LQ
variable {p : Program} {l : Launch} {e : Env} {s : State} {m : MethodId} {below : List Frame} {meth : Method} {c : Code} {b : Nat} {L : Nat} {xs : Nat → Int32} {G : va_G} {ct : Nat → ClassId} {A : Nat → Prop} {hd : Nat} {us : Nat} {op : Nat} {hm : Nat} {qo : Nat} {qa : Nat → Nat} {fu : Nat → Option Nat} {au : Nat → Nat} {ns : Int32} {iv cells slots : Nat} {Q : State → Prop} {H : Heap} {locs : List Loc} {ls : Array Slot} {n : Nat} {ck : Int32} {th : Int32} {hh : Int64} {a1 : Nat → Int32} {a2 : Nat → Int64} {a3 : Nat → Int64} {a4 : Nat → Int64} {a5 : Nat → Int32} {a6 : Nat → Int32} {a7 : Nat → Int32} {a8 : Nat → Int32} {a9 : Nat → Int32} {b0 : Nat → Int32} {b1 : Nat → Int32} {b2 : Nat → Int32} {b3 : Nat → Int32} {b4 : Nat → Int64} {b5 : Nat → Int64} {b6 : Nat → Int64} {b7 : Nat → Int64} {b8 : Nat → Int64} {b9 : Nat → Int64} {b10 : Nat → Int64} {og : Nat → Int64} {fo : Nat → Option Nat} {ad : Nat → Nat} {eu : Nat → va_E} {es : Nat → va_E}
theorem bl_e {f l3 ck : Int32} : (if us_bl f l3 ck then (1 : Int32) else 0) = (if sm_bl f l3 ck then 1 else 0) := by
  by_cases h : us_bl f l3 ck
  · rw [if_pos h, if_pos (ti_bl.mpr h)]
  · rw [if_neg h, if_neg (fun q => h (ti_bl.mp q))]
set_option maxHeartbeats 4000000 in
set_option maxRecDepth 100000 in
theorem lx_register (C0 : lc_C p l s m meth c b L xs G ct A) (hiv : iv + 7 ≤ L) (hcc : cells + 1 ≤ room_1.cells) (hzz : slots + 13 ≤ room_1.slots) (Z : li_R fu au ns n a1 a2 a3 a4 a5 a6 a7 a8 a9 b0 b1 b2 b3 b4 b5 b6 b7 b8 b9 b10 fo ad eu es)
    (hP : va_P G classes (lw_W ct hd us op hm qo qa fu au ns n ck n ck th hh a1 a2 a3 a4 a5 a6 a7 a8 a9 b0 b1 b2 b3 b4 b5 b6 b7 b8 b9 b10 og fo ad eu es) H) (hD : va_D A (lw_W ct hd us op hm qo qa fu au ns n ck n ck th hh a1 a2 a3 a4 a5 a6 a7 a8 a9 b0 b1 b2 b3 b4 b5 b6 b7 b8 b9 b10 og fo ad eu es)) (hS : va_S A s.heap H locs) (hl : lv_has ls 8 [(4, .int (nI iv)), (3, .ref qo), (2, .ref hm), (1, .ref hd), (0, .ref b)])
    (kk : lc_K p l e s m below meth c b L xs G ct A hd us op hm qo qa fu au ns iv (cells + 1) (slots + 13) Q) : W p l e room_1 s m #[Value.ref b] below meth c H locs cells slots Q (F0 m 120 ls []) := by
  by_cases hu : us_in (xs (iv + 1))
  · obtain ⟨k, hk8, hv1⟩ := us_of hu
    obtain ⟨hfu, uo, ul, uv, heu, hw3, hw0, hw1⟩ := Z.2.1 k hk8
    by_cases hwi : wy_in (xs (iv + 2))
    · exact lq_register1 C0 hiv hcc hzz hP hD hS hl kk hv1 hk8 heu hk8 hfu hwi hk8 hwi (lr_U Z (fun j h => ⟨up_ne h, ul_ne h, ul_ne h, ul_ne h, rfl, rfl, rfl, rfl, va_up_ne _ _ h⟩) (up_se _ _ _) (ul_se _ _ _) (ul_se _ _ _) (ul_se _ _ _) rfl rfl rfl rfl (va_up_self _ _ _) (un_kp hwi))
    · exact lq_register2 C0 hiv hcc hzz hP hD hS hl kk hv1 hk8 heu hk8 hfu hwi (fun q => hwi q.2) Z
  · exact lq_register0 C0 hiv hcc hzz hP hD hS hl kk hu (fun q => hu q.1) Z
set_option maxHeartbeats 4000000 in
set_option maxRecDepth 100000 in
theorem lx_forget (C0 : lc_C p l s m meth c b L xs G ct A) (hiv : iv + 7 ≤ L) (hcc : cells + 1 ≤ room_1.cells) (hzz : slots + 13 ≤ room_1.slots) (Z : li_R fu au ns n a1 a2 a3 a4 a5 a6 a7 a8 a9 b0 b1 b2 b3 b4 b5 b6 b7 b8 b9 b10 fo ad eu es)
    (hP : va_P G classes (lw_W ct hd us op hm qo qa fu au ns n ck n ck th hh a1 a2 a3 a4 a5 a6 a7 a8 a9 b0 b1 b2 b3 b4 b5 b6 b7 b8 b9 b10 og fo ad eu es) H) (hD : va_D A (lw_W ct hd us op hm qo qa fu au ns n ck n ck th hh a1 a2 a3 a4 a5 a6 a7 a8 a9 b0 b1 b2 b3 b4 b5 b6 b7 b8 b9 b10 og fo ad eu es)) (hS : va_S A s.heap H locs) (hl : lv_has ls 8 [(4, .int (nI iv)), (3, .ref qo), (2, .ref hm), (1, .ref hd), (0, .ref b)])
    (kk : lc_K p l e s m below meth c b L xs G ct A hd us op hm qo qa fu au ns iv (cells + 1) (slots + 13) Q) : W p l e room_1 s m #[Value.ref b] below meth c H locs cells slots Q (F0 m 247 ls []) := by
  by_cases hu : us_in (xs (iv + 1))
  · obtain ⟨k, hk8, hv1⟩ := us_of hu
    obtain ⟨hfu, uo, ul, uv, heu, hw3, hw0, hw1⟩ := Z.2.1 k hk8
    by_cases hm1 : a1 k = -1
    · exact lq_forget2 C0 hiv hcc hzz hP hD hS hl kk hv1 hk8 heu hk8 hfu hm1 hk8 (fun q => (ge_w hw3).mpr q hm1) Z
    · exact lq_forget1 C0 hiv hcc hzz hP hD hS hl kk hv1 hk8 heu hk8 hfu hm1 hk8 ((ge_w hw3).mp hm1) (lr_U Z (fun j h => ⟨up_ne h, rfl, rfl, rfl, rfl, rfl, rfl, rfl, va_up_ne _ _ h⟩) (up_se _ _ _) rfl rfl rfl rfl rfl rfl rfl (va_up_self _ _ _) un_fg)
  · exact lq_forget0 C0 hiv hcc hzz hP hD hS hl kk hu hu Z
set_option maxHeartbeats 4000000 in
set_option maxRecDepth 100000 in
theorem lx_way (C0 : lc_C p l s m meth c b L xs G ct A) (hiv : iv + 7 ≤ L) (hcc : cells + 1 ≤ room_1.cells) (hzz : slots + 13 ≤ room_1.slots) (Z : li_R fu au ns n a1 a2 a3 a4 a5 a6 a7 a8 a9 b0 b1 b2 b3 b4 b5 b6 b7 b8 b9 b10 fo ad eu es)
    (hP : va_P G classes (lw_W ct hd us op hm qo qa fu au ns n ck n ck th hh a1 a2 a3 a4 a5 a6 a7 a8 a9 b0 b1 b2 b3 b4 b5 b6 b7 b8 b9 b10 og fo ad eu es) H) (hD : va_D A (lw_W ct hd us op hm qo qa fu au ns n ck n ck th hh a1 a2 a3 a4 a5 a6 a7 a8 a9 b0 b1 b2 b3 b4 b5 b6 b7 b8 b9 b10 og fo ad eu es)) (hS : va_S A s.heap H locs) (hl : lv_has ls 8 [(4, .int (nI iv)), (3, .ref qo), (2, .ref hm), (1, .ref hd), (0, .ref b)])
    (kk : lc_K p l e s m below meth c b L xs G ct A hd us op hm qo qa fu au ns iv (cells + 1) (slots + 13) Q) : W p l e room_1 s m #[Value.ref b] below meth c H locs cells slots Q (F0 m 272 ls []) := by
  by_cases hu : us_in (xs (iv + 1))
  · obtain ⟨k, hk8, hv1⟩ := us_of hu
    obtain ⟨hfu, uo, ul, uv, heu, hw3, hw0, hw1⟩ := Z.2.1 k hk8
    exact lq_way1 C0 hiv hcc hzz hP hD hS hl kk hv1 hk8 heu hk8 hfu hk8 Z
  · exact lq_way0 C0 hiv hcc hzz hP hD hS hl kk hu hu Z
set_option maxHeartbeats 4000000 in
set_option maxRecDepth 100000 in
theorem lx_salt (C0 : lc_C p l s m meth c b L xs G ct A) (hiv : iv + 7 ≤ L) (hcc : cells + 1 ≤ room_1.cells) (hzz : slots + 13 ≤ room_1.slots) (Z : li_R fu au ns n a1 a2 a3 a4 a5 a6 a7 a8 a9 b0 b1 b2 b3 b4 b5 b6 b7 b8 b9 b10 fo ad eu es)
    (hP : va_P G classes (lw_W ct hd us op hm qo qa fu au ns n ck n ck th hh a1 a2 a3 a4 a5 a6 a7 a8 a9 b0 b1 b2 b3 b4 b5 b6 b7 b8 b9 b10 og fo ad eu es) H) (hD : va_D A (lw_W ct hd us op hm qo qa fu au ns n ck n ck th hh a1 a2 a3 a4 a5 a6 a7 a8 a9 b0 b1 b2 b3 b4 b5 b6 b7 b8 b9 b10 og fo ad eu es)) (hS : va_S A s.heap H locs) (hl : lv_has ls 8 [(4, .int (nI iv)), (3, .ref qo), (2, .ref hm), (1, .ref hd), (0, .ref b)])
    (kk : lc_K p l e s m below meth c b L xs G ct A hd us op hm qo qa fu au ns iv (cells + 1) (slots + 13) Q) : W p l e room_1 s m #[Value.ref b] below meth c H locs cells slots Q (F0 m 297 ls []) := by
  by_cases hu : us_in (xs (iv + 1))
  · obtain ⟨k, hk8, hv1⟩ := us_of hu
    obtain ⟨hfu, uo, ul, uv, heu, hw3, hw0, hw1⟩ := Z.2.1 k hk8
    exact lq_salt1 C0 hiv hcc hzz hP hD hS hl kk hv1 hk8 heu hk8 hfu hk8 (sa_e hw1) Z
  · exact lq_salt0 C0 hiv hcc hzz hP hD hS hl kk hu hu Z
set_option maxHeartbeats 4000000 in
set_option maxRecDepth 100000 in
theorem lx_blocked (C0 : lc_C p l s m meth c b L xs G ct A) (hiv : iv + 7 ≤ L) (hcc : cells + 1 ≤ room_1.cells) (hzz : slots + 13 ≤ room_1.slots) (Z : li_R fu au ns n a1 a2 a3 a4 a5 a6 a7 a8 a9 b0 b1 b2 b3 b4 b5 b6 b7 b8 b9 b10 fo ad eu es)
    (hP : va_P G classes (lw_W ct hd us op hm qo qa fu au ns n ck n ck th hh a1 a2 a3 a4 a5 a6 a7 a8 a9 b0 b1 b2 b3 b4 b5 b6 b7 b8 b9 b10 og fo ad eu es) H) (hD : va_D A (lw_W ct hd us op hm qo qa fu au ns n ck n ck th hh a1 a2 a3 a4 a5 a6 a7 a8 a9 b0 b1 b2 b3 b4 b5 b6 b7 b8 b9 b10 og fo ad eu es)) (hS : va_S A s.heap H locs) (hl : lv_has ls 8 [(4, .int (nI iv)), (3, .ref qo), (2, .ref hm), (1, .ref hd), (0, .ref b)])
    (kk : lc_K p l e s m below meth c b L xs G ct A hd us op hm qo qa fu au ns iv (cells + 1) (slots + 13) Q) : W p l e room_1 s m #[Value.ref b] below meth c H locs cells slots Q (F0 m 911 ls []) := by
  by_cases hu : us_in (xs (iv + 1))
  · obtain ⟨k, hk8, hv1⟩ := us_of hu
    obtain ⟨hfu, uo, ul, uv, heu, hw3, hw0, hw1⟩ := Z.2.1 k hk8
    exact lq_blocked1 C0 hiv hcc hzz hP hD hS hl kk hv1 hk8 heu hk8 hfu hk8 bl_e Z
  · exact lq_blocked0 C0 hiv hcc hzz hP hD hS hl kk hu hu Z
set_option maxHeartbeats 4000000 in
set_option maxRecDepth 100000 in
theorem lx_sessions (C0 : lc_C p l s m meth c b L xs G ct A) (hiv : iv + 7 ≤ L) (hcc : cells + 1 ≤ room_1.cells) (hzz : slots + 13 ≤ room_1.slots) (Z : li_R fu au ns n a1 a2 a3 a4 a5 a6 a7 a8 a9 b0 b1 b2 b3 b4 b5 b6 b7 b8 b9 b10 fo ad eu es)
    (hP : va_P G classes (lw_W ct hd us op hm qo qa fu au ns n ck n ck th hh a1 a2 a3 a4 a5 a6 a7 a8 a9 b0 b1 b2 b3 b4 b5 b6 b7 b8 b9 b10 og fo ad eu es) H) (hD : va_D A (lw_W ct hd us op hm qo qa fu au ns n ck n ck th hh a1 a2 a3 a4 a5 a6 a7 a8 a9 b0 b1 b2 b3 b4 b5 b6 b7 b8 b9 b10 og fo ad eu es)) (hS : va_S A s.heap H locs) (hl : lv_has ls 8 [(4, .int (nI iv)), (3, .ref qo), (2, .ref hm), (1, .ref hd), (0, .ref b)])
    (kk : lc_K p l e s m below meth c b L xs G ct A hd us op hm qo qa fu au ns iv (cells + 1) (slots + 13) Q) : W p l e room_1 s m #[Value.ref b] below meth c H locs cells slots Q (F0 m 992 ls []) := by
  exact lq_sessions C0 hiv hcc hzz hP hD hS hl kk Z
set_option maxHeartbeats 4000000 in
set_option maxRecDepth 100000 in
theorem lx_message (C0 : lc_C p l s m meth c b L xs G ct A) (hiv : iv + 7 ≤ L) (hcc : cells + 1 ≤ room_1.cells) (hzz : slots + 13 ≤ room_1.slots) (Z : li_R fu au ns n a1 a2 a3 a4 a5 a6 a7 a8 a9 b0 b1 b2 b3 b4 b5 b6 b7 b8 b9 b10 fo ad eu es)
    (hP : va_P G classes (lw_W ct hd us op hm qo qa fu au ns n ck n ck th hh a1 a2 a3 a4 a5 a6 a7 a8 a9 b0 b1 b2 b3 b4 b5 b6 b7 b8 b9 b10 og fo ad eu es) H) (hD : va_D A (lw_W ct hd us op hm qo qa fu au ns n ck n ck th hh a1 a2 a3 a4 a5 a6 a7 a8 a9 b0 b1 b2 b3 b4 b5 b6 b7 b8 b9 b10 og fo ad eu es)) (hS : va_S A s.heap H locs) (hl : lv_has ls 8 [(4, .int (nI iv)), (3, .ref qo), (2, .ref hm), (1, .ref hd), (0, .ref b)])
    (kk : lc_K p l e s m below meth c b L xs G ct A hd us op hm qo qa fu au ns iv (cells + 1) (slots + 13) Q) : W p l e room_1 s m #[Value.ref b] below meth c H locs cells slots Q (F0 m 805 ls []) := by
  by_cases ht : th_in (xs (iv + 1)) n
  · obtain ⟨k, hkn, hv1⟩ := th_of2 Z.1 ht
    obtain ⟨hfo, u, sec, x, y, rc, c1, c2, hu8, hb1, hwy, hst4, hb4, hs1, hb6, hb7, hb8, hc, hcase⟩ := Z.2.2.1 k hkn
    rcases hcase with ⟨hsv, hr0, hr1, hes⟩ | ⟨hsv, hq1, hp1, hes⟩
    · exact lq_messageC C0 hiv hcc hzz hP hD hS hl kk hv1 hkn hes Z.1 hkn hfo Z.1 hkn Z
    · exact lq_messageV C0 hiv hcc hzz hP hD hS hl kk hv1 hkn hes Z.1 hkn hfo Z.1 hkn Z
  · exact lq_message0 C0 hiv hcc hzz hP hD hS hl kk ht ht Z
set_option maxHeartbeats 4000000 in
set_option maxRecDepth 100000 in
theorem lx_state (C0 : lc_C p l s m meth c b L xs G ct A) (hiv : iv + 7 ≤ L) (hcc : cells + 1 ≤ room_1.cells) (hzz : slots + 13 ≤ room_1.slots) (Z : li_R fu au ns n a1 a2 a3 a4 a5 a6 a7 a8 a9 b0 b1 b2 b3 b4 b5 b6 b7 b8 b9 b10 fo ad eu es)
    (hP : va_P G classes (lw_W ct hd us op hm qo qa fu au ns n ck n ck th hh a1 a2 a3 a4 a5 a6 a7 a8 a9 b0 b1 b2 b3 b4 b5 b6 b7 b8 b9 b10 og fo ad eu es) H) (hD : va_D A (lw_W ct hd us op hm qo qa fu au ns n ck n ck th hh a1 a2 a3 a4 a5 a6 a7 a8 a9 b0 b1 b2 b3 b4 b5 b6 b7 b8 b9 b10 og fo ad eu es)) (hS : va_S A s.heap H locs) (hl : lv_has ls 8 [(4, .int (nI iv)), (3, .ref qo), (2, .ref hm), (1, .ref hd), (0, .ref b)])
    (kk : lc_K p l e s m below meth c b L xs G ct A hd us op hm qo qa fu au ns iv (cells + 1) (slots + 13) Q) : W p l e room_1 s m #[Value.ref b] below meth c H locs cells slots Q (F0 m 886 ls []) := by
  by_cases ht : th_in (xs (iv + 1)) n
  · obtain ⟨k, hkn, hv1⟩ := th_of2 Z.1 ht
    obtain ⟨hfo, u, sec, x, y, rc, c1, c2, hu8, hb1, hwy, hst4, hb4, hs1, hb6, hb7, hb8, hc, hcase⟩ := Z.2.2.1 k hkn
    rcases hcase with ⟨hsv, hr0, hr1, hes⟩ | ⟨hsv, hq1, hp1, hes⟩
    · exact lq_stateC C0 hiv hcc hzz hP hD hS hl kk hv1 hkn hes Z.1 hkn hfo Z.1 hkn ((ti_at hst4).symm) Z
    · exact lq_stateV C0 hiv hcc hzz hP hD hS hl kk hv1 hkn hes Z.1 hkn hfo Z.1 hkn ((ti_at hst4).symm) Z
  · exact lq_state0 C0 hiv hcc hzz hP hD hS hl kk ht ht Z
set_option maxHeartbeats 4000000 in
set_option maxRecDepth 100000 in
theorem lx_key (C0 : lc_C p l s m meth c b L xs G ct A) (hiv : iv + 7 ≤ L) (hcc : cells + 1 ≤ room_1.cells) (hzz : slots + 13 ≤ room_1.slots) (Z : li_R fu au ns n a1 a2 a3 a4 a5 a6 a7 a8 a9 b0 b1 b2 b3 b4 b5 b6 b7 b8 b9 b10 fo ad eu es)
    (hP : va_P G classes (lw_W ct hd us op hm qo qa fu au ns n ck n ck th hh a1 a2 a3 a4 a5 a6 a7 a8 a9 b0 b1 b2 b3 b4 b5 b6 b7 b8 b9 b10 og fo ad eu es) H) (hD : va_D A (lw_W ct hd us op hm qo qa fu au ns n ck n ck th hh a1 a2 a3 a4 a5 a6 a7 a8 a9 b0 b1 b2 b3 b4 b5 b6 b7 b8 b9 b10 og fo ad eu es)) (hS : va_S A s.heap H locs) (hl : lv_has ls 8 [(4, .int (nI iv)), (3, .ref qo), (2, .ref hm), (1, .ref hd), (0, .ref b)])
    (kk : lc_K p l e s m below meth c b L xs G ct A hd us op hm qo qa fu au ns iv (cells + 1) (slots + 13) Q) : W p l e room_1 s m #[Value.ref b] below meth c H locs cells slots Q (F0 m 831 ls []) := by
  by_cases ht : th_in (xs (iv + 1)) n
  · obtain ⟨k, hkn, hv1⟩ := th_of2 Z.1 ht
    obtain ⟨hfo, u, sec, x, y, rc, c1, c2, hu8, hb1, hwy, hst4, hb4, hs1, hb6, hb7, hb8, hc, hcase⟩ := Z.2.2.1 k hkn
    rcases hcase with ⟨hsv, hr0, hr1, hes⟩ | ⟨hsv, hq1, hp1, hes⟩
    · by_cases h2 : b2 k = 2
      · exact lq_key1C C0 hiv hcc hzz hP hD hS hl kk hv1 hkn hes Z.1 hkn hfo h2 Z.1 hkn h2 Z
      · exact lq_key2C C0 hiv hcc hzz hP hD hS hl kk hv1 hkn hes Z.1 hkn hfo h2 Z.1 hkn h2 Z
    · by_cases h2 : b2 k = 2
      · exact lq_key1V C0 hiv hcc hzz hP hD hS hl kk hv1 hkn hes Z.1 hkn hfo h2 Z.1 hkn h2 Z
      · exact lq_key2V C0 hiv hcc hzz hP hD hS hl kk hv1 hkn hes Z.1 hkn hfo h2 Z.1 hkn h2 Z
  · exact lq_key0 C0 hiv hcc hzz hP hD hS hl kk ht ht Z
set_option maxHeartbeats 4000000 in
set_option maxRecDepth 100000 in
theorem lx_tick (C0 : lc_C p l s m meth c b L xs G ct A) (hiv : iv + 7 ≤ L) (hcc : cells + 1 ≤ room_1.cells) (hzz : slots + 13 ≤ room_1.slots) (Z : li_R fu au ns n a1 a2 a3 a4 a5 a6 a7 a8 a9 b0 b1 b2 b3 b4 b5 b6 b7 b8 b9 b10 fo ad eu es)
    (hP : va_P G classes (lw_W ct hd us op hm qo qa fu au ns n ck n ck th hh a1 a2 a3 a4 a5 a6 a7 a8 a9 b0 b1 b2 b3 b4 b5 b6 b7 b8 b9 b10 og fo ad eu es) H) (hD : va_D A (lw_W ct hd us op hm qo qa fu au ns n ck n ck th hh a1 a2 a3 a4 a5 a6 a7 a8 a9 b0 b1 b2 b3 b4 b5 b6 b7 b8 b9 b10 og fo ad eu es)) (hS : va_S A s.heap H locs) (hl : lv_has ls 8 [(4, .int (nI iv)), (3, .ref qo), (2, .ref hm), (1, .ref hd), (0, .ref b)])
    (kk : lc_K p l e s m below meth c b L xs G ct A hd us op hm qo qa fu au ns iv (cells + 1) (slots + 13) Q) : W p l e room_1 s m #[Value.ref b] below meth c H locs cells slots Q (F0 m 936 ls []) := by
  by_cases ht : 0 ≤ xs (iv + 1) ∧ xs (iv + 1) ≤ 100
  · exact lq_tick1 C0 hiv hcc hzz hP hD hS hl kk ht.1 ht.2 ht.1 ht.2 Z
  · exact lq_tick0 C0 hiv hcc hzz hP hD hS hl kk ht ht Z
set_option maxHeartbeats 4000000 in
set_option maxRecDepth 100000 in
theorem lx_client (C0 : lc_C p l s m meth c b L xs G ct A) (hiv : iv + 7 ≤ L) (hcc : cells + 1 ≤ room_1.cells) (hzz : slots + 13 ≤ room_1.slots) (Z : li_R fu au ns n a1 a2 a3 a4 a5 a6 a7 a8 a9 b0 b1 b2 b3 b4 b5 b6 b7 b8 b9 b10 fo ad eu es)
    (hP : va_P G classes (lw_W ct hd us op hm qo qa fu au ns n ck n ck th hh a1 a2 a3 a4 a5 a6 a7 a8 a9 b0 b1 b2 b3 b4 b5 b6 b7 b8 b9 b10 og fo ad eu es) H) (hD : va_D A (lw_W ct hd us op hm qo qa fu au ns n ck n ck th hh a1 a2 a3 a4 a5 a6 a7 a8 a9 b0 b1 b2 b3 b4 b5 b6 b7 b8 b9 b10 og fo ad eu es)) (hS : va_S A s.heap H locs) (hl : lv_has ls 8 [(4, .int (nI iv)), (3, .ref qo), (2, .ref hm), (1, .ref hd), (0, .ref b)])
    (kk : lc_K p l e s m below meth c b L xs G ct A hd us op hm qo qa fu au ns iv (cells + 1) (slots + 13) Q) : W p l e room_1 s m #[Value.ref b] below meth c H locs cells slots Q (F0 m 323 ls []) := by
  by_cases hu : us_in (xs (iv + 1))
  · obtain ⟨k, hk8, hv1⟩ := us_of hu
    obtain ⟨hfu, uo, ul, uv, heu, hw3, hw0, hw1⟩ := Z.2.1 k hk8
    by_cases hwi : wy_in (xs (iv + 2))
    · by_cases hn : nI n < 40
      · have hn40 := n_40' hn Z.1
        rcases id hwi with hw | hw
        · exact lq_client1W C0 hiv hcc hzz hP hD hS hl kk hv1 hk8 heu hk8 hfu hwi hn40 hk8 hn40 hw (fun q9 => lr_N Z hn40 (fun j h => ⟨up_ne h, up_ne h, up_ne h, up_ne h, up_ne h, ul_ne h, ul_ne h, ul_ne h, ul_ne h, (ul_ne h).trans (ul_ne h), va_up_ne _ _ h, va_up_ne _ _ h, va_up_ne _ _ h⟩) (up_se _ _ _) (up_se _ _ _) (up_se _ _ _) (up_se _ _ _) (up_se _ _ _) (ul_se _ _ _) (ul_se _ _ _) (ul_se _ _ _) (ul_se _ _ _) (ul_se _ _ _) (va_up_self _ _ _) (va_up_self _ _ _) (va_up_self _ _ _) (sn_NC hk8 hwi (by rw [hw]; exact ti_x0.1)))
        · exact lq_client1S C0 hiv hcc hzz hP hD hS hl kk hv1 hk8 heu hk8 hfu hwi hn40 hk8 hn40 hw (fun q9 => lr_N Z hn40 (fun j h => ⟨up_ne h, up_ne h, up_ne h, up_ne h, up_ne h, ul_ne h, ul_ne h, ul_ne h, ul_ne h, (ul_ne h).trans (ul_ne h), va_up_ne _ _ h, va_up_ne _ _ h, va_up_ne _ _ h⟩) (up_se _ _ _) (up_se _ _ _) (up_se _ _ _) (up_se _ _ _) (up_se _ _ _) (ul_se _ _ _) (ul_se _ _ _) (ul_se _ _ _) (ul_se _ _ _) (ul_se _ _ _) (va_up_self _ _ _) (va_up_self _ _ _) (va_up_self _ _ _) (sn_NC hk8 hwi (by rw [hw]; exact ti_x0.2)))
      · exact lq_client2 C0 hiv hcc hzz hP hD hS hl kk hv1 hk8 hfu hwi hn (us_k hk8) hwi (n_40 Z.1 hn) Z
    · exact lq_client0b C0 hiv hcc hzz hP hD hS hl kk hv1 hk8 hfu hwi (fun q => hwi q.2) Z
  · exact lq_client0 C0 hiv hcc hzz hP hD hS hl kk hu (fun q => hu q.1) Z
set_option maxHeartbeats 4000000 in
set_option maxRecDepth 100000 in
theorem lx_server (C0 : lc_C p l s m meth c b L xs G ct A) (hiv : iv + 7 ≤ L) (hcc : cells + 1 ≤ room_1.cells) (hzz : slots + 13 ≤ room_1.slots) (Z : li_R fu au ns n a1 a2 a3 a4 a5 a6 a7 a8 a9 b0 b1 b2 b3 b4 b5 b6 b7 b8 b9 b10 fo ad eu es)
    (hP : va_P G classes (lw_W ct hd us op hm qo qa fu au ns n ck n ck th hh a1 a2 a3 a4 a5 a6 a7 a8 a9 b0 b1 b2 b3 b4 b5 b6 b7 b8 b9 b10 og fo ad eu es) H) (hD : va_D A (lw_W ct hd us op hm qo qa fu au ns n ck n ck th hh a1 a2 a3 a4 a5 a6 a7 a8 a9 b0 b1 b2 b3 b4 b5 b6 b7 b8 b9 b10 og fo ad eu es)) (hS : va_S A s.heap H locs) (hl : lv_has ls 8 [(4, .int (nI iv)), (3, .ref qo), (2, .ref hm), (1, .ref hd), (0, .ref b)])
    (kk : lc_K p l e s m below meth c b L xs G ct A hd us op hm qo qa fu au ns iv (cells + 1) (slots + 13) Q) : W p l e room_1 s m #[Value.ref b] below meth c H locs cells slots Q (F0 m 481 ls []) := by
  by_cases hu : us_in (xs (iv + 1))
  · obtain ⟨k, hk8, hv1⟩ := us_of hu
    obtain ⟨hfu, uo, ul, uv, heu, hw3, hw0, hw1⟩ := Z.2.1 k hk8
    by_cases hwi : wy_in (xs (iv + 2))
    · by_cases hn : nI n < 40
      · have hn40 := n_40' hn Z.1
        by_cases hbl : us_bl (a5 k) (a8 k) ck
        · exact lq_server3 C0 hiv hcc hzz hP hD hS hl kk hv1 hk8 heu hk8 hfu hwi hn hbl hk8 hwi hn40 (ti_bl.mpr hbl) Z
        · rcases id hwi with hw | hw <;> by_cases how : a1 k = xs (iv + 2)
          · exact lq_server1W1 C0 hiv hcc hzz hP hD hS hl kk hv1 hk8 heu hk8 hfu hwi hn40 hbl hk8 hn40 hw how (fun q => hbl (ti_bl.mp q)) (fun q9 => lr_N Z hn40 (fun j h => ⟨up_ne h, up_ne h, up_ne h, up_ne h, up_ne h, ul_ne h, rfl, ul_ne h, rfl, ul_ne h, va_up_ne _ _ h, va_up_ne _ _ h, va_up_ne _ _ h⟩) (up_se _ _ _) (up_se _ _ _) (up_se _ _ _) (up_se _ _ _) (up_se _ _ _) (ul_se _ _ _) rfl (ul_se _ _ _) (Z.2.2.2 n (Nat.le_refl n)).1 (ul_se _ _ _) (va_up_self _ _ _) (va_up_self _ _ _) (va_up_self _ _ _) (sn_NV hk8 hwi (by rw [hw, ti_r0.1]; exact wd_0 (how.trans hw)) (hw0 (how.trans hw)).1 (fun _ => (hw0 (how.trans hw)).2) (qs_P (hw0 (how.trans hw)).2.2)))
          · exact lq_server1W0 C0 hiv hcc hzz hP hD hS hl kk hv1 hk8 heu hk8 hfu hwi hn40 hbl hk8 hn40 hw how (fun q => hbl (ti_bl.mp q)) (fun q9 => lr_N Z hn40 (fun j h => ⟨up_ne h, up_ne h, up_ne h, up_ne h, up_ne h, ul_ne h, rfl, ul_ne h, rfl, ul_ne h, va_up_ne _ _ h, va_up_ne _ _ h, va_up_ne _ _ h⟩) (up_se _ _ _) (up_se _ _ _) (up_se _ _ _) (up_se _ _ _) (up_se _ _ _) (ul_se _ _ _) rfl (ul_se _ _ _) (Z.2.2.2 n (Nat.le_refl n)).1 (ul_se _ _ _) (va_up_self _ _ _) (va_up_self _ _ _) (va_up_self _ _ _) (sn_NV hk8 hwi (by rw [hw, ti_r0.1]; exact wd_1 (fun z => how (z.trans hw.symm))) rfl (fun _ => ⟨sc_pos _, sc_lt _⟩) (qs_P (sc_lt _))))
          · exact lq_server1S1 C0 hiv hcc hzz hP hD hS hl kk hv1 hk8 heu hk8 hfu hwi hn40 hbl hk8 hn40 hw how (fun q => hbl (ti_bl.mp q)) (fun q9 => lr_N Z hn40 (fun j h => ⟨up_ne h, up_ne h, up_ne h, up_ne h, up_ne h, ul_ne h, rfl, ul_ne h, rfl, ul_ne h, va_up_ne _ _ h, va_up_ne _ _ h, va_up_ne _ _ h⟩) (up_se _ _ _) (up_se _ _ _) (up_se _ _ _) (up_se _ _ _) (up_se _ _ _) (ul_se _ _ _) rfl (ul_se _ _ _) (Z.2.2.2 n (Nat.le_refl n)).1 (ul_se _ _ _) (va_up_self _ _ _) (va_up_self _ _ _) (va_up_self _ _ _) (sn_NV hk8 hwi (by rw [hw, ti_r0.2]; exact ve_1 (how.trans hw)) (hw1 (how.trans hw)).2.1 (fun z => absurd hw z) (hw1 (how.trans hw)).2.2))
          · exact lq_server1S0 C0 hiv hcc hzz hP hD hS hl kk hv1 hk8 heu hk8 hfu hwi hn40 hbl hk8 hn40 hw how (fun q => hbl (ti_bl.mp q)) (fun q9 => lr_N Z hn40 (fun j h => ⟨up_ne h, up_ne h, up_ne h, up_ne h, up_ne h, ul_ne h, rfl, ul_ne h, rfl, ul_ne h, va_up_ne _ _ h, va_up_ne _ _ h, va_up_ne _ _ h⟩) (up_se _ _ _) (up_se _ _ _) (up_se _ _ _) (up_se _ _ _) (up_se _ _ _) (ul_se _ _ _) rfl (ul_se _ _ _) (Z.2.2.2 n (Nat.le_refl n)).1 (ul_se _ _ _) (va_up_self _ _ _) (va_up_self _ _ _) (va_up_self _ _ _) (sn_NV hk8 hwi (by rw [hw, ti_r0.2]; exact ve_0 (fun z => how (z.trans hw.symm))) rfl (fun z => absurd hw z) (pw_lt _ _)))
      · exact lq_server2 C0 hiv hcc hzz hP hD hS hl kk hv1 hk8 hfu hwi hn (us_k hk8) hwi (n_40 Z.1 hn) Z
    · exact lq_server0b C0 hiv hcc hzz hP hD hS hl kk hv1 hk8 hfu hwi (fun q => hwi q.2) Z
  · exact lq_server0 C0 hiv hcc hzz hP hD hS hl kk hu (fun q => hu q.1) Z
end LQ
