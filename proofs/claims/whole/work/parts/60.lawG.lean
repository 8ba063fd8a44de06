section LQ
variable {p : Program} {l : Launch} {e : Env} {s : State} {m : MethodId} {below : List Frame} {meth : Method} {c : Code} {b : Nat} {L : Nat} {xs : Nat → Int32} {G : va_G} {ct : Nat → ClassId} {A : Nat → Prop} {hd : Nat} {us : Nat} {op : Nat} {hm : Nat} {qo : Nat} {qa : Nat → Nat} {fu : Nat → Option Nat} {au : Nat → Nat} {ns : Int32} {iv cells slots : Nat} {Q : State → Prop} {H : Heap} {locs : List Loc} {ls : Array Slot} {n : Nat} {ck : Int32} {th : Int32} {hh : Int64} {a1 : Nat → Int32} {a2 : Nat → Int64} {a3 : Nat → Int64} {a4 : Nat → Int64} {a5 : Nat → Int32} {a6 : Nat → Int32} {a7 : Nat → Int32} {a8 : Nat → Int32} {a9 : Nat → Int32} {b0 : Nat → Int32} {b1 : Nat → Int32} {b2 : Nat → Int32} {b3 : Nat → Int32} {b4 : Nat → Int64} {b5 : Nat → Int64} {b6 : Nat → Int64} {b7 : Nat → Int64} {b8 : Nat → Int64} {b9 : Nat → Int64} {b10 : Nat → Int64} {og : Nat → Int64} {fo : Nat → Option Nat} {ad : Nat → Nat} {eu : Nat → va_E} {es : Nat → va_E}
set_option maxHeartbeats 4000000 in
set_option maxRecDepth 100000 in
theorem lx_receive (C0 : lc_C p l s m meth c b L xs G ct A) (hiv : iv + 7 ≤ L) (hcc : cells + 1 ≤ room_1.cells) (hzz : slots + 13 ≤ room_1.slots) (Z : li_R fu au ns n a1 a2 a3 a4 a5 a6 a7 a8 a9 b0 b1 b2 b3 b4 b5 b6 b7 b8 b9 b10 fo ad eu es)
    (hP : va_P G classes (lw_W ct hd us op hm qo qa fu au ns n ck n ck th hh a1 a2 a3 a4 a5 a6 a7 a8 a9 b0 b1 b2 b3 b4 b5 b6 b7 b8 b9 b10 og fo ad eu es) H) (hD : va_D A (lw_W ct hd us op hm qo qa fu au ns n ck n ck th hh a1 a2 a3 a4 a5 a6 a7 a8 a9 b0 b1 b2 b3 b4 b5 b6 b7 b8 b9 b10 og fo ad eu es)) (hS : va_S A s.heap H locs) (hl : lv_has ls 8 [(4, .int (nI iv)), (3, .ref qo), (2, .ref hm), (1, .ref hd), (0, .ref b)])
    (kk : lc_K p l e s m below meth c b L xs G ct A hd us op hm qo qa fu au ns iv (cells + 1) (slots + 13) Q) : W p l e room_1 s m #[Value.ref b] below meth c H locs cells slots Q (F0 m 593 ls []) := by
  by_cases ht : th_in (xs (iv + 1)) n
  · obtain ⟨k, hkn, hv1⟩ := th_of2 Z.1 ht
    obtain ⟨hfo, u, sec, x, y, rc, c1, c2, hu8, hb1, hwy, hst4, hb4, hs1, hb6, hb7, hb8, hc, hcase⟩ := Z.2.2.1 k hkn
    obtain ⟨hfu, uo, ul, uv, heu, hw3, hw0, hw1⟩ := Z.2.1 u hu8
    rcases hcase with ⟨hsv, hr0, hr1, hes⟩ | ⟨hsv, hq1, hp1, hes⟩
    · by_cases h0 : se_at (b2 k) (b3 k) ck = 0
      · by_cases hrt9 : rt_c (b0 k) rc (lj (xs (iv + 2)) (xs (iv + 3)))
        · obtain ⟨f, hf, hv9⟩ := bt_f hrt9.1
          have hrt := hrt9
          rw [hv9] at hrt
          rcases id hwy with hw | hw
          · exact lq_receiveFC_MWC C0 hiv hcc hzz hP hD hS hl kk hv1 hv9 hkn hes hu8 heu Z.1 hkn hfo h0 hs1 hr0 hr1 hf hrt Z.1 hkn ((ti_at hst4).trans h0) hsv hb6 hb4 hs1 hb1 hb7 hf hr0 hr1 hw hrt (lr_S Z hkn (fun j h => ⟨up_ne h, rfl, ul_ne h, ul_ne h, ul_ne h, va_up_ne _ _ h⟩) (up_se _ _ _) rfl (ul_se _ _ _) (ul_se _ _ _) (ul_se _ _ _) (va_up_self _ _ _) (sn_FC hu8 hb1 hwy hb4 hs1 hb6 hb7 hsv hr0 hr1 (by rw [hw]; exact ti_kc.1)))
          · exact lq_receiveFC_MSC C0 hiv hcc hzz hP hD hS hl kk hv1 hv9 hkn hes hu8 heu Z.1 hkn hfo h0 hs1 hr0 hr1 hf hrt Z.1 hkn ((ti_at hst4).trans h0) hsv hb6 hb4 hs1 hb1 hb7 hf hw hu8 hrt (lr_S Z hkn (fun j h => ⟨up_ne h, rfl, ul_ne h, ul_ne h, ul_ne h, va_up_ne _ _ h⟩) (up_se _ _ _) rfl (ul_se _ _ _) (ul_se _ _ _) (ul_se _ _ _) (va_up_self _ _ _) (sn_FC hu8 hb1 hwy hb4 hs1 hb6 hb7 hsv hr0 hr1 (by rw [hw, ti_kc.2, sa_e hw1])))
        · exact lq_receive_XC_XC C0 hiv hcc hzz hP hD hS hl kk hv1 hkn hes hu8 heu Z.1 hkn hfo h0 hs1 hr0 hr1 hrt9 Z.1 hkn ((ti_at hst4).trans h0) hsv hb6 (fun _ => ⟨hr0, hr1⟩) hrt9 (lr_S Z hkn (fun j h => ⟨up_ne h, rfl, rfl, rfl, rfl, va_up_ne _ _ h⟩) (up_se _ _ _) rfl rfl rfl rfl (va_up_self _ _ _) (sn_C (Or.inr rfl) hu8 hb1 hwy hb4 hs1 hb6 hb7 hb8 hsv hr0 hr1))
      · by_cases h1 : se_at (b2 k) (b3 k) ck = 1
        · have hcc9 := hc (st_e h1 hst4)
          by_cases haw : lj (xs (iv + 2)) (xs (iv + 3)) = c2
          · exact lq_receiveGC_FC1 C0 hiv hcc hzz hP hD hS hl kk hv1 hkn hes hu8 heu Z.1 hkn hfo h1 haw Z.1 hkn ((ti_at hst4).trans h1) hsv hb1 hu8 (haw.trans (aw_2 hb7 hb8 hcc9)) (lr_S Z hkn (fun j h => ⟨up_ne h, rfl, rfl, rfl, rfl, va_up_ne _ _ h⟩) (up_se _ _ _) rfl rfl rfl rfl (va_up_self _ _ _) (sn_C (Or.inl rfl) hu8 hb1 hwy hb4 hs1 hb6 hb7 hb8 hsv hr0 hr1))
          · exact lq_receive_YC_FC0 C0 hiv hcc hzz hP hD hS hl kk hv1 hkn hes hu8 heu Z.1 hkn hfo h1 haw Z.1 hkn ((ti_at hst4).trans h1) hsv hb1 hu8 (fun q => haw (q.trans (aw_2 hb7 hb8 hcc9).symm)) (lr_S Z hkn (fun j h => ⟨up_ne h, rfl, rfl, rfl, rfl, va_up_ne _ _ h⟩) (up_se _ _ _) rfl rfl rfl rfl (va_up_self _ _ _) (sn_C (Or.inr rfl) hu8 hb1 hwy hb4 hs1 hb6 hb7 hb8 hsv hr0 hr1))
        · exact lq_receive_ZC_R2 C0 hiv hcc hzz hP hD hS hl kk hv1 hkn hes Z.1 hkn hfo h0 h1 Z.1 hkn (by rw [ti_at hst4]; exact st_z h0 h1 hst4) Z
    · by_cases h0 : se_at (b2 k) (b3 k) ck = 0
      · by_cases hrt9 : rt_v (b0 k) rc (lj (xs (iv + 2)) (xs (iv + 3)))
        · obtain ⟨f, hf, hv9⟩ := bt_f hrt9.1
          have hrt := hrt9
          rw [hv9] at hrt
          rcases id hwy with hw | hw
          · exact lq_receiveFV_MWV C0 hiv hcc hzz hP hD hS hl kk hv1 hv9 hkn hes hu8 heu Z.1 hkn hfo h0 hs1 hq1 hp1 hf hrt Z.1 hkn ((ti_at hst4).trans h0) hsv hb6 hb4 hs1 hb1 hf ((hq1 (by rw [hw]; decide)).1) ((hq1 (by rw [hw]; decide)).2) hw hrt (lr_S Z hkn (fun j h => ⟨up_ne h, ul_ne h, ul_ne h, ul_ne h, ul_ne h, va_up_ne _ _ h⟩) (up_se _ _ _) (ul_se _ _ _) (ul_se _ _ _) (ul_se _ _ _) (ul_se _ _ _) (va_up_self _ _ _) (sn_FV hu8 hb1 hwy hb4 hs1 hb6 hsv hq1 hp1 (by rw [hw]; exact ti_ny.1) (by rw [hw, ti_ny.1]; exact ti_kv.1)))
          · exact lq_receiveFV_MSV C0 hiv hcc hzz hP hD hS hl kk hv1 hv9 hkn hes hu8 heu Z.1 hkn hfo h0 hs1 hq1 hp1 hf hrt Z.1 hkn ((ti_at hst4).trans h0) hsv hb6 hb4 hs1 hb1 hf hw hp1 hrt (lr_S Z hkn (fun j h => ⟨up_ne h, ul_ne h, ul_ne h, ul_ne h, ul_ne h, va_up_ne _ _ h⟩) (up_se _ _ _) (ul_se _ _ _) (ul_se _ _ _) (ul_se _ _ _) (ul_se _ _ _) (va_up_self _ _ _) (sn_FV hu8 hb1 hwy hb4 hs1 hb6 hsv hq1 hp1 (by rw [hw]; exact ti_ny.2) (by rw [hw, ti_ny.2]; exact ti_kv.2)))
        · exact lq_receive_XV_XV C0 hiv hcc hzz hP hD hS hl kk hv1 hkn hes hu8 heu Z.1 hkn hfo h0 hs1 hq1 hp1 hrt9 Z.1 hkn ((ti_at hst4).trans h0) hsv hb6 hq1 hrt9 (lr_S Z hkn (fun j h => ⟨up_ne h, rfl, rfl, rfl, rfl, va_up_ne _ _ h⟩) (up_se _ _ _) rfl rfl rfl rfl (va_up_self _ _ _) (sn_V (Or.inr rfl) rfl hu8 hb1 hwy hb4 hs1 hb6 hb7 hb8 hsv hq1 hp1))
      · by_cases h1 : se_at (b2 k) (b3 k) ck = 1
        · have hcc9 := hc (st_e h1 hst4)
          by_cases haw : lj (xs (iv + 2)) (xs (iv + 3)) = c1
          · exact lq_receiveGV_FV1 C0 hiv hcc hzz hP hD hS hl kk hv1 hkn hes hu8 heu Z.1 hkn hfo h1 haw Z.1 hkn ((ti_at hst4).trans h1) hsv hb1 hu8 (haw.trans (aw_1 hb7 hb8 hcc9.1)) (lr_U (lr_S Z hkn (fun j h => ⟨up_ne h, rfl, rfl, rfl, ul_ne h, va_up_ne _ _ h⟩) (up_se _ _ _) rfl rfl rfl (ul_se _ _ _) (va_up_self _ _ _) (sn_V (Or.inl rfl) (aw_2 hb7 hb8 hcc9) hu8 hb1 hwy hb4 hs1 hb6 hb7 hb8 hsv hq1 hp1)) (fun j h => ⟨rfl, rfl, rfl, rfl, up_ne h, rfl, rfl, rfl, va_up_ne _ _ h⟩) rfl rfl rfl rfl (up_se _ _ _) rfl rfl rfl (va_up_self _ _ _) (un_at hw3 hw0 hw1))
          · exact lq_receive_YV_FV0 C0 hiv hcc hzz hP hD hS hl kk hv1 hkn hes hu8 heu Z.1 hkn hfo h1 haw Z.1 hkn ((ti_at hst4).trans h1) hsv hb1 hu8 (fun q => haw (q.trans (aw_1 hb7 hb8 hcc9.1).symm)) (lr_U (lr_S Z hkn (fun j h => ⟨up_ne h, rfl, rfl, rfl, rfl, va_up_ne _ _ h⟩) (up_se _ _ _) rfl rfl rfl rfl (va_up_self _ _ _) (sn_V (Or.inr rfl) rfl hu8 hb1 hwy hb4 hs1 hb6 hb7 hb8 hsv hq1 hp1)) (fun j h => ⟨rfl, rfl, rfl, rfl, up_ne h, up_ne h, up_ne h, up_ne h, va_up_ne _ _ h⟩) rfl rfl rfl rfl (up_se _ _ _) (up_se _ _ _) (up_se _ _ _) (up_se _ _ _) (va_up_self _ _ _) (un_at hw3 hw0 hw1))
        · exact lq_receive_ZV_R2 C0 hiv hcc hzz hP hD hS hl kk hv1 hkn hes Z.1 hkn hfo h0 h1 Z.1 hkn (by rw [ti_at hst4]; exact st_z h0 h1 hst4) Z
  · exact lq_receive_N_R1 C0 hiv hcc hzz hP hD hS hl kk ht ht Z
end LQ
