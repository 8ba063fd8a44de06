theorem up_ne {f : Nat → Int32} {k j : Nat} {x : Int32} (h : j ≠ k) : upd f k x j = f j := if_neg h
theorem ul_ne {f : Nat → Int64} {k j : Nat} {x : Int64} (h : j ≠ k) : vp_updL f k x j = f j := if_neg h
theorem us_of {a : Int32} (h : us_in a) : ∃ k : Nat, k < 8 ∧ a = nI k := by
  obtain ⟨j, hj, rfl⟩ := nI_of (Int32.not_lt.mpr h.1)
  exact ⟨j, (nI_ltI (a := j) (b := 8) (by omega) (by decide)).mp h.2, rfl⟩
theorem th_of2 {a : Int32} {n : Nat} (hn : n ≤ 40) (h : th_in a n) : ∃ k : Nat, k < n ∧ a = nI k := by
  obtain ⟨j, hj, rfl⟩ := nI_of (Int32.not_lt.mpr h.1)
  exact ⟨j, (nI_ltI (by omega) (by omega)).mp h.2, rfl⟩
theorem nI_in2 {j k : Nat} (hj : j < 40) (hk : k < 40) (h : nI j = nI k) : j = k := by
  have h1 := congrArg Int32.toInt h
  rw [nI_toInt (by omega), nI_toInt (by omega)] at h1
  omega
section LR
variable {fu : Nat → Option Nat} {au : Nat → Nat} {ns : Int32} {n : Nat} {a1 a5 a6 a7 a8 a9 b0 b1 b2 b3 : Nat → Int32} {a2 a3 a4 b4 b5 b6 b7 b8 b9 b10 : Nat → Int64} {fo : Nat → Option Nat} {ad : Nat → Nat} {eu es : Nat → va_E}
theorem lr_S {b2' : Nat → Int32} {b7' b8' b9' b10' : Nat → Int64} {es' : Nat → va_E} {k : Nat} {v2 : Int32} {v7 v8 v9 v10 : Int64} {e : va_E} (Z : li_R fu au ns n a1 a2 a3 a4 a5 a6 a7 a8 a9 b0 b1 b2 b3 b4 b5 b6 b7 b8 b9 b10 fo ad eu es) (hk : k < n)
    (hne : ∀ j, j ≠ k → b2' j = b2 j ∧ b7' j = b7 j ∧ b8' j = b8 j ∧ b9' j = b9 j ∧ b10' j = b10 j ∧ es' j = es j) (e2 : b2' k = v2) (e7 : b7' k = v7) (e8 : b8' k = v8) (e9 : b9' k = v9) (e10 : b10' k = v10) (ee : es' k = e)
    (hs : sr_P au (a9 k) (b0 k) (b1 k) v2 (b3 k) (b4 k) (b5 k) (b6 k) v7 v8 v9 v10 e) : li_R fu au ns n a1 a2 a3 a4 a5 a6 a7 a8 a9 b0 b1 b2' b3 b4 b5 b6 b7' b8' b9' b10' fo ad eu es' := by
  refine ⟨Z.1, Z.2.1, fun j hj => ?_, fun j hj => ?_⟩
  · by_cases q : j = k
    · subst q
      rw [e2, e7, e8, e9, e10, ee]
      exact ⟨(Z.2.2.1 j hj).1, hs⟩
    · obtain ⟨q2, q7, q8, q9, q10, qe⟩ := hne j q
      rw [q2, q7, q8, q9, q10, qe]
      exact Z.2.2.1 j hj
  · obtain ⟨q2, q7, q8, q9, q10, qe⟩ := hne j (by omega)
    rw [q7, q8, q9]
    exact Z.2.2.2 j hj
theorem lr_U {a1' a5' a6' a7' a8' : Nat → Int32} {a2' a3' a4' : Nat → Int64} {eu' : Nat → va_E} {u : Nat} {v1 v5 v6 v7 v8 : Int32} {v2 v3 v4 : Int64} {e : va_E} (Z : li_R fu au ns n a1 a2 a3 a4 a5 a6 a7 a8 a9 b0 b1 b2 b3 b4 b5 b6 b7 b8 b9 b10 fo ad eu es)
    (hne : ∀ j, j ≠ u → a1' j = a1 j ∧ a2' j = a2 j ∧ a3' j = a3 j ∧ a4' j = a4 j ∧ a5' j = a5 j ∧ a6' j = a6 j ∧ a7' j = a7 j ∧ a8' j = a8 j ∧ eu' j = eu j) (e1 : a1' u = v1) (e2 : a2' u = v2) (e3 : a3' u = v3) (e4 : a4' u = v4) (e5 : a5' u = v5) (e6 : a6' u = v6) (e7 : a7' u = v7) (e8 : a8' u = v8) (ee : eu' u = e)
    (hu : ur_P ns u v1 v2 v3 v4 v5 v6 v7 v8 e) : li_R fu au ns n a1' a2' a3' a4' a5' a6' a7' a8' a9 b0 b1 b2 b3 b4 b5 b6 b7 b8 b9 b10 fo ad eu' es := by
  refine ⟨Z.1, fun i hi => ?_, Z.2.2⟩
  by_cases q : i = u
  · subst q
    rw [e1, e2, e3, e4, e5, e6, e7, e8, ee]
    exact ⟨(Z.2.1 i hi).1, hu⟩
  · obtain ⟨q1, q2, q3, q4, q5, q6, q7, q8, qe⟩ := hne i q
    rw [q1, q2, q3, q4, q5, q6, q7, q8, qe]
    exact Z.2.1 i hi
theorem lr_N {a9' b0' b1' b2' b3' : Nat → Int32} {b4' b5' b6' b7' b10' : Nat → Int64} {fo' : Nat → Option Nat} {ad' : Nat → Nat} {es' : Nat → va_E} {w9 w0 w1 w2 w3 : Int32} {w4 w5 w6 w7 w10 : Int64} {q : Nat} {e : va_E} (Z : li_R fu au ns n a1 a2 a3 a4 a5 a6 a7 a8 a9 b0 b1 b2 b3 b4 b5 b6 b7 b8 b9 b10 fo ad eu es) (hn : n < 40)
    (hne : ∀ j, j ≠ n → a9' j = a9 j ∧ b0' j = b0 j ∧ b1' j = b1 j ∧ b2' j = b2 j ∧ b3' j = b3 j ∧ b4' j = b4 j ∧ b5' j = b5 j ∧ b6' j = b6 j ∧ b7' j = b7 j ∧ b10' j = b10 j ∧ fo' j = fo j ∧ ad' j = ad j ∧ es' j = es j)
    (h9 : a9' n = w9) (h0 : b0' n = w0) (h1 : b1' n = w1) (h2 : b2' n = w2) (h3 : b3' n = w3) (h4 : b4' n = w4) (h5 : b5' n = w5) (h6 : b6' n = w6) (h7 : b7' n = w7) (h10 : b10' n = w10) (hf : fo' n = some q) (ha : ad' n = q) (he : es' n = e)
    (hs : sr_P au w9 w0 w1 w2 w3 w4 w5 w6 w7 0 0 w10 e) : li_R fu au ns (n + 1) a1 a2 a3 a4 a5 a6 a7 a8 a9' b0' b1' b2' b3' b4' b5' b6' b7' b8 b9 b10' fo' ad' eu es' := by
  obtain ⟨-, z8, z9⟩ := Z.2.2.2 n (Nat.le_refl n)
  refine ⟨hn, Z.2.1, fun j hj => ?_, fun j hj => ?_⟩
  · by_cases qq : j = n
    · subst qq
      rw [h9, h0, h1, h2, h3, h4, h5, h6, h7, h10, hf, ha, he, z8, z9]
      exact ⟨rfl, hs⟩
    · obtain ⟨r9, r0, r1, r2, r3, r4, r5, r6, r7, r10, rf, ra, re⟩ := hne j qq
      rw [r9, r0, r1, r2, r3, r4, r5, r6, r7, r10, rf, ra, re]
      exact Z.2.2.1 j (by omega)
  · obtain ⟨r9, r0, r1, r2, r3, r4, r5, r6, r7, r10, rf, ra, re⟩ := hne j (by omega)
    rw [r7]
    exact Z.2.2.2 j (by omega)
end LR
section SN
variable {au : Nat → Nat} {sv wy us bg : Int32} {v4 v5 v6 v7 v8 : Int64} {u sec x y rc f : Nat} {K K' ms c1 c2 : Int64}
theorem sn_FC (hu8 : u < 8) (hb1 : us = nI u) (hwy : wy = 0 ∨ wy = 1) (hb4 : v4 = lN sec) (hs1 : sec < pq_Q) (hb6 : v6 = lN rc) (hb7 : v7 = lN x) (hsv : sv = 0) (hr0 : 1 ≤ rc) (hr1 : rc < pq_Q) (hk : K' = K) :
    sr_P au sv wy us 1 bg v4 v5 v6 v7 (lN f) K (cf_c K x f) (.inr (2, [.ref (au u), .int wy, .long (lN sec), .int bg, .int 1, .long (lN x), .long (lN f), .long K', .long (cf_c K' x f), .long (cf_s K' (cf_c K' x f)), .long (cf_c K' x f), .long v5, .long (lN rc)])) := by
  rw [hk]
  exact ⟨u, sec, x, f, rc, cf_c K x f, cf_s K (cf_c K x f), hu8, hb1, hwy, Or.inr (Or.inl rfl), hb4, hs1, hb6, hb7, rfl, fun _ => ⟨rfl, rfl⟩, Or.inl ⟨hsv, hr0, hr1, rfl⟩⟩
theorem sn_FV {Y Y' : Nat} (hu8 : u < 8) (hb1 : us = nI u) (hwy : wy = 0 ∨ wy = 1) (hb4 : v4 = lN sec) (hs1 : sec < pq_Q) (hb6 : v6 = lN rc) (hsv : sv = 1) (hq1 : ¬ wy = 1 → 1 ≤ rc ∧ rc < pq_Q) (hp1 : rc < pq_P) (hy : Y' = Y) (hk : K' = K) :
    sr_P au sv wy us 1 bg v4 v5 v6 (lN f) (lN Y) K (lN Y) (.inr (3, [.ref (au u), .int wy, .long (lN sec), .int bg, .int 1, .long (lN f), .long (lN Y'), .long K', .long (cf_c K' f Y'), .long (cf_s K' (cf_c K' f Y')), .long (lN Y'), .long (lN rc)])) := by
  rw [hk, hy]
  exact ⟨u, sec, f, Y, rc, cf_c K f Y, cf_s K (cf_c K f Y), hu8, hb1, hwy, Or.inr (Or.inl rfl), hb4, hs1, hb6, rfl, rfl, fun _ => ⟨rfl, rfl⟩, Or.inr ⟨hsv, hq1, hp1, rfl⟩⟩
theorem sn_C {t : Int32} (ht : t = 2 ∨ t = 3) (hu8 : u < 8) (hb1 : us = nI u) (hwy : wy = 0 ∨ wy = 1) (hb4 : v4 = lN sec) (hs1 : sec < pq_Q) (hb6 : v6 = lN rc) (hb7 : v7 = lN x) (hb8 : v8 = lN y) (hsv : sv = 0) (hr0 : 1 ≤ rc) (hr1 : rc < pq_Q) :
    sr_P au sv wy us t bg v4 v5 v6 v7 v8 K ms (.inr (2, [.ref (au u), .int wy, .long (lN sec), .int bg, .int t, .long (lN x), .long (lN y), .long K, .long c1, .long c2, .long ms, .long v5, .long (lN rc)])) :=
  ⟨u, sec, x, y, rc, c1, c2, hu8, hb1, hwy, ht.elim (fun q => Or.inr (Or.inr (Or.inl q))) (fun q => Or.inr (Or.inr (Or.inr q))), hb4, hs1, hb6, hb7, hb8, fun q => by rcases ht with rfl | rfl <;> exact absurd q (by decide), Or.inl ⟨hsv, hr0, hr1, rfl⟩⟩
theorem sn_V {t : Int32} {ms' : Int64} (ht : t = 2 ∨ t = 3) (hm : ms' = ms) (hu8 : u < 8) (hb1 : us = nI u) (hwy : wy = 0 ∨ wy = 1) (hb4 : v4 = lN sec) (hs1 : sec < pq_Q) (hb6 : v6 = lN rc) (hb7 : v7 = lN x) (hb8 : v8 = lN y) (hsv : sv = 1) (hq1 : ¬ wy = 1 → 1 ≤ rc ∧ rc < pq_Q) (hp1 : rc < pq_P) :
    sr_P au sv wy us t bg v4 v5 v6 v7 v8 K ms (.inr (3, [.ref (au u), .int wy, .long (lN sec), .int bg, .int t, .long (lN x), .long (lN y), .long K, .long c1, .long c2, .long ms', .long (lN rc)])) := by
  rw [hm]
  exact ⟨u, sec, x, y, rc, c1, c2, hu8, hb1, hwy, ht.elim (fun q => Or.inr (Or.inr (Or.inl q))) (fun q => Or.inr (Or.inr (Or.inr q))), hb4, hs1, hb6, hb7, hb8, fun q => by rcases ht with rfl | rfl <;> exact absurd q (by decide), Or.inr ⟨hsv, hq1, hp1, rfl⟩⟩
theorem sn_NC {se pw : Int64} {X X' : Nat} (hu8 : u < 8) (hwy : wy = 0 ∨ wy = 1) (hX : X' = X) :
    sr_P au 0 wy (nI u) 0 bg (lN (sc_n se)) pw (lN (wd_n (nI u) pw)) (lN X) 0 0 (lN X) (.inr (2, [.ref (au u), .int wy, .long (lN (sc_n se)), .int bg, .int 0, .long (lN X'), .long (lN 0), .long 0, .long 0, .long 0, .long (lN X'), .long pw, .long (lN (wd_n (nI u) pw))])) := by
  rw [hX]
  exact ⟨u, sc_n se, X, 0, wd_n (nI u) pw, 0, 0, hu8, rfl, hwy, Or.inl rfl, rfl, sc_lt _, rfl, rfl, rfl, fun q => absurd q (by decide), Or.inl ⟨rfl, sc_pos _, sc_lt _, rfl⟩⟩
theorem sn_NV {se : Int64} {r r' : Nat} {w : Int64} (hu8 : u < 8) (hwy : wy = 0 ∨ wy = 1) (hr : r' = r) (hw : w = lN r) (hq : ¬ wy = 1 → 1 ≤ r ∧ r < pq_Q) (hp : r < pq_P) :
    sr_P au 1 wy (nI u) 0 bg (lN (sc_n se)) v5 w 0 0 0 0 (.inr (3, [.ref (au u), .int wy, .long (lN (sc_n se)), .int bg, .int 0, .long (lN 0), .long (lN 0), .long 0, .long 0, .long 0, .long 0, .long (lN r')])) := by
  rw [hr]
  exact ⟨u, sc_n se, 0, 0, r, 0, 0, hu8, rfl, hwy, Or.inl rfl, rfl, sc_lt _, hw, rfl, rfl, fun q => absurd q (by decide), Or.inr ⟨rfl, hq, hp, rfl⟩⟩
end SN
section UN
variable {ns : Int32} {k uo uv : Nat} {w : Int32} {v2 v3 v4 ul : Int64} {f l1 l2 l3 : Int32}
theorem un_kp {wy : Int32} {pw sl : Int64} (hwy : wy_in wy) : ur_P ns k wy (lN (wd_n (nI k) pw)) sl (lN (pw_m 4 (ex_n sl (nI k) pw))) f l1 l2 l3
    (.inr (1, [.int (nI k), .int ns, .int ((us_kp (nI k) (w, uo, ul, uv, f, l1, l2, l3) wy pw sl).1), .long (lN (us_kp (nI k) (w, uo, ul, uv, f, l1, l2, l3) wy pw sl).2.1), .long ((us_kp (nI k) (w, uo, ul, uv, f, l1, l2, l3) wy pw sl).2.2.1), .long (lN (us_kp (nI k) (w, uo, ul, uv, f, l1, l2, l3) wy pw sl).2.2.2.1), .int ((us_kp (nI k) (w, uo, ul, uv, f, l1, l2, l3) wy pw sl).2.2.2.2.1), .int ((us_kp (nI k) (w, uo, ul, uv, f, l1, l2, l3) wy pw sl).2.2.2.2.2.1), .int ((us_kp (nI k) (w, uo, ul, uv, f, l1, l2, l3) wy pw sl).2.2.2.2.2.2.1), .int ((us_kp (nI k) (w, uo, ul, uv, f, l1, l2, l3) wy pw sl).2.2.2.2.2.2.2)])) := by
  unfold us_kp
  rcases hwy with rfl | rfl
  · rw [if_pos rfl]
    exact ⟨wd_n (nI k) pw, ul, uv, rfl, Or.inr (Or.inl rfl), fun _ => ⟨rfl, sc_pos _, sc_lt _⟩, fun q => absurd q (by decide)⟩
  · rw [if_neg (by decide)]
    exact ⟨uo, sl, pw_m 4 (ex_n sl (nI k) pw), rfl, Or.inr (Or.inr rfl), fun q => absurd q (by decide), fun _ => ⟨rfl, rfl, pw_lt _ _⟩⟩
theorem un_fg : ur_P ns k (-1) v2 v3 v4 f l1 l2 l3 (.inr (1, [.int (nI k), .int ns, .int (-1), .long (lN uo), .long ul, .long (lN uv), .int f, .int l1, .int l2, .int l3])) :=
  ⟨uo, ul, uv, rfl, Or.inl rfl, fun q => absurd q (by decide), fun q => absurd q (by decide)⟩
theorem un_at {f' l1' l2' l3' : Int32} (hw3 : w = -1 ∨ w = 0 ∨ w = 1) (hw0 : w = 0 → v2 = lN uo ∧ 1 ≤ uo ∧ uo < pq_Q) (hw1 : w = 1 → v3 = ul ∧ v4 = lN uv ∧ uv < pq_P) : ur_P ns k w v2 v3 v4 f' l1' l2' l3' (.inr (1, [.int (nI k), .int ns, .int w, .long (lN uo), .long ul, .long (lN uv), .int f', .int l1', .int l2', .int l3'])) :=
  ⟨uo, ul, uv, rfl, hw3, hw0, hw1⟩
theorem ge_w (hw3 : w = -1 ∨ w = 0 ∨ w = 1) : ¬ w = -1 ↔ 0 ≤ w := by
  rcases hw3 with rfl | rfl | rfl <;> decide
theorem wd_0 (h : w = 0) : us_wd ns (nI k) w uo = uo := by unfold us_wd; rw [if_pos h]
theorem wd_1 (h : ¬ w = 0) : us_wd ns (nI k) w uo = sc_n (dg_3 (Int32.toInt64 3) ns.toInt64 (Int32.toInt64 (nI k))) := by unfold us_wd; rw [if_neg h]; rfl
theorem ve_1 (h : w = 1) : us_ve ns (nI k) w uv = uv := by unfold us_ve; rw [if_pos h]
theorem ve_0 (h : ¬ w = 1) : us_ve ns (nI k) w uv = pw_m 4 (sc_n (dg_3 (Int32.toInt64 5) ns.toInt64 (Int32.toInt64 (nI k)))) := by unfold us_ve; rw [if_neg h]; rfl
theorem sa_e (hw1 : w = 1 → v3 = ul ∧ v4 = lN uv ∧ uv < pq_P) : us_sa ns (nI k) w ul = sm_sa ns.toInt64 (nI k) w v3 := by
  unfold us_sa sm_sa
  by_cases h : w = 1
  · rw [if_pos h, if_pos h, (hw1 h).1]
  · rw [if_neg h, if_neg h]
end UN
theorem aw_1 {ky v7 v8 c1 : Int64} {x y : Nat} (h7 : v7 = lN x) (h8 : v8 = lN y) (hc : c1 = cf_c ky x y) : c1 = dg_4 9 ky v7 v8 := by rw [hc, h7, h8]; rfl
theorem aw_2 {ky v7 v8 c1 c2 : Int64} {x y : Nat} (h7 : v7 = lN x) (h8 : v8 = lN y) (hc : c1 = cf_c ky x y ∧ c2 = cf_s ky c1) : c2 = dg_3 10 ky (dg_4 9 ky v7 v8) := by rw [hc.2, ← aw_1 h7 h8 hc.1]; rfl
theorem st_e {t g ck : Int32} (h : se_at t g ck = 1) (h4 : t = 0 ∨ t = 1 ∨ t = 2 ∨ t = 3) : t = 1 := by
  unfold se_at at h
  rcases h4 with rfl | rfl | rfl | rfl
  · split at h <;> exact absurd h (by decide)
  · rfl
  · split at h <;> exact absurd h (by decide)
  · split at h <;> exact absurd h (by decide)
theorem st_z {t g ck : Int32} (h0 : ¬ se_at t g ck = 0) (h1 : ¬ se_at t g ck = 1) (h4 : t = 0 ∨ t = 1 ∨ t = 2 ∨ t = 3) : 1 < se_at t g ck := by
  unfold se_at at h0 h1 ⊢
  split
  · decide
  · rename_i q
    rw [if_neg q] at h0 h1
    rcases h4 with rfl | rfl | rfl | rfl
    · exact absurd rfl h0
    · exact absurd rfl h1
    · decide
    · decide
theorem bt_f {e : Int64} (h : bt_w e) : ∃ f : Nat, f < pq_P ∧ e = lN f := ⟨e.toBitVec.toNat, (bt_of h).2.2, (bt_of h).1⟩
theorem n_40 {n : Nat} (h : n ≤ 40) (q : ¬ nI n < 40) : nI n = 40 := by
  have : ¬ n < 40 := fun z => q ((nI_ltI (a := n) (b := 40) (by omega) (by decide)).mpr z)
  have e : n = 40 := by omega
  rw [e]; rfl
theorem n_40' {n : Nat} (q : nI n < 40) (h : n ≤ 40) : n < 40 := (nI_ltI (a := n) (b := 40) (by omega) (by decide)).mp q
