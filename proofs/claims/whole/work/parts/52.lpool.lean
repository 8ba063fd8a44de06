theorem wc_c {i : Nat} {is : List Nat} {ws wc : va_W} {q : Nat × va_E} (h : ws[i]? = some q) (t : is.map (fun i => ws[i]?) = wc.map some) : (i :: is).map (fun i => ws[i]?) = (q :: wc).map some := by
  rw [List.map_cons, List.map_cons, h, t]
theorem ws_set {ws : va_W} {i : Nat} {q : Nat × va_E} (h : ws[i]? = some q) : ws.set i q = ws := by
  apply List.ext_getElem?
  intro j
  by_cases hj : i = j
  · subst hj
    rw [List.getElem?_set_self (List.getElem?_eq_some_iff.mp h).1, h]
  · rw [List.getElem?_set_ne hj]
theorem ws_k {ws wz qs : va_W} {i : Nat} {is : List Nat} {q : Nat × va_E} (h : ws[i]? = some q) (t : wk_sets ws is qs = wz) : wk_sets ws (i :: is) (q :: qs) = wz := by
  show wk_sets (ws.set i q) is qs = wz
  rw [ws_set h]; exact t
theorem ws_c {ws ws' wz qs : va_W} {i : Nat} {is : List Nat} {q : Nat × va_E} (h : ws.set i q = ws') (t : wk_sets ws' is qs = wz) : wk_sets ws (i :: is) (q :: qs) = wz := by
  show wk_sets (ws.set i q) is qs = wz
  rw [h]; exact t
theorem nd_c {a : Nat} {l : List Nat} (h : a ∉ l) (t : va_nd l = true) : va_nd (a :: l) = true := by
  unfold va_nd
  rw [t, Bool.and_true]
  exact decide_eq_true h
theorem lp_P {G : va_G} {cl : List vw_C} {ws ws' : va_W} {H : Heap} (h : ws = ws') (q : va_P G cl ws H) : va_P G cl ws' H := h ▸ q
theorem lp_D {A : Nat → Prop} {ws ws' : va_W} (h : ws = ws') (q : va_D A ws) : va_D A ws' := h ▸ q
theorem lp_fm {f : Nat → Option (Nat × va_E)} {is : List Nat} {wc : va_W} (h : is.map f = wc.map some) : is.filterMap f = wc := by
  have q := congrArg (List.filterMap id) h
  rw [List.filterMap_map, List.filterMap_map] at q
  exact q.trans (List.filterMap_some)
theorem lp_sub {G : va_G} {cl : List vw_C} {ws wc : va_W} {H : Heap} (h : va_P G cl ws H) (is : List Nat) (hs : is.map (fun i => ws[i]?) = wc.map some) : va_P G cl wc H := h.sub is (lp_fm hs)
section LP
variable {X T : va_W} {n k i : Nat} {a au : Nat → Nat} {e eu : Nat → va_E} {v : va_E}
theorem lw_u (hX : X.length = 25) (h : i < k) (he : eu i = v) : (X ++ (ix_w k au eu ++ T))[25 + i]? = some (au i, v) := by
  rw [List.getElem?_append_right (by omega), hX, Nat.add_sub_cancel_left, List.getElem?_append_left (by rw [ix_len]; exact h), ix_get h, he]
theorem lw_s (hX : X.length = 25) (h : i < n) (he : e i = v) : (X ++ (ix_w k au eu ++ ix_w n a e))[25 + (k + i)]? = some (a i, v) := by
  rw [List.getElem?_append_right (by omega), hX, Nat.add_sub_cancel_left, List.getElem?_append_right (by rw [ix_len]; omega), ix_len, Nat.add_sub_cancel_left, ix_get h, he]
theorem lw_su (hX : X.length = 25) (h : i < k) : (X ++ (ix_w k au eu ++ T)).set (25 + i) (au i, v) = X ++ (ix_w k au (va_up eu i v) ++ T) := by
  rw [List.set_append, if_neg (by omega), hX, Nat.add_sub_cancel_left, List.set_append, if_pos (by rw [ix_len]; exact h), ix_set]
theorem lw_ss (hX : X.length = 25) : (X ++ (ix_w k au eu ++ ix_w n a e)).set (25 + (k + i)) (a i, v) = X ++ (ix_w k au eu ++ ix_w n a (va_up e i v)) := by
  rw [List.set_append, if_neg (by omega), hX, Nat.add_sub_cancel_left, List.set_append, if_neg (by rw [ix_len]; omega), ix_len, Nat.add_sub_cancel_left, ix_set]
theorem lw_push {q : Nat} : (X ++ (T ++ ix_w n a e)) ++ [(q, v)] = X ++ (T ++ ix_w (n + 1) (va_up a n q) (va_up e n v)) := by
  rw [List.append_assoc, List.append_assoc, ix_push]
end LP
def lj (x y : Int32) : Int64 := (x.toInt64 <<< ((32 : Int32).toInt64 &&& 63)) ||| (y.toInt64 &&& 4294967295)
theorem wk_ret {S : Type} {val : S → Int32} {ok : S → Prop} {w' : S → va_W} {G : va_G} {A : Nat → Prop} : ∀ a st o t, wk_Q (wk_oi val ok) w' G A a st o t → ∃ v, o = .returned v := fun _ _ _ _ q => by
  obtain ⟨⟨u, ⟨h, -⟩, -⟩, -⟩ := q
  exact ⟨_, h⟩
section SL
variable {p : Program} {l : Launch} {e : Env} {R : Room} {s : State} {m : MethodId} {args : Array Value} {below : List Frame} {meth : Method} {c : Code} {H H0 : Heap} {locs : List Loc} {cells slots : Nat} {Q : State → Prop}
theorem sl_ld {cc : ByteArray} {pc : Nat} {ls : Array Slot} {rest : List Value} {A : Nat → Prop} (hexec : p.tables.exec = Jvm.exec) (hb : c.code = cc) {b L j d : Nat} {xs : Nat → Int32} (hX : va_X b L xs s H0) (hbl : b < H0.size) (hbA : ¬ A b) (hS : va_S A H0 H locs) (hL : L ≤ 3585) (hj : j + d < L) (hdg : decode cc pc = .ok (.iaload, 1))
    (kk : W p l e R s m args below meth c H locs cells slots Q (F0 m (pc + 1) ls (.int (xs (j + d)) :: rest))) : W p l e R s m args below meth c H locs cells slots Q (F0 m pc ls (.int (nI j + nI d) :: .ref b :: rest)) := by
  have e1 : nI j + nI d = nI (j + d) := by
    apply Int32.toBitVec_inj.mp
    show BitVec.ofNat 32 j + BitVec.ofNat 32 d = BitVec.ofNat 32 (j + d)
    rw [BitVec.ofNat_add]
  rw [e1]
  refine va_sld hexec hb hX hbl hbA hS (vp_in_nI hj (by omega)) hdg ?_
  rw [nI_clamp (by omega)]
  exact kk
end SL
