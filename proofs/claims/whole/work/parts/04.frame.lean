def gt_tbl : List Cond := lw_tbl.filter goodWord
theorem gt_m {w : Cond} (h : w ∈ lw_tbl) (hg : goodWord w = true) : w ∈ gt_tbl := List.mem_filter.mpr ⟨h, hg⟩
abbrev tb_w (y : MethodName) (b : ByteArray) (n : Nat) (r : Option FieldType) : List Cond := Cond.code y b n r :: gt_tbl
theorem tb_good {big : List Cond} (hbig : ∀ w ∈ gt_tbl, w ∈ big) {y : MethodName} {b : ByteArray} {n : Nat} {r : Option FieldType} (h : Cond.code y b n r ∈ gt_tbl) : GoodIn big (tb_w y b n r) := by
  intro w hw
  rcases List.mem_cons.mp hw with rfl | hw
  · exact ⟨hbig _ h, Or.inl rfl⟩
  · exact ⟨hbig _ hw, good_of_word (List.mem_filter.mp hw).2⟩
def tb_C (y : MethodName) (b : ByteArray) (n : Nat) (r : Option FieldType) (k : Nat) : Prop :=
  Cond.code y b n r ∈ gt_tbl ∧ Cond.initialized y.cls ∈ gt_tbl ∧ (y.cls ≠ "java/lang/invoke/MethodHandle" ∧ y.cls ≠ "java/lang/invoke/VarHandle" ∧ (parseMethodDescriptor y.desc).map (fun d => d.parameters.length) = some k)
section TB
variable {R : Room} {s : State} {args : Array Value} {own : String} {index : Nat} {y : MethodName} {bytes : ByteArray} {maxL mc ms n : Nat} {ret : Option FieldType} {rm : Room}
theorem tb_B (hw : ∀ w ∈ gt_tbl, w.before args s = true) (hc : tb_C y bytes maxL ret n) (hl : Cond.methodLink own index y ∈ gt_tbl) (hrc : rm.cells = mc) (hrs : rm.slots = ms) (hR : rm.frames + 1 ≤ R.frames ∧ 8 + (maxL + 11) + rm.locals ≤ R.locals) :
    CallB R s args own index y bytes maxL ret (tb_w y bytes maxL ret) rm mc ms n :=
  callB_of n hw (tb_good (fun _ h => h) hc.1) rfl hrc hrs (hw _ hc.2.1) (hw _ hl) hc.2.2 hR
theorem tb_S (hw : ∀ w ∈ gt_tbl, w.before args s = true) (hc : tb_C y bytes maxL ret n) (hl : Cond.methodLink own index y ∈ gt_tbl) (hst : Cond.static y ∈ gt_tbl) (hrc : rm.cells = mc) (hrs : rm.slots = ms) (hR : rm.frames + 1 ≤ R.frames ∧ 8 + (maxL + 11) + rm.locals ≤ R.locals) :
    CallB R s args own index y bytes maxL ret (tb_w y bytes maxL ret) rm mc ms n ∧ (Cond.static y).before args s = true :=
  ⟨tb_B hw hc hl hrc hrs hR, hw _ hst⟩
theorem tb_V (hw : ∀ w ∈ gt_tbl, w.before args s = true) (hc : tb_C y bytes maxL ret n) (hl : Cond.methodLink own index y ∈ gt_tbl) (hin : Cond.instanceMethod y ∈ gt_tbl) (hse : Cond.selects y.cls y y ∈ gt_tbl) (hrc : rm.cells = mc) (hrs : rm.slots = ms) (hR : rm.frames + 1 ≤ R.frames ∧ 8 + (maxL + 11) + rm.locals ≤ R.locals) :
    CallW R s args own y.cls index y bytes maxL ret (tb_w y bytes maxL ret) rm mc ms n :=
  ⟨tb_B hw hc hl hrc hrs hR, hw _ hin, hw _ hse⟩
theorem tb_I (hw : ∀ w ∈ gt_tbl, w.before args s = true) (hc : tb_C y bytes maxL none n) (hl : Cond.methodLink own index y ∈ gt_tbl) (hin : Cond.instanceMethod y ∈ gt_tbl) (hy : y.name = "<init>") (hrc : rm.cells = mc) (hrs : rm.slots = ms) (hR : rm.frames + 1 ≤ R.frames ∧ 8 + (maxL + 11) + rm.locals ≤ R.locals) :
    CallB R s args own index y bytes maxL none (tb_w y bytes maxL none) rm mc ms n ∧ y.name = "<init>" ∧ (Cond.instanceMethod y).before args s = true :=
  ⟨tb_B hw hc hl hrc hrs hR, hy, hw _ hin⟩
theorem tb_U {C owner : String} {x : MethodName} (hw : ∀ w ∈ gt_tbl, w.before args s = true) (hc : tb_C y bytes maxL ret n) (hl : Cond.methodLink own index x ∈ gt_tbl) (hsm : Cond.sameMethod x.cls owner x.name x.desc ∈ gt_tbl) (hd : va_Decl s ⟨owner, x.name, x.desc⟩) (ho : owner ≠ "java/lang/invoke/MethodHandle" ∧ owner ≠ "java/lang/invoke/VarHandle") (hxy : x.desc = y.desc)
    (hin : Cond.instanceMethod y ∈ gt_tbl) (hse : Cond.selects C x y ∈ gt_tbl) (hrc : rm.cells = mc) (hrs : rm.slots = ms) (hR : rm.frames + 1 ≤ R.frames ∧ 8 + (maxL + 11) + rm.locals ≤ R.locals) :
    va_CU R s args own C owner index x y bytes maxL ret (tb_w y bytes maxL ret) rm mc ms n := by
  refine ⟨⟨hrc, hrs, hR.1, hR.2, pay_in hw (tb_good (fun _ h => h) hc.1), List.mem_cons_self⟩, hw _ hc.1, hw _ hc.2.1, ho, fun sig h => ?_, hw _ hl, hw _ hsm, hd, hw _ hse, hw _ hin⟩
  have h2 := hc.2.2.2.2
  rw [← hxy, h] at h2
  exact (Option.some.inj h2).symm
end TB
def wk_sets : va_W → List Nat → va_W → va_W
  | ws, [], _ => ws
  | ws, _ :: _, [] => ws
  | ws, i :: is, q :: qs => wk_sets (ws.set i q) is qs
theorem wk_nd_cons {i : Nat} {is : List Nat} (h : va_nd (i :: is) = true) : i ∉ is ∧ va_nd is = true := by
  have hinj := va_nd_inj (i :: is) h
  constructor
  · intro hm
    obtain ⟨j, hj⟩ := List.getElem?_of_mem hm
    have := hinj 0 (j + 1) i rfl (by rw [List.getElem?_cons_succ]; exact hj)
    omega
  · unfold va_nd at h
    first | exact (Bool.and_eq_true_iff.mp h).2 | (simp at h; exact h.2)
theorem wk_sets_get : ∀ (is : List Nat) (ws w1 : va_W), va_nd is = true → is.length = w1.length → (∀ i ∈ is, i < ws.length) → ∀ (k : Nat) (q : Nat × va_E), (wk_sets ws is w1)[k]? = some q →
    (∃ j : Nat, is[j]? = some k ∧ w1[j]? = some q) ∨ (k ∉ is ∧ ws[k]? = some q)
  | [], ws, w1, _, _, _, k, q, h => by
    simp only [wk_sets] at h
    exact Or.inr ⟨List.not_mem_nil, h⟩
  | i :: is, ws, [], _, hl, _, _, _, _ => by simp at hl
  | i :: is, ws, p :: w1, hn, hl, hr, k, q, h => by
    obtain ⟨h1, h2⟩ := wk_nd_cons hn
    have hl' : is.length = w1.length := by simpa using hl
    rcases wk_sets_get is (ws.set i p) w1 h2 hl' (fun j hj => by rw [List.length_set]; exact hr j (List.mem_cons_of_mem _ hj)) k q h with ⟨j, a, b⟩ | ⟨a, b⟩
    · exact Or.inl ⟨j + 1, by rw [List.getElem?_cons_succ]; exact a, by rw [List.getElem?_cons_succ]; exact b⟩
    · by_cases hk : k = i
      · subst hk
        have hlt := hr k List.mem_cons_self
        rw [List.getElem?_set_self hlt] at b
        exact Or.inl ⟨0, rfl, b⟩
      · rw [List.getElem?_set_ne (Ne.symm hk)] at b
        exact Or.inr ⟨fun hm => by
          rcases List.mem_cons.mp hm with e | e
          · exact hk e
          · exact a e, b⟩
theorem wk_at {ws wc : va_W} {is : List Nat} (hC : is.map (fun i => ws[i]?) = wc.map some) {j k : Nat} (hj : is[j]? = some k) : ∃ q, wc[j]? = some q ∧ ws[k]? = some q := by
  have h1 : (is.map (fun i => ws[i]?))[j]? = some ws[k]? := by rw [List.getElem?_map, hj]; rfl
  rw [hC, List.getElem?_map] at h1
  cases hw : wc[j]? with
  | none => rw [hw] at h1; cases h1
  | some q => rw [hw] at h1; exact ⟨q, rfl, (Option.some.inj h1).symm⟩
theorem wk_at' {ws wc : va_W} {is : List Nat} (hC : is.map (fun i => ws[i]?) = wc.map some) {j : Nat} {q : Nat × va_E} (hj : wc[j]? = some q) : ∃ k, is[j]? = some k ∧ ws[k]? = some q := by
  have h1 : (wc.map some)[j]? = some (some q) := by rw [List.getElem?_map, hj]; rfl
  rw [← hC, List.getElem?_map] at h1
  cases hi : is[j]? with
  | none => rw [hi] at h1; cases h1
  | some k => rw [hi] at h1; exact ⟨k, rfl, Option.some.inj h1⟩
theorem wk_join {A0 : Nat → Prop} {D : va_G} {cl : List vw_C} {ws wc w1 : va_W} {H H1 : Heap} (hP : va_P D cl ws H) (hD : va_D A0 ws) (is : List Nat) (hn : va_nd is = true) (hC : is.map (fun i => ws[i]?) = wc.map some) (ha : w1.map (·.1) = wc.map (·.1))
    (hk : ∀ q : Nat, q < H.size → ¬ va_A wc H.size q → H1[q]? = H[q]?) (hP1 : va_P D cl w1 H1) : va_P D cl (wk_sets ws is w1) H1 ∧ va_D A0 (wk_sets ws is w1) := by
  have hlen : is.length = w1.length := by
    have e1 := congrArg List.length hC
    have e2 := congrArg List.length ha
    simp at e1 e2
    omega
  have hr : ∀ i ∈ is, i < ws.length := fun i hi => by
    obtain ⟨j, hj⟩ := List.getElem?_of_mem hi
    obtain ⟨q, -, h2⟩ := wk_at hC hj
    exact (List.getElem?_eq_some_iff.mp h2).1
  have hget := wk_sets_get is ws w1 hn hlen hr
  have addr : ∀ (j : Nat) (q : Nat × va_E), w1[j]? = some q → ∃ e, wc[j]? = some (q.1, e) := fun j q hq => by
    have h1 : (w1.map (·.1))[j]? = some q.1 := by rw [List.getElem?_map, hq]; rfl
    rw [ha, List.getElem?_map] at h1
    cases hw : wc[j]? with
    | none => rw [hw] at h1; cases h1
    | some x =>
      rw [hw] at h1
      have : x.1 = q.1 := Option.some.inj h1
      exact ⟨x.2, by rw [← this]⟩
  have old : ∀ (k : Nat) (q : Nat × va_E), (wk_sets ws is w1)[k]? = some q → ∃ e, ws[k]? = some (q.1, e) := fun k q hq => by
    rcases hget k q hq with ⟨j, a, b⟩ | ⟨_, b⟩
    · obtain ⟨e, he⟩ := addr j q b
      obtain ⟨x, h1, h2⟩ := wk_at hC a
      cases he.symm.trans h1
      exact ⟨e, h2⟩
    · exact ⟨q.2, b⟩
  refine ⟨fun k q hq => ?_, fun i j p q hi hj e => ?_, fun k q hq => ?_⟩
  · rcases hget k q hq with ⟨j, _, b⟩ | ⟨hni, b⟩
    · exact hP1 j q b
    · have hl := (hP k q b).lt
      refine (hP k q b).kept (hk q.1 hl fun h => ?_)
      rcases h with ⟨j, e, h⟩ | h
      · obtain ⟨k2, h3, h4⟩ := wk_at' hC h
        have := hD.1 k k2 q (q.1, e) b h4 rfl
        subst this
        exact hni (List.mem_of_getElem? h3)
      · omega
  · obtain ⟨e1, h1⟩ := old i p hi
    obtain ⟨e2, h2⟩ := old j q hj
    exact hD.1 i j _ _ h1 h2 e
  · obtain ⟨e1, h1⟩ := old k q hq
    exact hD.2 k (q.1, e1) h1
section RA
variable {p : Program} {l : Launch} {e : Env} {R : Room} {s : State} {m : MethodId} {args : Array Value} {below : List Frame} {meth : Method} {c : Code} {H : Heap} {locs : List Loc} {cells slots : Nat} {Q : State → Prop}
variable {cc : ByteArray} {pc : Nat} {ls : Array Slot} {rest : List Value} {D : va_G} {cl : List vw_C} {A : Nat → Prop} {a : Nat} {tys : List (ClassId × FieldType)} {ws : va_W} {H0 : Heap}
theorem tp_i {x y : Int32} (h : x = y) (k : W p l e R s m args below meth c H locs cells slots Q (F0 m pc ls (.int y :: rest))) : W p l e R s m args below meth c H locs cells slots Q (F0 m pc ls (.int x :: rest)) := by
  rw [h]; exact k
theorem tp_l {x y : Int64} (h : x = y) (k : W p l e R s m args below meth c H locs cells slots Q (F0 m pc ls (.long y :: rest))) : W p l e R s m args below meth c H locs cells slots Q (F0 m pc ls (.long x :: rest)) := by
  rw [h]; exact k
theorem ra_il (hexec : p.tables.exec = Jvm.exec) (hb : c.code = cc) (hK : va_K D cl tys s) (hP : va_P D cl ws H) (q0 t0 : Nat) {cA : ClassId} {n : Nat} {f : Nat → Int32} (ha : ws[q0]? = some (a, .inl (cA, n, .inl f))) (ht : tys[t0]? = some (cA, .int)) {k : Nat} (hk : k < n) (hn : n < 2 ^ 31) (hdg : decode cc pc = .ok (.iaload, 1))
    (kk : W p l e R s m args below meth c H locs cells slots Q (F0 m (pc + 1) ls (.int (f k) :: rest))) : W p l e R s m args below meth c H locs cells slots Q (F0 m pc ls (.int (nI k) :: .ref a :: rest)) := by
  refine va_iald hexec hb hK hP q0 t0 ha ht (vp_in_nI hk hn) hdg ?_
  rw [nI_clamp (Nat.lt_trans hk hn)]
  exact kk
theorem ra_ll (hexec : p.tables.exec = Jvm.exec) (hb : c.code = cc) (hK : va_K D cl tys s) (hP : va_P D cl ws H) (q0 t0 : Nat) {cA : ClassId} {n : Nat} {f : Nat → Int64} (ha : ws[q0]? = some (a, .inl (cA, n, .inr (.inl f)))) (ht : tys[t0]? = some (cA, .long)) {k : Nat} (hk : k < n) (hn : n < 2 ^ 31) (hdg : decode cc pc = .ok (.laload, 1))
    (kk : W p l e R s m args below meth c H locs cells slots Q (F0 m (pc + 1) ls (.long (f k) :: rest))) : W p l e R s m args below meth c H locs cells slots Q (F0 m pc ls (.int (nI k) :: .ref a :: rest)) := by
  refine va_lald hexec hb hK hP q0 t0 ha ht (vp_in_nI hk hn) hdg ?_
  rw [nI_clamp (Nat.lt_trans hk hn)]
  exact kk
theorem ra_zl (hexec : p.tables.exec = Jvm.exec) (hb : c.code = cc) (hK : va_K D cl tys s) (hP : va_P D cl ws H) (q0 t0 : Nat) {cA : ClassId} {n : Nat} {f : Nat → Int32} (ha : ws[q0]? = some (a, .inl (cA, n, .inl f))) (ht : tys[t0]? = some (cA, .boolean)) {k : Nat} (hk : k < n) (hn : n < 2 ^ 31) (hdg : decode cc pc = .ok (.baload, 1))
    (kk : W p l e R s m args below meth c H locs cells slots Q (F0 m (pc + 1) ls (.int (f k) :: rest))) : W p l e R s m args below meth c H locs cells slots Q (F0 m pc ls (.int (nI k) :: .ref a :: rest)) := by
  refine va_zald hexec hb hK hP q0 t0 ha ht (vp_in_nI hk hn) hdg ?_
  rw [nI_clamp (Nat.lt_trans hk hn)]
  exact kk
theorem ra_is (hexec : p.tables.exec = Jvm.exec) (hb : c.code = cc) (hK : va_K D cl tys s) (hP : va_P D cl ws H) (hD : va_D A ws) (hS : va_S A H0 H locs) (q0 t0 : Nat) {cA : ClassId} {n : Nat} {f : Nat → Int32} (ha : ws[q0]? = some (a, .inl (cA, n, .inl f))) (ht : tys[t0]? = some (cA, .int)) {k : Nat} {x : Int32} (hk : k < n) (hn : n < 2 ^ 31) (hdg : decode cc pc = .ok (.iastore, 1))
    (kk : ∀ (H1 : Heap) (locs1 : List Loc), va_P D cl (ws.set q0 (a, .inl (cA, n, .inl (upd f k x)))) H1 → va_D A (ws.set q0 (a, .inl (cA, n, .inl (upd f k x)))) → va_S A H0 H1 locs1 → W p l e R s m args below meth c H1 locs1 cells slots Q (F0 m (pc + 1) ls rest)) : W p l e R s m args below meth c H locs cells slots Q (F0 m pc ls (.int x :: .int (nI k) :: .ref a :: rest)) := by
  refine va_iast hexec hb hK hP hD hS q0 t0 ha ht (vp_in_nI hk hn) hdg ?_
  rw [nI_clamp (Nat.lt_trans hk hn)]
  exact kk
theorem ra_ls (hexec : p.tables.exec = Jvm.exec) (hb : c.code = cc) (hK : va_K D cl tys s) (hP : va_P D cl ws H) (hD : va_D A ws) (hS : va_S A H0 H locs) (q0 t0 : Nat) {cA : ClassId} {n : Nat} {f : Nat → Int64} (ha : ws[q0]? = some (a, .inl (cA, n, .inr (.inl f)))) (ht : tys[t0]? = some (cA, .long)) {k : Nat} {x : Int64} (hk : k < n) (hn : n < 2 ^ 31) (hdg : decode cc pc = .ok (.lastore, 1))
    (kk : ∀ (H1 : Heap) (locs1 : List Loc), va_P D cl (ws.set q0 (a, .inl (cA, n, .inr (.inl (vp_updL f k x))))) H1 → va_D A (ws.set q0 (a, .inl (cA, n, .inr (.inl (vp_updL f k x))))) → va_S A H0 H1 locs1 → W p l e R s m args below meth c H1 locs1 cells slots Q (F0 m (pc + 1) ls rest)) : W p l e R s m args below meth c H locs cells slots Q (F0 m pc ls (.long x :: .int (nI k) :: .ref a :: rest)) := by
  refine va_last hexec hb hK hP hD hS q0 t0 ha ht (vp_in_nI hk hn) hdg ?_
  rw [nI_clamp (Nat.lt_trans hk hn)]
  exact kk
theorem ra_zs (hexec : p.tables.exec = Jvm.exec) (hb : c.code = cc) (hK : va_K D cl tys s) (hP : va_P D cl ws H) (hD : va_D A ws) (hS : va_S A H0 H locs) (q0 t0 : Nat) {cA : ClassId} {n : Nat} {f : Nat → Int32} (ha : ws[q0]? = some (a, .inl (cA, n, .inl f))) (ht : tys[t0]? = some (cA, .boolean)) {k : Nat} {x : Int32} (hk : k < n) (hn : n < 2 ^ 31) (hz : vp_nar .boolean x = x) (hdg : decode cc pc = .ok (.bastore, 1))
    (kk : ∀ (H1 : Heap) (locs1 : List Loc), va_P D cl (ws.set q0 (a, .inl (cA, n, .inl (upd f k x)))) H1 → va_D A (ws.set q0 (a, .inl (cA, n, .inl (upd f k x)))) → va_S A H0 H1 locs1 → W p l e R s m args below meth c H1 locs1 cells slots Q (F0 m (pc + 1) ls rest)) : W p l e R s m args below meth c H locs cells slots Q (F0 m pc ls (.int x :: .int (nI k) :: .ref a :: rest)) := by
  refine va_zast hexec hb hK hP hD hS q0 t0 ha ht (vp_in_nI hk hn) hdg ?_
  rw [nI_clamp (Nat.lt_trans hk hn), hz]
  exact kk
end RA
