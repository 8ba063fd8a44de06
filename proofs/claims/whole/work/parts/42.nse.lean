def ne_X : String := "java/util/NoSuchElementException"
def ne_b : ByteArray := ⟨#[0x2a, 0x2b, 0xb7, 0x00, 0x0d, 0xb1]⟩
def ne_tl : List Cond := [.methodLink "PakeDesk" 97 (Bundle.initS ne_X), .instantiable ne_X 6, .selects ne_X Bundle.tFill0 Bundle.tFill0, .selects ne_X Bundle.tFill Bundle.tFill,
  .lays ne_X Bundle.tN "cause" "Ljava/lang/Throwable;", .lays ne_X Bundle.tN "stackTrace" Bundle.steD, .lays ne_X Bundle.tN "suppressedExceptions" Bundle.listD, .lays ne_X Bundle.tN "detailMessage" "Ljava/lang/String;", .lays ne_X Bundle.tN "backtrace" "Ljava/lang/Object;",
  .isRef (.static Bundle.tN "UNASSIGNED_STACK" Bundle.steD), .isRef (.static Bundle.tN "SUPPRESSED_SENTINEL" Bundle.listD), .fieldLink Bundle.tN 198 Bundle.tN "backtrace" "Ljava/lang/Object;", .lays Bundle.tN Bundle.tN "backtrace" "Ljava/lang/Object;"]
def ne_ws : List Cond := ne_tl ++ (Bundle.passSAtoms ne_X "java/lang/RuntimeException" 13 ne_b ++ (Bundle.chainSAtoms "java/lang/RuntimeException" ["java/lang/Exception"] ++ (Bundle.throwableSAtoms ++ Bundle.throwableAtoms)))
theorem ne_slot {x : Cell} {i j : Nat} {v : Value} (h : i ≠ j) : (x.setSlot i v).slots[j]? = x.slots[j]? := Array.getElem?_setIfInBounds_ne h
section NE
variable {p : Program} {l : Launch} {e : Env} {R : Room} {s W : State} {m : MethodId} {args : Array Value} {below : List Frame} {meth : Method} {c : Code} {k n : Nat}
set_option maxHeartbeats 1000000 in
theorem ne_ctor (X : Stand p l e R s m args below meth c W [] k n) (hexec : p.tables.exec = Jvm.exec) (htr : e.platform.stackTraces = false) (hown : s.vm.findClass "PakeDesk" = some m.cls) (h : ∀ w ∈ ne_ws, w.before args s = true)
    {a sa : Nat} {cX : ClassId} {kX : Class} (hX : s.vm.findClass ne_X = some cX) (hk : s.vm.classes[cX]? = some kX) (hcell : W.heap[a]? = some (freshCell cX kX)) (hnew : s.heap.size ≤ a) {pc : Nat} {ls : Array Slot} {st : List Value} (hsz : ls.size = c.maxLocals)
    (hd6 : decode c.code pc = .ok (.invokespecial 97, 3)) (hd9 : decode c.code (pc + 3) = .ok (.athrow, 1)) (hout : ∀ x ∈ c.exceptionTable.toList, covers x (pc + 3) = false) (hR1 : 5 < R.frames) (hR2 : (st.map fun v => v.category).sum + 1 + 81 ≤ R.locals) (hlocks : meth.locks = false) :
    ∃ (U : State) (ce : Cell), Steps p.tables e below (W.setTop (F0 m pc ls (.ref sa :: .ref a :: .ref a :: st))) U ∧ U.status = .running ∧ Ended U below (.threw a) ∧ s.WarmedH U.vm ∧ s.sameButNew ({ U with vm := s.vm } : State) [] k n ∧ U.heap[a]? = some ce ∧ ce.cls = cX ∧ ce.vm = .none := by
  have hpl : e.platform.magicAccessors = ({} : Platform).magicAccessors := by rw [X.admits.platform]
  have wt : ∀ (i : Nat) (w : Cond), ne_tl[i]? = some w → w.before args s = true := fun i w hi => h w (List.mem_append_left _ (List.mem_of_getElem? hi))
  have wp : ∀ w ∈ Bundle.passSAtoms ne_X "java/lang/RuntimeException" 13 ne_b, w.before args s = true := fun w hw => h w (List.mem_append_right _ (List.mem_append_left _ hw))
  have wc : ∀ w ∈ Bundle.chainSAtoms "java/lang/RuntimeException" ["java/lang/Exception"], w.before args s = true := fun w hw => h w (List.mem_append_right _ (List.mem_append_right _ (List.mem_append_left _ hw)))
  have ws : ∀ w ∈ Bundle.throwableSAtoms, w.before args s = true := fun w hw => h w (List.mem_append_right _ (List.mem_append_right _ (List.mem_append_right _ (List.mem_append_left _ hw))))
  have wb : ∀ w ∈ Bundle.throwableAtoms, w.before args s = true := fun w hw => h w (List.mem_append_right _ (List.mem_append_right _ (List.mem_append_right _ (List.mem_append_right _ hw))))
  obtain ⟨T, Z0, L, -, Y⟩ := ThrowableC.of_atoms (args := args) (pl := e.platform) (by rw [X.admits.platform]) (by rw [X.admits.platform]) hpl wb
  obtain ⟨Z, M, LZ, LM, hZ⟩ := Init0T.ofS_atoms (args := args) hpl L Y ws
  obtain ⟨P2, Ps, hlen, L2, LPs, hm2, hs2, hps⟩ := Bundle.chainS (args := args) hpl hZ ["java/lang/Exception"] "java/lang/RuntimeException" (by decide) (fun n hn => by rw [List.mem_singleton.mp hn]; decide) wc
  obtain ⟨P1, L1, hm1, hs1⟩ := PassC.ofS_atoms (args := args) (s := s) hpl (X := ne_X) (Y := "java/lang/RuntimeException") (index := 13) (bytes := ne_b) (Bundle.fit_spec (n := ne_X) (by decide)).1 (by decide) (by decide +kernel) (by decide +kernel) (by decide +kernel) (by decide +kernel) wp
  have hord : kX.kind = .ordinary := by
    obtain ⟨c1, k1, b1, b2, b3, -⟩ := Cond.instantiable_spec (wt 1 _ rfl)
    rw [hX] at b1
    injection b1 with b1
    subst b1
    rw [hk] at b2
    injection b2 with b2
    subst b2
    exact b3
  obtain ⟨cS, hcS, hiS⟩ := Y.statics
  have hWS : W.heap[T.aS]? = some cS := by
    have q : W.heap[T.aS]? = s.heap[T.aS]? := th_cell (t := ({ W with vm := s.vm } : State)) X.same (Array.getElem?_eq_some_iff.mp hcS).1
    rw [q]; exact hcS
  obtain ⟨u0, hu0⟩ := Cond.staticRefV Y.unassigned L.unassignedStatic L.statics hcS hiS (wt 9 _ rfl)
  obtain ⟨u1, hu1⟩ := Cond.staticRefV Y.sentinel L.sentinelStatic L.statics hcS hiS (wt 10 _ rfl)
  obtain ⟨iM, hM⟩ := Y.msg
  obtain ⟨y1, d1, e1, f1⟩ := Cond.laysAt hX hk Y.cause (wt 4 _ rfl)
  obtain ⟨y2, d2, e2, f2⟩ := Cond.laysAt hX hk Y.stack (wt 5 _ rfl)
  obtain ⟨y3, d3, e3, f3⟩ := Cond.laysAt hX hk Y.supp (wt 6 _ rfl)
  obtain ⟨y4, d4, e4, f4⟩ := Cond.laysAt hX hk hM (wt 7 _ rfl)
  obtain ⟨cb, ib, fb, g1, g2, g3, g4, -, g5, g6, g7⟩ := Cond.ownField (t := .object "java/lang/Object") Y.found L.cls (by decide +kernel) (wt 11 _ rfl) (wt 12 _ rfl) e.platform hpl
  obtain ⟨y5, d5, e5, f5⟩ := Cond.laysAt hX hk g7 (wt 8 _ rfl)
  have n1 : T.fCause.slot ≠ fb.slot := Cond.laysApart e1 e5 f1 f5 (by rw [Y.causeName, g5]; decide)
  have n2 : T.fStack.slot ≠ fb.slot := Cond.laysApart e2 e5 f2 f5 (by rw [Y.stackName, g5]; decide)
  have n3 : T.fSupp.slot ≠ fb.slot := Cond.laysApart e3 e5 f3 f5 (by rw [Y.suppName, g5]; decide)
  have hskip : SkipFacts T e.platform s (fun u => u) u0 ((preparedCellV T.toThrowableT (freshCell cX kX) a u0 u1).withEntry W.cur) := by
    refine ⟨⟨cb, ib, fb⟩, ⟨g1, g2, g3, g4⟩, ?_, fun _ _ => rfl⟩
    show (((Cell.setSlot (freshCell cX kX) T.fCause.slot (.ref a)).setSlot T.fStack.slot u0.v).setSlot T.fSupp.slot u1.v).slots[fb.slot]? = some .null
    rw [ne_slot n3, ne_slot n2, ne_slot n1, fresh_default y5, g6]
    rfl
  have hne : T.aS ≠ a := fun q => by
    have q1 := (Array.getElem?_eq_some_iff.mp hcS).1
    rw [q] at q1
    exact Nat.not_lt.mpr hnew q1
  have hkn : cS.vm ≠ .unknown := fun q => by rw [q] at hiS; cases hiS
  obtain ⟨tm, mt, cd, kk, vm1, t1, -, -, -, -, -, -, -, hW1, hgo⟩ := Steps.initColdS (tb := p.tables) (U := W) X.here hexec X.warmed hpl hown (idx := 97) (t := Bundle.initS ne_X) rfl rfl (by decide) (args := args) (bytes := ne_b) (maxL := 2) (wt 0 _ rfl) (wp _ (List.mem_of_getElem? (i := 0) rfl)) (wp _ (List.mem_of_getElem? (i := 1) rfl))
    (f := F0 m pc ls (.ref sa :: .ref a :: .ref a :: st)) rfl (a := a) (msg := .ref sa) (rest := .ref a :: st) rfl hd6
  have htm : tm = P1.m := by
    rw [t1] at hm1
    injection hm1
  have X1 := X.noted hW1
  have hsup : P1.sup = P2.m := by
    rw [hs1] at hm2
    injection hm2
  obtain ⟨vm2, X2, hgo2⟩ := X1.ctorMessageOffV hexec (g := F0 m pc ls (.ref a :: st)) rfl hsz T L Z LZ M LM (P1 :: P2 :: Ps) (fun P hP => by
      rcases List.mem_cons.mp hP with q | hP
      · rw [q]; exact L1
      rcases List.mem_cons.mp hP with q | hP
      · rw [q]; exact L2
      · exact LPs P hP) ⟨hsup, hs2, hps⟩ (u0 := u0) (sen := u1) (self := a) (msg := .ref sa) rfl (cell := freshCell cX kX) (cellS := cS) hcell (fun z hz => nomatch hz) (fun hz => nomatch hz) rfl rfl
    (tm_sel X.admits hX Y.fill0 (by decide) (wt 2 _ rfl)).1 (tm_sel X.admits hX Y.fill (by decide) (wt 3 _ rfl)).1 hWS hne hkn hu0 hu1
    (Takes.of_laid hk hord y1 (by rw [Y.causeType]; rfl)) (Takes.of_laid hk hord y2 (by rw [Y.stackType]; exact fits_refV_array _ u0)) (Takes.of_laid hk hord y3 (by rw [Y.suppType]; exact fits_refV_object _ u1)) (Takes.of_laid hk hord y4 (by rw [Y.msgType]; rfl)) Y.objLocals hskip htr [] hd6
    (by show Ps.length + 1 + 1 + 2 < _; rw [hlen]; exact hR1) (by
      show 2 * 0 + (((Value.ref a :: st).map fun v => v.category).sum) + (13 * (Ps.length + 1 + 1) + 42) ≤ _
      rw [hlen, List.map_cons, List.sum_cons, show (Value.ref a).category = 1 from rfl]
      show 2 * 0 + (1 + _) + (13 * 3 + 42) ≤ _
      omega)
  generalize hce : plainBareV T.toThrowableT (freshCell cX kX) a u0 u1 (.ref sa) = ce at X2 hgo2
  obtain ⟨s1, s2, s3, s4, s5⟩ := X2.athrowLeaves hexec (g := F0 m (pc + 3) ls (.ref a :: st)) rfl rfl rfl hout (a := a) (rest := st) rfl hd9 hlocks
  refine ⟨_, ce, hgo _ (fun acts => ?_), s2, s3, s4, ?_, ?_, ?_, ?_⟩
  · rw [doInvoke_state, htm]
    exact hgo2 _ s1
  · obtain ⟨q1, q2, q3, q4, q5, q6⟩ := s5
    refine ⟨q1, q2, q3, q4, q5, fun q x hq => ?_⟩
    obtain ⟨x', r1, r2, r3, r4⟩ := q6 q x hq
    refine ⟨x', r1, r2, r3, fun i _ => r4 i (fun hm => ?_)⟩
    have hlt := (Array.getElem?_eq_some_iff.mp hq).1
    have hqa : q ≠ a := fun z => by
      rw [z] at hlt
      exact Nat.not_lt.mpr hnew hlt
    simp only [List.nil_append, List.mem_cons, List.not_mem_nil, or_false, Loc.mk.injEq] at hm
    rcases hm with z | z | z | z | z <;> exact hqa z.1
  · show (W.heap.setIfInBounds a ce)[a]? = some ce
    exact Array.getElem?_setIfInBounds_self_of_lt (Array.getElem?_eq_some_iff.mp hcell).1
  · rw [← hce]; rfl
  · rw [← hce]; rfl
end NE
section NE2
variable {p : Program} {l : Launch} {e : Env} {R : Room} {s : State} {m : MethodId} {args : Array Value} {below : List Frame} {meth : Method} {c : Code} {H : Heap} {locs : List Loc} {cells slots : Nat}
theorem ne_throw {ib sa : Nat} {text : String} {cc : ByteArray} {pc : Nat} {ls : Array Slot} {st : List Value} {Qc : Array Value → State → Outcome → State → Prop} {free : Addr → Prop}
    (hexec : p.tables.exec = Jvm.exec) (hb : c.code = cc) (hlocks : meth.locks = false) (hout : ∀ y ∈ c.exceptionTable.toList, covers y (pc + 9) = false) (hsz : ls.size = c.maxLocals)
    (htr : e.platform.stackTraces = false) (hown : s.vm.findClass "PakeDesk" = some m.cls)
    (hcl : (Cond.classLink "PakeDesk" 93 ne_X).before args s = true) (hins : (Cond.instantiable ne_X 6).before args s = true) (hini : (Cond.initialized ne_X).before args s = true)
    (hat : ∀ U : State, s.WarmedH U.vm → U.heap = H → ∀ a ∈ ne_ws, a.before args U = true) (hstr : vk_R "PakeDesk" ib text sa s)
    (hd0 : decode cc pc = .ok (.new 93, 3)) (hd3 : decode cc (pc + 3) = .ok (.dup, 1)) (hd4 : decode cc (pc + 4) = .ok (.ldc ib, 2)) (hd6 : decode cc (pc + 6) = .ok (.invokespecial 97, 3)) (hd9 : decode cc (pc + 9) = .ok (.athrow, 1))
    (hR1 : 5 < R.frames) (hR2 : (st.map fun v => v.category).sum + 1 + 81 ≤ R.locals) (hc : cells + 1 ≤ R.cells) (hs : slots + 6 ≤ R.slots) (hf : ∀ q ∈ locs, free q.base)
    (hq : ∀ (t : State) (ce : Cell), H.size ≤ t.heap.size → (∀ q, q < H.size → t.heap[q]? = H[q]?) → t.heap[H.size]? = some ce → ce.vm = .none → s.vm.findClass ne_X = some ce.cls → s.WarmedH t.vm → Qc args s (.threw H.size) t) :
    W p l e R s m args below meth c H locs cells slots (tm_Q below Qc args s (cells + 1) (slots + 6) free) (F0 m pc ls st) := by
  intro T hT X
  have X0 := th_base X (by omega) (by omega)
  have hal := X.warmed.alike
  have hW0 : s.WarmedH (T.setFrames (.invoking m args :: below)).vm := X.warmed
  have ride : ∀ w : Cond, (w.onTables && w.keeps) = true → w.before args s = true → w.before args (T.setFrames (.invoking m args :: below)) = true := fun w hg hw => word_at hW0 (Or.inl hg) hw
  have hown' : (T.setFrames (.invoking m args :: below)).vm.findClass "PakeDesk" = some m.cls := by
    show T.vm.findClass "PakeDesk" = _
    rw [hal.findClass]; exact hown
  have hstr' := hstr.warm hW0
  have hat' := hat (T.setFrames (.invoking m args :: below)) hW0 hT
  generalize hs' : T.setFrames (.invoking m args :: below) = s' at X0 ride hown' hstr' hat' hW0
  have hheap : s'.heap = T.heap := by rw [← hs']; rfl
  obtain ⟨vm₁, cX, kX, hfX, hkX, -, -, X₁, st1⟩ := X0.newCold hexec (own := "PakeDesk") (C := ne_X) (index := 93) (n := 6) hown' (ride _ rfl hcl) (ride _ rfl hins) (ride _ rfl hini)
    (g := F0 m pc ls st) rfl (by rw [hb]; exact hd0) (by show 0 + 1 ≤ R.cells - cells; omega) (by show 0 + 6 ≤ R.slots - slots; omega)
  generalize hT1 : (T.setVm vm₁).pushCell { cls := cX, slots := kX.instanceTypes.map defaultValue, vm := .none } = T1 at X₁ st1
  have hcellA : T1.heap[T.heap.size]? = some (freshCell cX kX) := by rw [← hT1]; exact State.heap_pushCell_size _ _
  obtain ⟨U, ce, hsteps, hrun, hend, hW, hsame, hce, hcc, hcv⟩ := ne_ctor X₁ hexec htr hown' hat' (sa := sa) hfX hkX hcellA (by rw [hheap]; exact Nat.le_refl _) (pc := pc + 6) (ls := ls) (st := st) hsz (by rw [hb]; exact hd6) (by rw [hb]; exact hd9) hout hR1 hR2 hlocks
  have hkept : ∀ q, q < H.size → U.heap[q]? = H[q]? := fun q hq => by
    have h1 := th_cell (t := ({ U with vm := s'.vm } : State)) hsame (q := q) (by rw [hheap, hT]; exact hq)
    have h2 : U.heap[q]? = s'.heap[q]? := h1
    rw [h2, hheap, hT]
  have hgrow : H.size ≤ U.heap.size := by
    have h1 : s'.heap.size ≤ U.heap.size := hsame.2.1
    rw [hheap, hT] at h1; exact h1
  have hWU : s.WarmedH U.vm := State.WarmedH.trans hW0 hW
  have hcls' : s.vm.findClass ne_X = some ce.cls := by
    have h1 := hfX
    rw [← hs'] at h1
    have h2 : T.vm.findClass ne_X = some cX := h1
    rw [hal.findClass] at h2
    rw [hcc]; exact h2
  have hsame2 : s.sameButNew ({ U with vm := s.vm } : State) locs (cells + 1) (slots + 6) := by
    have h1 : T.sameButNew ({ U with vm := s'.vm } : State) [] (0 + 1) (0 + 6) := by rw [← hs'] at hsame ⊢; exact th_refr hsame
    have h2 := X.same.trans (h1.setVm s.vm)
    rw [List.append_nil] at h2
    exact h2
  refine ⟨U, ?_, .threw H.size, hrun, by rw [← hT]; exact hend, hq U ce hgrow hkept (by rw [← hT]; exact hce) hcv hcls' hWU, locs, ⟨hWU, hsame2⟩, hf⟩
  refine st1 _ ?_
  show Steps p.tables e below (T1.setTop (F0 m (pc + 3) ls (.ref T.heap.size :: st))) _
  jvm_step X₁.here [X₁.here.top, hexec, hb, hd3, Value.category]
  exact X₁.ldcString hexec (own := "PakeDesk") (text := text) (index := ib) (a := sa) hown' hstr'.1 hstr'.2 (g := F0 m (pc + 4) ls (.ref T.heap.size :: .ref T.heap.size :: st)) rfl (by rw [hb]; exact hd4) _ hsteps
end NE2
theorem ne_hat {s : State} {args : Array Value} {A : Nat → Prop} {H : Heap} {locs : List Loc} (hg : ∀ w ∈ gt_tbl, w.before args s = true) (hN : kk_N s) (hz : st_A A s.vm s.heap) (hS : va_S A s.heap H locs)
    (hm : ∀ w ∈ ne_ws, w ∈ gt_tbl ∨ w ∈ nw_tbl ∨ w ∈ st_ws) : ∀ U : State, s.WarmedH U.vm → U.heap = H → ∀ a ∈ ne_ws, a.before args U = true := by
  intro U hW hU w hw
  rcases hm w hw with h | h | h
  · exact word_at hW (good_of_word (List.mem_filter.mp h).2) (hg w h)
  · exact va_tabs (Bool.and_eq_true_iff.mp (List.mem_filter.mp h).2).1 rfl ((hN.moved hW.alike) w h)
  · exact hz w h U hW.alike (fun q h1 h2 => by rw [hU]; exact hS.2.1 q h1 h2) args
