section TH
variable {p : Program} {l : Launch} {e : Env} {R : Room} {s : State} {m : MethodId} {args : Array Value} {below : List Frame} {meth : Method} {c : Code} {H : Heap} {T : State} {locs : List Loc} {cells slots : Nat} {Q : State → Prop}
theorem th_base (X : Stand p l e R s m args below meth c T locs cells slots) (h1 : cells ≤ R.cells) (h2 : slots ≤ R.slots) :
    Stand p l e { R with cells := R.cells - cells, slots := R.slots - slots } (T.setFrames (.invoking m args :: below)) m args below meth c T [] 0 0 := by
  obtain ⟨g₀, hfr⟩ := X.frames_eq
  have hcur : T.cur < T.threads.size := State.cur_lt_of_frames hfr
  have hf' : (T.setFrames (.invoking m args :: below)).frames = .invoking m args :: below := State.frames_setFrames _ hcur
  have hm' : (T.setFrames (.invoking m args :: below)).vm.method? m = some meth := X.method'
  have hlim : e.platform.stackLimits (T.setFrames (.invoking m args :: below)).me = e.platform.stackLimits T.me := State.stackLimits_setFrames ..
  have hbyt : (T.setFrames (.invoking m args :: below)).me.stackBytes = T.me.stackBytes := State.stackBytes_setFrames ..
  obtain ⟨t0, ht0, -⟩ := State.frames_cons hfr
  refine ⟨X.admits, X.cas, X.clock, hf', ?_, ?_, hm', X.code, X.here, X.tail, State.WarmedH.refl _, hlim.symm, hbyt.symm, ?_⟩
  · have hr := X.room
    have u0 := State.localsInUse_invoking X.frames X.method X.code
    have u1 := State.localsInUse_invoking hf' hm' X.code
    have hz := X.heapSize
    have hu := X.used
    have hbk : (T.setFrames (.invoking m args :: below)).slotsTrue = true := X.book
    simp only [State.hasRoom, Bool.and_eq_true, decide_eq_true_eq] at hr ⊢
    obtain ⟨⟨⟨⟨r0, r1, r2, r3, r4, r5⟩, r6⟩, r7⟩, r8⟩ := hr
    rw [X.frames] at r1 r2
    rw [hf', hlim, hbyt, X.limits, X.bytes, u1]
    rw [u0] at r0 r3 r4
    refine ⟨⟨⟨⟨r0, r1, r2, r3, r4, r5⟩, ?_⟩, ?_⟩, hbk⟩
    · show T.heap.size + (R.cells - cells) ≤ _
      omega
    · show T.slotsUsed + (R.slots - slots) ≤ _
      omega
  · have hh := X.hears
    have hm2 : T.vm.method? m = some meth := X.method'
    have hal := X.warmed.alike
    have hcd : ∀ k : MethodId, (T.setFrames (.invoking m args :: below)).code? k = s.code? k := fun k => by
      rw [State.code?_eq, State.code?_eq]
      show (T.vm.method? k).bind _ = _
      rw [hal.method?]
    cases below with
    | nil => simpa [State.hears, X.method, hm2] using hh
    | cons f r => cases f <;> first | (simp only [State.hears] at hh ⊢; rw [hcd]; exact hh) | rfl | (simpa [State.hears, X.method, hm2] using hh)
  · have h0 := (State.sameButNew.refl (T.setFrames (.invoking m args :: below)) (x := { t0 with frames := .invoking m args :: below }) (by
      simp [State.setFrames, Array.getElem?_modify, ht0])).setFrames T.frames (by simpa [State.setFrames] using hcur)
    rw [State.setFrames_setFrames, State.setFrames_self ht0] at h0
    exact h0
end TH
theorem th_refr {T U : State} {F : List Frame} {L : List Loc} {k n : Nat} (h : (T.setFrames F).sameButNew U L k n) : T.sameButNew U L k n := by
  obtain ⟨a1, a2, a3, a4, a5, a6⟩ := h
  exact ⟨by rw [State.setFrames_setFrames] at a1; exact a1, a2, a3, a4, a5, a6⟩
theorem th_cell {s t : State} {k n : Nat} (h : s.sameButNew t [] k n) {q : Nat} (hq : q < s.heap.size) : t.heap[q]? = s.heap[q]? := by
  have hc : s.heap[q]? = some s.heap[q] := Array.getElem?_eq_getElem hq
  obtain ⟨c', h1, h2, h3, h4⟩ := h.2.2.2.2.2 q _ hc
  rw [h1, hc]
  congr 1
  rw [h2]
  have : c'.slots = s.heap[q].slots := by
    apply Array.ext_getElem?
    intro i
    exact h4 i List.not_mem_nil
  rw [this]
section TH2
variable {p : Program} {l : Launch} {e : Env} {R : Room} {s : State} {m : MethodId} {args : Array Value} {below : List Frame} {meth : Method} {c : Code} {H : Heap} {locs : List Loc} {cells slots : Nat}
theorem th_throw {own cls text : String} {names : List String} {ia ib ic sa : Nat} {cc : ByteArray} {pc : Nat} {ls : Array Slot} {st : List Value} {Qc : Array Value → State → Outcome → State → Prop} {free : Addr → Prop}
    (hexec : p.tables.exec = Jvm.exec) (hb : c.code = cc) (hlocks : meth.locks = false) (hout : ∀ y ∈ c.exceptionTable.toList, covers y (pc + 9) = false) (hsz : ls.size = c.maxLocals)
    (htr : e.platform.stackTraces = false) (hown : s.vm.findClass own = some m.cls) (hcls : Bundle.fit cls = true) (hnames : ∀ n ∈ names, Bundle.fit n = true)
    (hcl : (Cond.classLink own ia cls).before args s = true) (hins : (Cond.instantiable cls 6).before args s = true) (hini : (Cond.initialized cls).before args s = true)
    (hat : ∀ U : State, s.WarmedH U.vm → U.heap = H → ∀ a ∈ Bundle.ownAtoms own ic cls names, a.before args U = true) (hstr : vk_R own ib text sa s)
    (hd0 : decode cc pc = .ok (.new ia, 3)) (hd3 : decode cc (pc + 3) = .ok (.dup, 1)) (hd4 : decode cc (pc + 4) = .ok (.ldc ib, 2)) (hd6 : decode cc (pc + 6) = .ok (.invokespecial ic, 3)) (hd9 : decode cc (pc + 9) = .ok (.athrow, 1))
    (hR1 : names.length + 3 < R.frames) (hR2 : (st.map fun v => v.category).sum + 1 + (13 * (names.length + 1) + 42) ≤ R.locals) (hc : cells + 1 ≤ R.cells) (hs : slots + 6 ≤ R.slots) (hf : ∀ q ∈ locs, free q.base)
    (hq : ∀ (t : State) (ce : Cell), H.size ≤ t.heap.size → (∀ q, q < H.size → t.heap[q]? = H[q]?) → t.heap[H.size]? = some ce → ce.vm = .none → s.vm.findClass cls = some ce.cls → s.WarmedH t.vm → Qc args s (.threw H.size) t) :
    W p l e R s m args below meth c H locs cells slots (tm_Q below Qc args s (cells + 1) (slots + 6) free) (F0 m pc ls st) := by
  intro T hT X
  have X0 := th_base X (by omega) (by omega)
  have hal := X.warmed.alike
  have hW0 : s.WarmedH (T.setFrames (.invoking m args :: below)).vm := X.warmed
  have ride : ∀ w : Cond, (w.onTables && w.keeps) = true → w.before args s = true → w.before args (T.setFrames (.invoking m args :: below)) = true := fun w hg hw => word_at hW0 (Or.inl hg) hw
  have hown' : (T.setFrames (.invoking m args :: below)).vm.findClass own = some m.cls := by
    show T.vm.findClass own = _
    rw [hal.findClass]; exact hown
  have hstr' := hstr.warm hW0
  have hat' := hat (T.setFrames (.invoking m args :: below)) hW0 hT
  generalize hs' : T.setFrames (.invoking m args :: below) = s' at X0 ride hown' hstr' hat' hW0
  have hheap : s'.heap = T.heap := by rw [← hs']; rfl
  obtain ⟨vm₁, cX, kX, hfX, hkX, -, -, X₁, st1⟩ := X0.newCold hexec (own := own) (C := cls) (index := ia) (n := 6) hown' (ride _ rfl hcl) (ride _ rfl hins) (ride _ rfl hini)
    (g := F0 m pc ls st) rfl (by rw [hb]; exact hd0) (by show 0 + 1 ≤ R.cells - cells; omega) (by show 0 + 6 ≤ R.slots - slots; omega)
  generalize hT1 : (T.setVm vm₁).pushCell { cls := cX, slots := kX.instanceTypes.map defaultValue, vm := .none } = T1 at X₁ st1
  have hcellA : T1.heap[T.heap.size]? = some (freshCell cX kX) := by rw [← hT1]; exact State.heap_pushCell_size _ _
  have hmr : (F0 m (pc + 6) ls (.ref sa :: .ref T.heap.size :: .ref T.heap.size :: st)).monitorRoom = 0 := rfl
  obtain ⟨U, hsteps, hrun, hend, hW, hsame, ce, hce, K⟩ := X₁.ctorThrowS hexec htr (own := own) (cls := cls) (names := names) (ic := ic) hown' hcls hnames hat' (fun y hy => by cases hy) hfX hkX hcellA (by rw [hheap]; exact Nat.le_refl _) (msg := .ref sa) rfl
    (g := F0 m (pc + 6) ls (.ref sa :: .ref T.heap.size :: .ref T.heap.size :: st)) rfl hsz rfl rfl (rest := st) rfl (by rw [hb]; exact hd6) (by rw [hb]; exact hd9) hout hR1
    (by rw [hmr, List.map_cons, List.sum_cons, show (Value.ref T.heap.size).category = 1 from rfl]; show 2 * 0 + (1 + _) + _ ≤ R.locals; omega) hlocks
  have hkept : ∀ q, q < H.size → U.heap[q]? = H[q]? := fun q hq => by
    have h1 := th_cell (t := ({ U with vm := s'.vm } : State)) hsame (q := q) (by rw [hheap, hT]; exact hq)
    have h2 : U.heap[q]? = s'.heap[q]? := h1
    rw [h2, hheap, hT]
  have hgrow : H.size ≤ U.heap.size := by
    have h1 : s'.heap.size ≤ U.heap.size := hsame.2.1
    rw [hheap, hT] at h1; exact h1
  have hWU : s.WarmedH U.vm := State.WarmedH.trans hW0 hW
  have hcls' : s.vm.findClass cls = some ce.cls := by
    have h1 := K.cls
    rw [← hs'] at h1
    have h2 : T.vm.findClass cls = some ce.cls := h1
    rw [hal.findClass] at h2; exact h2
  have hsame2 : s.sameButNew ({ U with vm := s.vm } : State) locs (cells + 1) (slots + 6) := by
    have h1 : T.sameButNew ({ U with vm := s'.vm } : State) [] (0 + 1) (0 + 6) := by rw [← hs'] at hsame ⊢; exact th_refr hsame
    have h2 := X.same.trans (h1.setVm s.vm)
    rw [List.append_nil] at h2
    exact h2
  refine ⟨U, ?_, .threw H.size, hrun, by rw [← hT]; exact hend, hq U ce hgrow hkept (by rw [← hT]; exact hce) K.vm hcls' hWU, locs, ⟨hWU, hsame2⟩, hf⟩
  refine st1 _ ?_
  show Steps p.tables e below (T1.setTop (F0 m (pc + 3) ls (.ref T.heap.size :: st))) _
  jvm_step X₁.here [X₁.here.top, hexec, hb, hd3, Value.category]
  exact X₁.ldcString hexec (own := own) (text := text) (index := ib) (a := sa) hown' hstr'.1 hstr'.2 (g := F0 m (pc + 4) ls (.ref T.heap.size :: .ref T.heap.size :: st)) rfl (by rw [hb]; exact hd4) _ hsteps
end TH2
