section CT
variable {e : Env} {S s₀ : State} {f : JFrame} {a : Addr} {cell : Cell}
theorem ct_one {Q : Handler → Pre} {E : CtlPost} {d : Bool} {acts : List Action} {x : ExceptionTableEntry} {t : List ExceptionTableEntry} {k : ClassId} (hx : covers x f.pc = true) (h0 : x.catchType ≠ 0)
    (hl : S.vm.ClassLinks e.platform f.method.cls x.catchType k) (hcell : S.heap[a]? = some cell) (hobj : ∀ z, cell.vm ≠ .statics z) (hk : ∃ z, S.vm.classes[cell.cls]? = some z) (hc : ∃ z, S.vm.classes[k]? = some z) :
    wp (findHandler.go f a (x :: t)) Q E e d acts S ↔ if S.vm.assignable cell.cls k = true then Q (.found x.handlerPc) d acts (S.setVm (S.vm.noted f.method.cls x.catchType (.cls k)))
      else wp (findHandler.go f a t) Q E e d acts (S.setVm (S.vm.noted f.method.cls x.catchType (.cls k))) := by
  have hal : S.vm.Alike (S.vm.noted f.method.cls x.catchType (.cls k)) := (Vm.Alike.refl S.vm).noted _ _ _
  obtain ⟨ha, ht⟩ := (resolveClass_links e.toSetting hl).op (op := VmOp.resolveClass f.method.cls x.catchType) rfl
  obtain ⟨k1, hk1⟩ := hk
  obtain ⟨k2, hk2⟩ := hc
  obtain ⟨k1', hk1', -⟩ := hal.2.2 _ _ hk1
  obtain ⟨k2', hk2', -⟩ := hal.2.2 _ _ hk2
  have hfit : (S.vm.noted f.method.cls x.catchType (.cls k)).assignable cell.cls k = S.vm.assignable cell.cls k := by rw [hal.assignable]
  simp only [covers] at hx
  cases hv : S.vm.assignable cell.cls k <;>
    simp [findHandler.go, hx, h0, ha, ht, hcell, hobj, hk1', hk2', hfit, hv, VmOp.dirties, VmOp.acts]
theorem ct_find (hobj : ∀ z, cell.vm ≠ .statics z) (hk0 : ∃ z, s₀.vm.classes[cell.cls]? = some z) (y : ExceptionTableEntry) (post : List ExceptionTableEntry) (hy : covers y f.pc = true) (hy0 : y.catchType ≠ 0) {ky : ClassId}
    (hly : s₀.vm.ClassLinks e.platform f.method.cls y.catchType ky) (hay : s₀.vm.assignable cell.cls ky = true) :
    ∀ (pre : List ExceptionTableEntry) (S : State), s₀.WarmedH S.vm → S.heap[a]? = some cell → (∀ z ∈ pre, covers z f.pc = true ∧ z.catchType ≠ 0 ∧ ∃ kz, s₀.vm.ClassLinks e.platform f.method.cls z.catchType kz ∧ s₀.vm.assignable cell.cls kz = false) →
      ∃ vm', s₀.WarmedH vm' ∧ ∀ (Q : Handler → Pre) (E : CtlPost) (d : Bool) (acts : List Action), wp (findHandler.go f a (pre ++ y :: post)) Q E e d acts S ↔ Q (.found y.handlerPc) d acts (S.setVm vm') := by
  obtain ⟨k0, hk0⟩ := hk0
  intro pre
  induction pre with
  | nil =>
    intro S hW hcell _
    obtain ⟨k0', hk0', -⟩ := hW.alike.2.2 _ _ hk0
    obtain ⟨_, _, _, kt, hd, _, _, _, _, hkt, _, hopen⟩ := hly.here
    obtain ⟨kt', hkt', -⟩ := hW.alike.2.2 _ _ hkt
    refine ⟨_, hW.noted hd hopen (State.rightAt_cls hly), fun Q E d acts => ?_⟩
    rw [List.nil_append, ct_one hy hy0 (hW.classLinks hly) hcell hobj ⟨k0', hk0'⟩ ⟨kt', hkt'⟩, if_pos (by rw [hW.alike.assignable]; exact hay)]
  | cons z zs ih =>
    intro S hW hcell hz
    obtain ⟨k0', hk0', -⟩ := hW.alike.2.2 _ _ hk0
    obtain ⟨hzc, hz0, kz, hlz, haz⟩ := hz z List.mem_cons_self
    obtain ⟨_, _, _, kt, hd, _, _, _, _, hkt, _, hopen⟩ := hlz.here
    obtain ⟨kt', hkt', -⟩ := hW.alike.2.2 _ _ hkt
    obtain ⟨vm', hW', hq⟩ := ih (S.setVm (S.vm.noted f.method.cls z.catchType (.cls kz))) (hW.noted hd hopen (State.rightAt_cls hlz)) hcell (fun q hq => hz q (List.mem_cons_of_mem _ hq))
    refine ⟨vm', hW', fun Q E d acts => ?_⟩
    rw [List.cons_append, ct_one hzc hz0 (hW.classLinks hlz) hcell hobj ⟨k0', hk0'⟩ ⟨kt', hkt'⟩, if_neg (by rw [hW.alike.assignable, haz]; decide)]
    exact hq Q E d acts
theorem ct_step {tb : Tables} {target : State} {g : JFrame} {c : Code} {below : List Frame} (h : At S g.method c below) {pc : Nat} {vm' : Vm}
    (hfind : ∀ (Q : Handler → Pre) (E : CtlPost) (d : Bool) (acts : List Action), wp (findHandler g a) Q E e d acts ((S.setTop g).pushFrame (.throwing a)) ↔ Q (.found pc) d acts (((S.setTop g).pushFrame (.throwing a)).setVm vm'))
    (hrest : Steps tb e below ((S.setVm vm').setTop { g with pc := pc, stack := [.ref a] }) target) : Steps tb e below ((S.setTop g).pushFrame (.throwing a)) target := by
  obtain ⟨hgo, hw⟩ := h.throwing a
  refine Steps.head hgo hw ?_
  obtain ⟨g₀, hg⟩ := Option.isSome_iff_exists.mp h.top
  obtain ⟨r, hr⟩ := State.topJava?_eq_some.mp hg
  have key : (stepThrowing e ((S.setTop g).pushFrame (.throwing a)) a (.java g :: S.frames.tail)).1 = (((S.setTop g).pushFrame (.throwing a)).setVm vm').setFrames (.java { g with pc := pc, stack := [.ref a] } :: S.frames.tail) := by
    simp only [stepThrowing, searchFrame, vmDo]
    generalize hres : Sem.go _ e false [] ((S.setTop g).pushFrame (.throwing a)) = res
    obtain ⟨as, rfl, _⟩ := Sem.eq_ok_of hres (a := Handler.found pc) (s' := ((S.setTop g).pushFrame (.throwing a)).setVm vm') (acts' := []) (by simp [hfind _ _ _ _])
    rfl
  rw [stepThread_throwing (frames_entered h.top _), key]
  have hr' : (S.setVm vm').frames = .java g₀ :: r := hr
  rw [State.setTop_of_frames _ hr'] at hrest
  have e1 : (((S.setTop g).pushFrame (.throwing a)).setVm vm').setFrames (.java { g with pc := pc, stack := [.ref a] } :: S.frames.tail) = (S.setVm vm').setFrames (.java { g with pc := pc, stack := [.ref a] } :: r) := by
    have e2 : ((S.setTop g).pushFrame (.throwing a)).setVm vm' = (S.setVm vm').setFrames (.throwing a :: .java g :: r) := by
      rw [State.pushFrame, State.frames_setTop _ hr, State.setTop_of_frames _ hr, State.setFrames_setFrames]
      rfl
    rw [e2, State.setFrames_setFrames, hr]
    rfl
  rw [e1]
  exact hrest
end CT
theorem ct_tab {l : List ExceptionTableEntry} {hs : List (Nat × Nat × Nat × Nat)} (h : l.map (fun h => (h.startPc, h.endPc, h.handlerPc, h.catchType)) = hs) : l = hs.map (fun q => (⟨q.1, q.2.1, q.2.2.1, q.2.2.2⟩ : ExceptionTableEntry)) := by
  subst h
  rw [List.map_map]
  exact (List.map_id l).symm.trans (List.map_congr_left (fun x _ => rfl))
section CW
variable {p : Program} {l : Launch} {e : Env} {R : Room} {s : State} {m : MethodId} {args : Array Value} {below : List Frame} {meth : Method} {c : Code} {H : Heap} {locs : List Loc} {cells slots : Nat} {Q : State → Prop}
theorem ct_catch {own X : String} {pc : Nat} {ls : Array Slot} {st : List Value} {x : Addr} {cell : Cell} (hown : s.vm.findClass own = some m.cls) (hcell : H[x]? = some cell) (hobj : cell.vm.isStatics = false) (hX : s.vm.findClass X = some cell.cls)
    (pre : List ExceptionTableEntry) (y : ExceptionTableEntry) (post : List ExceptionTableEntry) (htab : c.exceptionTable.toList = pre ++ y :: post)
    (hpre : ∀ z ∈ pre, covers z pc = true ∧ z.catchType ≠ 0 ∧ ∃ N, (Cond.classLink own z.catchType N).before args s = true ∧ va_Nc X N s) (hy : covers y pc = true) (hy0 : y.catchType ≠ 0)
    (hlink : (Cond.classLink own y.catchType X).before args s = true) (hself : va_Nw (.castable X X) s)
    (k : W p l e R s m args below meth c H locs cells slots Q (F0 m y.handlerPc ls [.ref x])) : tm_T p l e R s m args below meth c H locs cells slots Q (F0 m pc ls st) x := by
  intro T hT XX
  have hpl : e.platform.magicAccessors = ({} : Platform).magicAccessors := by rw [XX.admits.platform]
  obtain ⟨cy, hcy, hly⟩ := Cond.classLink_spec hown hlink e.platform hpl
  cases hX.symm.trans hcy
  obtain ⟨c0, t0, f1, f2, f3⟩ := Cond.castable_spec (va_Nw.use (A := args) rfl hself)
  cases hX.symm.trans f1
  cases hX.symm.trans f2
  obtain ⟨ks, hks, -⟩ := Vm.findClass_spec hX
  have hob : ∀ z, cell.vm ≠ .statics z := fun z h => by rw [h] at hobj; cases hobj
  obtain ⟨vm', hW', hq⟩ := ct_find (e := e) (s₀ := s) (f := F0 m pc ls st) (a := x) (cell := cell) hob ⟨ks, hks⟩ y post hy hy0 hly f3 pre ((T.setTop (F0 m pc ls st)).pushFrame (.throwing x)) XX.warmed (by show T.heap[x]? = _; rw [hT]; exact hcell) (fun z hz => by
    obtain ⟨h1, h2, N, h3, c1, c2, g1, g2, g3⟩ := hpre z hz
    obtain ⟨cz, hcz, hlz⟩ := Cond.classLink_spec hown h3 e.platform hpl
    cases g2.symm.trans hcz
    cases hX.symm.trans g1
    exact ⟨h1, h2, _, hlz, g3⟩)
  obtain ⟨t, a1, b1⟩ := k (T.setVm vm') hT (XX.noted hW')
  refine ⟨t, ct_step (S := T) (g := F0 m pc ls st) XX.here (pc := y.handlerPc) (vm' := vm') (fun Q E d acts => ?_) a1, b1⟩
  rw [W.findHandler_eq (meth := meth) (code := c) XX.method' XX.code, htab]
  exact hq Q E d acts
end CW
