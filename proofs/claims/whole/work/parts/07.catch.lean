def ct_G (e : Env) (f : JFrame) (a : Addr) (rows : List ExceptionTableEntry) (S : State) (pc : Nat) (vm : Vm) : Prop :=
  ∀ (Q : Handler → Pre) (E : CtlPost) (d : Bool) (acts : List Action), wp (findHandler.go f a rows) Q E e d acts S ↔ Q (.found pc) d acts (S.setVm vm)
theorem ct_al {u v : Vm} {j : ClassId} (h : u.Alike v) (q : ∃ z, u.classes[j]? = some z) : ∃ z, v.classes[j]? = some z :=
  q.elim fun z hz => (h.2.2 j z hz).elim fun z2 hz2 => ⟨z2, hz2.1⟩
theorem ct_warm {s₀ : State} {pl : Platform} {vm : Vm} {c k : ClassId} {i : Nat} (warm : s₀.WarmedH vm) (link : s₀.vm.ClassLinks pl c i k) : s₀.WarmedH (vm.noted c i (.cls k)) ∧ ∃ z, s₀.vm.classes[k]? = some z := by
  obtain ⟨_, _, _, z, known, _, _, _, _, at_k, _, free⟩ := link.here
  exact ⟨warm.noted known free (State.rightAt_cls link), z, at_k⟩
section CT
variable {e : Env} {S s₀ : State} {f : JFrame} {a : Addr} {cell : Cell} {x : ExceptionTableEntry} {t : List ExceptionTableEntry} {k : ClassId}
theorem ct_row {Q : Handler → Pre} {E : CtlPost} {d : Bool} {acts : List Action} (cov : covers x f.pc = true) (named : x.catchType ≠ 0) (link : S.vm.ClassLinks e.platform f.method.cls x.catchType k) (obj : S.heap[a]? = some cell) (plain : ∀ z, cell.vm ≠ .statics z) (own : ∃ z, S.vm.classes[cell.cls]? = some z) (tgt : ∃ z, S.vm.classes[k]? = some z) :
    wp (findHandler.go f a (x :: t)) Q E e d acts S ↔ (bif S.vm.assignable cell.cls k then Q (.found x.handlerPc) d acts (S.setVm (S.vm.noted f.method.cls x.catchType (.cls k))) else wp (findHandler.go f a t) Q E e d acts (S.setVm (S.vm.noted f.method.cls x.catchType (.cls k)))) := by
  have like : S.vm.Alike (S.vm.noted f.method.cls x.catchType (.cls k)) := (Vm.Alike.refl S.vm).noted _ _ _
  have look := (resolveClass_links e.toSetting link).op (op := VmOp.resolveClass f.method.cls x.catchType) rfl
  rcases ct_al like own with ⟨z1, d1⟩
  rcases ct_al like tgt with ⟨z2, d2⟩
  have fit := like.assignable cell.cls k
  unfold covers at cov
  cases v : S.vm.assignable cell.cls k <;> simp [findHandler.go, cov, named, look.1, look.2, obj, plain, d1, d2, fit, v, VmOp.dirties, VmOp.acts]
theorem ct_hit (cov : covers x f.pc = true) (named : x.catchType ≠ 0) (link : S.vm.ClassLinks e.platform f.method.cls x.catchType k) (obj : S.heap[a]? = some cell) (plain : ∀ z, cell.vm ≠ .statics z) (own : ∃ z, S.vm.classes[cell.cls]? = some z) (tgt : ∃ z, S.vm.classes[k]? = some z) (take : S.vm.assignable cell.cls k = true) :
    ct_G e f a (x :: t) S x.handlerPc (S.vm.noted f.method.cls x.catchType (.cls k)) := fun Q E d acts => by
  rw [ct_row cov named link obj plain own tgt, take]
  exact Iff.rfl
theorem ct_miss {pc : Nat} {vm : Vm} (cov : covers x f.pc = true) (named : x.catchType ≠ 0) (link : S.vm.ClassLinks e.platform f.method.cls x.catchType k) (obj : S.heap[a]? = some cell) (plain : ∀ z, cell.vm ≠ .statics z) (own : ∃ z, S.vm.classes[cell.cls]? = some z) (tgt : ∃ z, S.vm.classes[k]? = some z) (leave : S.vm.assignable cell.cls k = false)
    (g : ct_G e f a t (S.setVm (S.vm.noted f.method.cls x.catchType (.cls k))) pc vm) : ct_G e f a (x :: t) S pc vm := fun Q E d acts => by
  rw [ct_row cov named link obj plain own tgt, leave]
  exact g Q E d acts
theorem ct_walk (plain : ∀ z, cell.vm ≠ .statics z) (own : ∃ z, s₀.vm.classes[cell.cls]? = some z) (cov : covers x f.pc = true) (named : x.catchType ≠ 0) (link : s₀.vm.ClassLinks e.platform f.method.cls x.catchType k) (take : s₀.vm.assignable cell.cls k = true) :
    ∀ (pre : List ExceptionTableEntry) (S : State), s₀.WarmedH S.vm → S.heap[a]? = some cell → (∀ z ∈ pre, covers z f.pc = true ∧ z.catchType ≠ 0 ∧ ∃ kz, s₀.vm.ClassLinks e.platform f.method.cls z.catchType kz ∧ s₀.vm.assignable cell.cls kz = false) → ∃ vm, s₀.WarmedH vm ∧ ct_G e f a (pre ++ x :: t) S x.handlerPc vm
  | [], S, warm, obj, _ => by
    obtain ⟨w2, c2⟩ := ct_warm warm link
    exact ⟨_, w2, ct_hit cov named (warm.classLinks link) obj plain (ct_al warm.alike own) (ct_al warm.alike c2) (by rw [warm.alike.assignable]; exact take)⟩
  | z :: zs, S, warm, obj, ok => by
    obtain ⟨zc, za, kz, zl, zn⟩ := ok z List.mem_cons_self
    obtain ⟨w2, c2⟩ := ct_warm warm zl
    obtain ⟨vm, w3, g⟩ := ct_walk plain own cov named link take zs (S.setVm (S.vm.noted f.method.cls z.catchType (.cls kz))) w2 obj (fun q hq => ok q (List.mem_cons_of_mem _ hq))
    exact ⟨vm, w3, ct_miss zc za (warm.classLinks zl) obj plain (ct_al warm.alike own) (ct_al warm.alike c2) (by rw [warm.alike.assignable]; exact zn) g⟩
theorem ct_step {tb : Tables} {target : State} {g : JFrame} {c : Code} {below : List Frame} (h : At S g.method c below) {pc : Nat} {vm' : Vm}
    (hfind : ∀ (Q : Handler → Pre) (E : CtlPost) (d : Bool) (acts : List Action), wp (findHandler g a) Q E e d acts ((S.setTop g).pushFrame (.throwing a)) ↔ Q (.found pc) d acts (((S.setTop g).pushFrame (.throwing a)).setVm vm'))
    (hrest : Steps tb e below ((S.setVm vm').setTop { g with pc := pc, stack := [.ref a] }) target) : Steps tb e below ((S.setTop g).pushFrame (.throwing a)) target := by
  obtain ⟨hgo, hw⟩ := h.throwing a
  refine Steps.head hgo hw ?_
  obtain ⟨g₀, hg⟩ := Option.isSome_iff_exists.mp h.top
  obtain ⟨r, hr⟩ := State.topJava?_eq_some.mp hg
  have key : (stepThrowing e ((S.setTop g).pushFrame (.throwing a)) a (.java g :: S.frames.tail)).1 = (((S.setTop g).pushFrame (.throwing a)).setVm vm').setFrames (.java { g with pc := pc, stack := [.ref a] } :: S.frames.tail) := by
    simp only [stepThrowing, searchFrame, vmDo]
    generalize hres : Sem.go _ e false [] ((S.setTop g).pushFrame (.throwing a)) = res
    obtain ⟨as, rfl, _⟩ := Sem.eq_ok_of hres (a := Handler.found pc) (s' := ((S.setTop g).pushFrame (.throwing a)).setVm vm') (acts' := []) (by simp [hfind _ _ _ _])
    rfl
  rw [stepThread_throwing (frames_entered h.top _), key]
  have hr' : (S.setVm vm').frames = .java g₀ :: r := hr
  rw [State.setTop_of_frames _ hr'] at hrest
  have e1 : (((S.setTop g).pushFrame (.throwing a)).setVm vm').setFrames (.java { g with pc := pc, stack := [.ref a] } :: S.frames.tail) = (S.setVm vm').setFrames (.java { g with pc := pc, stack := [.ref a] } :: r) := by
    have e2 : ((S.setTop g).pushFrame (.throwing a)).setVm vm' = (S.setVm vm').setFrames (.throwing a :: .java g :: r) := by
      rw [State.pushFrame, State.frames_setTop _ hr, State.setTop_of_frames _ hr, State.setFrames_setFrames]
      rfl
    rw [e2, State.setFrames_setFrames, hr]
    rfl
  rw [e1]
  exact hrest
end CT
theorem ct_tab {l : List ExceptionTableEntry} {hs : List (Nat × Nat × Nat × Nat)} (h : l.map (fun h => (h.startPc, h.endPc, h.handlerPc, h.catchType)) = hs) : l = hs.map (fun q => (⟨q.1, q.2.1, q.2.2.1, q.2.2.2⟩ : ExceptionTableEntry)) := by
  subst h
  rw [List.map_map]
  exact (List.map_id l).symm.trans (List.map_congr_left (fun x _ => rfl))
section CW
variable {p : Program} {l : Launch} {e : Env} {R : Room} {s : State} {m : MethodId} {args : Array Value} {below : List Frame} {meth : Method} {c : Code} {H : Heap} {locs : List Loc} {cells slots : Nat} {Q : State → Prop}
theorem ct_catch {own X : String} {pc : Nat} {ls : Array Slot} {st : List Value} {x : Addr} {cell : Cell} (hown : s.vm.findClass own = some m.cls) (hcell : H[x]? = some cell) (hobj : cell.vm.isStatics = false) (hX : s.vm.findClass X = some cell.cls)
    (pre : List ExceptionTableEntry) (y : ExceptionTableEntry) (post : List ExceptionTableEntry) (htab : c.exceptionTable.toList = pre ++ y :: post)
    (hpre : ∀ z ∈ pre, covers z pc = true ∧ z.catchType ≠ 0 ∧ ∃ N, (Cond.classLink own z.catchType N).before args s = true ∧ va_Nc X N s) (hy : covers y pc = true) (hy0 : y.catchType ≠ 0)
    (hlink : (Cond.classLink own y.catchType X).before args s = true) (hself : va_Nw (.castable X X) s)
    (k : W p l e R s m args below meth c H locs cells slots Q (F0 m y.handlerPc ls [.ref x])) : tm_T p l e R s m args below meth c H locs cells slots Q (F0 m pc ls st) x := by
  intro T hT XX
  have hpl : e.platform.magicAccessors = ({} : Platform).magicAccessors := by rw [XX.admits.platform]
  obtain ⟨cy, hcy, hly⟩ := Cond.classLink_spec hown hlink e.platform hpl
  cases hX.symm.trans hcy
  obtain ⟨c0, t0, f1, f2, f3⟩ := Cond.castable_spec (va_Nw.use (A := args) rfl hself)
  cases hX.symm.trans f1
  cases hX.symm.trans f2
  obtain ⟨ks, hks, -⟩ := Vm.findClass_spec hX
  have hob : ∀ z, cell.vm ≠ .statics z := fun z h => by rw [h] at hobj; cases hobj
  obtain ⟨vm', hW', hq⟩ := ct_walk (e := e) (s₀ := s) (f := F0 m pc ls st) (a := x) (cell := cell) (t := post) hob ⟨ks, hks⟩ hy hy0 hly f3 pre ((T.setTop (F0 m pc ls st)).pushFrame (.throwing x)) XX.warmed (by show T.heap[x]? = _; rw [hT]; exact hcell) (fun z hz => by
    obtain ⟨h1, h2, N, h3, c1, c2, g1, g2, g3⟩ := hpre z hz
    obtain ⟨cz, hcz, hlz⟩ := Cond.classLink_spec hown h3 e.platform hpl
    cases g2.symm.trans hcz
    cases hX.symm.trans g1
    exact ⟨h1, h2, _, hlz, g3⟩)
  obtain ⟨t, a1, b1⟩ := k (T.setVm vm') hT (XX.noted hW')
  refine ⟨t, ct_step (S := T) (g := F0 m pc ls st) XX.here (pc := y.handlerPc) (vm' := vm') (fun Q E d acts => ?_) a1, b1⟩
  rw [W.findHandler_eq (meth := meth) (code := c) XX.method' XX.code, htab]
  exact hq Q E d acts
end CW
