section GN
variable {p : Program} {l : Launch} {e : Env} {R : Room} {s : State} {m : MethodId} {args : Array Value} {below : List Frame} {meth : Method} {c : Code} {H H0 : Heap} {locs : List Loc} {cells slots : Nat} {Q : State → Prop}
variable {pc : Nat} {ls : Array Slot} {rest st0 : List Value} {a : Array Value} {A : Nat → Prop} {mc ms : Nat} {G : va_G} {ct : Nat → ClassId} {ws wc : va_W}
theorem wk_old {w1 : va_W} (hP : va_P G classes ws H) (is : List Nat) (hn : va_nd is = true) (hC : is.map (fun i => ws[i]?) = wc.map some) (ha : w1.map (·.1) = wc.map (·.1)) {k : Nat} {q : Nat × va_E} (hq : (wk_sets ws is w1)[k]? = some q) : q.1 < H.size := by
  have hlen : is.length = w1.length := by
    have e1 := congrArg List.length hC
    have e2 := congrArg List.length ha
    simp at e1 e2
    omega
  have hr : ∀ i ∈ is, i < ws.length := fun i hi => by
    obtain ⟨j, hj⟩ := List.getElem?_of_mem hi
    obtain ⟨x, -, h2⟩ := wk_at hC hj
    exact (List.getElem?_eq_some_iff.mp h2).1
  rcases wk_sets_get is ws w1 hn hlen hr k q hq with ⟨j, b1, b2⟩ | ⟨-, b2⟩
  · obtain ⟨x, h1, h2⟩ := wk_at hC b1
    have h3 : (w1.map (·.1))[j]? = some q.1 := by rw [List.getElem?_map, b2]; rfl
    rw [ha, List.getElem?_map, h1] at h3
    have h4 : x.1 = q.1 := Option.some.inj h3
    rw [← h4]
    exact (hP k x h2).lt
  · exact (hP k q b2).lt
theorem wk_goN {S : Type} {out : Outcome → S → Prop} {w1 w2 : S → va_W} (hr : va_Run p l e R s m args below meth c H locs cells slots mc ms (F0 m pc ls st0) rest (wk_Q out (fun u => w1 u ++ w2 u) G (va_A wc H.size) a) (va_A wc H.size)) (hP : va_P G classes ws H) (hD : va_D A ws) (hS : va_S A H0 H locs) (hA : ∀ q, H0.size ≤ q → A q) (is : List Nat) (hn : va_nd is = true) (hC : is.map (fun i => ws[i]?) = wc.map some) (ha : ∀ u, (w1 u).map (·.1) = wc.map (·.1))
    (kk : ∀ (v : Option Value) (u : S) (H1 : Heap) (locs1 : List Loc), out (.returned v) u → va_P G classes (wk_sets ws is (w1 u) ++ w2 u) H1 → va_D A (wk_sets ws is (w1 u) ++ w2 u) → va_S A H0 H1 locs1 → W p l e R s m args below meth c H1 locs1 (cells + mc) (slots + ms) Q (F0 m (pc + 3) ls (v.toList ++ rest))) : W p l e R s m args below meth c H locs cells slots Q (F0 m pc ls st0) := by
  intro T hT X
  obtain ⟨v, st₀, t, T', L, h0, X', hL, e1, e2, ⟨⟨u, ho, hP1, hD1⟩, hz, hk⟩, st⟩ := hr T hT X
  rw [h0] at hz hk
  have hF := va_free (wc := wc) hD hS hA is hC
  have gl : ∀ (k : Nat) (q : Nat × va_E), (w1 u)[k]? = some q → (w1 u ++ w2 u)[k]? = some q := fun k q hq => by
    rw [List.getElem?_append_left (List.getElem?_eq_some_iff.mp hq).1]; exact hq
  have gr : ∀ (k : Nat) (q : Nat × va_E), (w2 u)[k]? = some q → (w1 u ++ w2 u)[(w1 u).length + k]? = some q := fun k q hq => by
    rw [List.getElem?_append_right (by omega), Nat.add_sub_cancel_left]; exact hq
  obtain ⟨hP2, hD2⟩ := wk_join hP hD is hn hC (ha u) (fun q h1 h2 => hk q h1 h2) (fun k q hq => hP1 k q (gl k q hq))
  have new : ∀ (k : Nat) (q : Nat × va_E), (w2 u)[k]? = some q → H.size ≤ q.1 := fun k q hq => by
    rcases hD1.2 _ q (gr k q hq) with ⟨j, x, hx⟩ | h
    · have h1 : (wc.map (·.1))[j]? = some q.1 := by rw [List.getElem?_map, hx]; rfl
      rw [← ha u, List.getElem?_map] at h1
      cases hw : (w1 u)[j]? with
      | none => rw [hw] at h1; cases h1
      | some y =>
        rw [hw] at h1
        have h2 : y.1 = q.1 := Option.some.inj h1
        have h3 := hD1.1 j _ y q (gl j y hw) (gr k q hq) h2
        have h4 := (List.getElem?_eq_some_iff.mp hw).1
        omega
    · exact h
  have hspl : ∀ (k : Nat) (q : Nat × va_E), (wk_sets ws is (w1 u) ++ w2 u)[k]? = some q → (wk_sets ws is (w1 u))[k]? = some q ∨ ∃ j, k = (wk_sets ws is (w1 u)).length + j ∧ (w2 u)[j]? = some q := fun k q hq => by
    by_cases h : k < (wk_sets ws is (w1 u)).length
    · rw [List.getElem?_append_left h] at hq
      exact Or.inl hq
    · rw [List.getElem?_append_right (by omega)] at hq
      exact Or.inr ⟨k - (wk_sets ws is (w1 u)).length, by omega, hq⟩
  obtain ⟨t2, a1, b1⟩ := kk v u t.heap (locs ++ L) ho (fun k q hq => by
      rcases hspl k q hq with h | ⟨j, -, h⟩
      · exact hP2 k q h
      · exact hP1 _ q (gr j q h))
    ⟨fun i j x y hx hy hxy => by
      rcases hspl i x hx with h1 | ⟨i', e1, h1⟩ <;> rcases hspl j y hy with h2 | ⟨j', e2, h2⟩
      · exact hD2.1 i j x y h1 h2 hxy
      · have q1 := wk_old hP is hn hC (ha u) h1
        have q2 := new j' y h2
        omega
      · have q1 := wk_old hP is hn hC (ha u) h2
        have q2 := new i' x h1
        omega
      · have q1 := hD1.1 _ _ x y (gr i' x h1) (gr j' y h2) hxy
        omega, fun k q hq => by
      rcases hspl k q hq with h | ⟨j, -, h⟩
      · exact hD2.2 k q h
      · exact hA _ (Nat.le_trans hS.1 (new j q h))⟩
    ⟨Nat.le_trans hS.1 hz, fun q h1 h2 => by rw [hk q (Nat.lt_of_lt_of_le h1 hS.1) (fun z => h2 (hF q z))]; exact hS.2.1 q h1 h2, fun q hq => by
    rcases List.mem_append.mp hq with h | h
    · exact hS.2.2 q h
    · exact hF _ (hL q h)⟩ T' e1 X'
  exact ⟨t2, st t2 a1, b1⟩
theorem wk_iN {S : Type} {val : S → Int32} {ok : S → Prop} {w1 w2 : S → va_W} (hr : va_Run p l e R s m args below meth c H locs cells slots mc ms (F0 m pc ls st0) rest (wk_Q (wk_oi val ok) (fun u => w1 u ++ w2 u) G (va_A wc H.size) a) (va_A wc H.size)) (hP : va_P G classes ws H) (hD : va_D A ws) (hS : va_S A H0 H locs) (hA : ∀ q, H0.size ≤ q → A q) (is : List Nat) (hn : va_nd is = true) (hC : is.map (fun i => ws[i]?) = wc.map some) (ha : ∀ u, (w1 u).map (·.1) = wc.map (·.1))
    (kk : ∀ (u : S) (H1 : Heap) (locs1 : List Loc), ok u → va_P G classes (wk_sets ws is (w1 u) ++ w2 u) H1 → va_D A (wk_sets ws is (w1 u) ++ w2 u) → va_S A H0 H1 locs1 → W p l e R s m args below meth c H1 locs1 (cells + mc) (slots + ms) Q (F0 m (pc + 3) ls (.int (val u) :: rest))) : W p l e R s m args below meth c H locs cells slots Q (F0 m pc ls st0) :=
  wk_goN hr hP hD hS hA is hn hC ha (fun v u H1 locs1 ho h1 h2 h3 => by
    obtain ⟨hv, hok⟩ := ho
    cases hv
    exact kk u H1 locs1 hok h1 h2 h3)
end GN
abbrev tb_wH (y : MethodName) (b : ByteArray) (n : Nat) (r : Option FieldType) (hs : List (Nat × Nat × Nat × Nat)) : List Cond := Cond.codeWith y b n r hs :: gt_tbl
def sh_W (R : Room) (s : State) (args : Array Value) (own : String) (index : Nat) (y : MethodName) (bytes : ByteArray) (maxL : Nat) (ret : Option FieldType) (hs : List (Nat × Nat × Nat × Nat)) (rm : Room) (mc ms n : Nat) : Prop :=
  (∀ w ∈ gt_tbl, w.before args s = true) ∧ Cond.codeWith y bytes maxL ret hs ∈ gt_tbl ∧ Cond.initialized y.cls ∈ gt_tbl ∧ (y.cls ≠ "java/lang/invoke/MethodHandle" ∧ y.cls ≠ "java/lang/invoke/VarHandle") ∧ (parseMethodDescriptor y.desc).map (fun d => d.parameters.length) = some n ∧
    Cond.methodLink own index y ∈ gt_tbl ∧ Cond.static y ∈ gt_tbl ∧ rm.cells = mc ∧ rm.slots = ms ∧ rm.frames + 1 ≤ R.frames ∧ 8 + (maxL + 11) + rm.locals ≤ R.locals
section TH3
variable {p : Program} {l : Launch} {e : Env} {R : Room} {s : State} {m : MethodId} {args : Array Value} {below : List Frame} {meth : Method} {c : Code} {H : Heap} {locs : List Loc} {cells slots : Nat} {Q : State → Prop}
theorem tm_ofHT {y : MethodName} {ws ws' : List Cond} {rm : Room} {Pc : Array Value → State → Prop} {Qc : Array Value → State → Outcome → State → Prop} {mc ms : Nat} {free : Addr → Prop} {cc : ByteArray} {maxL : Nat} {ret : Option FieldType} {hs : List (Nat × Nat × Nat × Nat)}
    (hy : plainName y.cls = true) (hw : ws = Cond.codeWith y cc maxL ret hs :: ws')
    (body : ∀ p e s m args below meth c s₁, BodyLoose p l y (headSpec ws rm) cc maxL ret e s m args below meth c s₁ → c.maxLocals = maxL → c.exceptionTable.toList.map (fun h => (h.startPc, h.endPc, h.handlerPc, h.catchType)) = hs → Pc args s →
      W p l e (headSpec ws rm).room s m args below meth c s.heap [] 0 0 (tm_Q below Qc args s mc ms free) (entryFrame m args maxL)) : tm_Met l y ws rm Pc Qc mc ms free := by
  refine MetFree.of_bodyS (code := cc) (maxLocals := maxL) (ret := ret) hy ?_ ?_
  · intro args s m h hn
    obtain ⟨m', meth, c, hn', h1, h2, h3, h4, -, h5, h6, -⟩ := Cond.codeWith_spec (atoms_spec (ws := ws) h _ (by rw [hw]; exact List.mem_cons_self))
    cases hn.symm.trans hn'
    exact ⟨meth, c, h1, h2, h3, h4, h5, h6⟩
  · intro p e s m args below meth c s₁ B hml hP _
    have hh0 : s₁.heap = s.heap := by rw [B.state]; rfl
    obtain ⟨m', meth', c', hn', h1, h2, h3, h4, htab, h5, h6, -⟩ := Cond.codeWith_spec (atoms_spec (ws := ws) B.pre _ (by rw [hw]; exact List.mem_cons_self))
    cases B.named.symm.trans hn'
    cases B.method.symm.trans h1
    cases (Stand.of_body B).code.symm.trans h2
    obtain ⟨t, a1, o, b1, b2, b3⟩ := body p e s m args below meth c s₁ B hml htab hP s₁ hh0 (Stand.of_body B)
    exact ⟨t, o, a1, b1, b2, ⟨b3.1, b3.2⟩⟩
theorem tm_backH {y : MethodName} {ws : List Cond} {rm : Room} {Pc : Array Value → State → Prop} {Qc : Array Value → State → Outcome → State → Prop} {mc ms : Nat} {free : Addr → Prop} {bytes : ByteArray} {maxL len : Nat} {ret : Option FieldType} {hs : List (Nat × Nat × Nat × Nat)}
    (hM : tm_Met l y ws rm Pc Qc mc ms free) (hblind : FrameBlind Pc) (hrc : rm.cells = mc) (hrs : rm.slots = ms)
    (hframes : rm.frames + 1 ≤ R.frames) (hlocals : 8 + (maxL + 11) + rm.locals ≤ R.locals)
    (hws : ∀ w ∈ ws, ∀ (a' : Array Value) (U : State), s.WarmedH U.vm → w.before a' U = true) (hcode : Cond.codeWith y bytes maxL ret hs ∈ ws) (hinit : ∀ (a' : Array Value) (U : State), s.WarmedH U.vm → (Cond.initialized y.cls).before a' U = true)
    {U : State} {a : Array Value} {g : JFrame} {ig : Instr} {mk : MethodId} (X : Stand p l e R s m args below meth c U locs cells slots) (hg : g.method = m) (hsize : g.locals.size = c.maxLocals) (hdg : decode c.code g.pc = .ok (ig, len))
    (hW : 2 * g.monitorRoom + (g.stack.map fun v => v.category).sum ≤ 8) (hn : U.methodNamed? y = some mk) (hc1 : cells + mc ≤ R.cells) (hc2 : slots + ms ≤ R.slots) (hp : Pc a U) (hret : ∀ a st o t, Qc a st o t → ∃ v, o = .returned v) :
    ∃ (v : Option Value) (t B : State) (L : List Loc), Stand p l e R s m args below meth c B (locs ++ L) (cells + mc) (slots + ms) ∧ (∀ q ∈ L, free q.base) ∧ B.heap = t.heap ∧ B.vm = t.vm ∧ Qc a (U.calling g mk a) (.returned v) t ∧
      Steps p.tables e below (doInvoke e (U.setTop g) [] mk a).1 (B.setTop { g with pc := g.pc + len, stack := v.toList ++ g.stack }) := by
  have h1 : (headSpec ws rm).pre.before a U = true := atoms_intro fun w hw => hws w hw _ _ X.warmed
  have h2 : (Cond.codeWith y bytes maxL ret hs).before a U = true := hws _ hcode _ _ X.warmed
  have h3 : (Cond.initialized y.cls).before a U = true := hinit _ _ X.warmed
  obtain ⟨mY, methY, cY, hnY, hmY, hcY, -, hlY, -, -, -, -⟩ := Cond.codeWith_spec h2
  cases hn.symm.trans hnY
  obtain ⟨kY, hkY, -⟩ := className_of_methodNamed hn
  have hinitY : kY.init = .initialized := Cond.initialized_spec (findClass_of_methodNamed hn) hkY h3
  have h : At U g.method c below := by rw [hg]; exact X.here
  have happ : (headSpec ws rm).appliesLoose y e.platform (U.calling g mk a) = true :=
    Spec.appliesLoose_calling (g := g) h hdg hn hkY hinitY
      (X.room_calling (g := g) (R' := (headSpec ws rm).room) hsize hmY hcY hframes (by rw [hlY]; show 2 * g.monitorRoom + _ + _ + rm.locals ≤ _; omega) (by rw [show (headSpec ws rm).room.cells = mc from hrc]; exact hc1) (by rw [show (headSpec ws rm).room.slots = ms from hrs]; exact hc2)) h1
  obtain ⟨mid, hmid⟩ := h.above
  have hfr : (U.setTop g).frames = (.java g :: mid) ++ below := by rw [State.frames_setTop' g h.top, hmid]; rfl
  obtain ⟨o, s₂, hsteps, -, hend, hq⟩ := Steps.callFree hM p X.admits X.cas X.clock (acts := []) hfr happ (hblind _ _ _ _ hp) trivial
  obtain ⟨hq', L, ⟨hW₂, e2, q2, q3, q4, q5, q6⟩, hL⟩ := (show Qc a (U.calling g mk a) o s₂ ∧ ∃ L, tm_E (U.calling g mk a) s₂ L mc ms ∧ ∀ q ∈ L, free q.base from hq)
  rw [State.frames_setTop' g h.top] at hend
  obtain ⟨v, hv⟩ := hret _ _ _ _ hq'
  subst hv
  have e3 : s₂ = ({ (U.calling g mk a).setFrames s₂.frames with heap := s₂.heap, slotsUsed := s₂.slotsUsed } : State).setVm s₂.vm := by
    have : s₂ = ({ s₂ with vm := (U.calling g mk a).vm } : State).setVm s₂.vm := rfl
    rw [e2] at this
    exact this
  have hW' : U.WarmedH s₂.vm := hW₂
  obtain ⟨g₀, hg0⟩ := Option.isSome_iff_exists.mp h.top
  obtain ⟨r, hr⟩ := State.topJava?_eq_some.mp hg0
  have hr' : (({ U with heap := s₂.heap, slotsUsed := s₂.slotsUsed } : State).setVm s₂.vm).frames = .java g₀ :: r := hr
  have hsame : U.sameButNew ({ U with heap := s₂.heap, slotsUsed := s₂.slotsUsed } : State) L mc ms := by
    refine ⟨?_, q2, q3, q4, q5, q6⟩
    obtain ⟨t, ht, -⟩ := State.frames_cons hr
    show ({ U with heap := s₂.heap, slotsUsed := s₂.slotsUsed } : State) = { U.setFrames U.frames with heap := s₂.heap, slotsUsed := s₂.slotsUsed }
    rw [State.setFrames_self ht]
  subst hg
  refine ⟨v, s₂, ({ U with heap := s₂.heap, slotsUsed := s₂.slotsUsed } : State).setVm s₂.vm, L,
    ⟨X.admits, X.cas, X.clock, X.frames, X.room, X.hears, X.method, X.code, (X.here.setHeapUsed s₂.heap s₂.slotsUsed).setVm hW'.alike, X.tail, State.WarmedH.trans X.warmed hW', X.limits, X.bytes, X.same.trans (hsame.setVm s.vm)⟩,
    hL, rfl, rfl, hq', ?_⟩
  obtain ⟨c₂, i₂, len₂, hc₂, hd₂, hf₂⟩ := hend
  have hcc : c₂ = c := by
    have h1 : s₂.code? g.method = U.code? g.method := by
      rw [State.code?_eq, State.code?_eq, hW'.alike.method?]
    exact Option.some.inj (hc₂.symm.trans (h1.trans h.code))
  subst hcc
  have hlen : len₂ = len := by rw [hdg] at hd₂; cases hd₂; rfl
  subst hlen
  have hs₂ : s₂ = (({ U with heap := s₂.heap, slotsUsed := s₂.slotsUsed } : State).setVm s₂.vm).setTop { g with pc := g.pc + len₂, stack := v.toList ++ g.stack } := by
    refine e3.trans ?_
    rw [hf₂, State.calling_eq h.top, State.setFrames_setFrames, State.setTop_of_frames _ hr', hr]
    rfl
  rw [← hs₂]
  exact hsteps
theorem sh_run {y : MethodName} {bytes cc : ByteArray} {maxL nL mc ms n index : Nat} {ret : Option FieldType} {rm : Room} {Pc : Array Value → State → Prop} {Qc : Array Value → State → Outcome → State → Prop} {free : Addr → Prop} {Ts : List Cond} {own : String} {As rest : List Value} {hs : List (Nat × Nat × Nat × Nat)} {pc : Nat} {ls : Array Slot} {st0 : List Value}
    (S : CallFix p m c cc nL s args Ts own) (hM : tm_Met l y (tb_wH y bytes maxL ret hs) rm Pc Qc mc ms free) (hret : ∀ a st o t, Qc a st o t → ∃ v, o = .returned v) (cw : sh_W R s args own index y bytes maxL ret hs rm mc ms n) (hp : PreS s H Pc As)
    (hn : As.length = n) (hsize : ls.size = nL) (hstack : st0 = As.reverse ++ rest) (hW : 2 * (F0 m pc ls rest).monitorRoom + (rest.map fun v => v.category).sum ≤ 8) (hdg : decode cc pc = .ok (.invokestatic index, 3)) (hf : cells + mc ≤ R.cells ∧ slots + ms ≤ R.slots) :
    va_Run p l e R s m args below meth c H locs cells slots mc ms (F0 m pc ls st0) rest (Qc As.toArray) free := by
  obtain ⟨hw, hcode, hini, hy, hpar, hl, hst, hrc, hrs, hfr, hlo⟩ := cw
  obtain ⟨hexec, hb, hml, hown, -⟩ := S
  obtain ⟨hbl, hPc⟩ := hp
  subst hstack
  intro T hT X
  obtain ⟨mk, methM, cM, hnamed, hmethM, -, -, -, -, -, -, hsigM⟩ := Cond.codeWith_spec (hw _ hcode)
  have hstatic : methM.isStatic = true := Cond.static_spec hnamed hmethM (hw _ hst)
  obtain ⟨kP, hkP, -⟩ := className_of_methodNamed hnamed
  have hinitP : kP.init = .initialized := Cond.initialized_spec (findClass_of_methodNamed hnamed) hkP (hw _ hini)
  have hlen : As.length = methM.sig.parameters.length := by
    rw [hsigM] at hpar
    exact hn.trans (Option.some.inj hpar).symm
  have hdg' : decode c.code (F0 m pc ls (As.reverse ++ rest)).pc = .ok (.invokestatic index, 3) := by rw [hb]; exact hdg
  obtain ⟨vm₁, X₁, hstep₁⟩ := X.invokestatic hexec hown (hw _ hl) hnamed hmethM hstatic hkP hinitP hy (g := F0 m pc ls (As.reverse ++ rest)) rfl (argsL := As) (rest := rest) hlen rfl hdg'
  have hws : ∀ w ∈ tb_wH y bytes maxL ret hs, ∀ (a' : Array Value) (U : State), s.WarmedH U.vm → w.before a' U = true := fun w hq a' U hU => by
    rcases List.mem_cons.mp hq with rfl | hq
    · exact word_at hU (good_of_word (List.mem_filter.mp hcode).2) (hw _ hcode)
    · exact word_at hU (good_of_word (List.mem_filter.mp hq).2) (hw _ hq)
  obtain ⟨v, t, B, L, X2, hL, e1, e2, hq, hsteps⟩ := tm_backH (len := 3) (a := As.toArray) (g := F0 m pc ls rest) (mk := mk) hM hbl hrc hrs hfr hlo hws List.mem_cons_self (fun a' U hU => word_at hU (good_of_word (List.mem_filter.mp hini).2) (hw _ hini)) X₁ rfl (hsize.trans hml.symm) hdg' hW (X₁.named hnamed) hf.1 hf.2 (hPc _ hT X₁.warmed) hret
  exact ⟨v, (T.setVm vm₁).calling (F0 m pc ls rest) mk As.toArray, t, B, L, hT, X2, hL, e1, e2, hq, fun target h => hstep₁ _ fun acts => by rw [doInvoke_state]; exact hsteps.trans h⟩
end TH3
def nc_A (U : State) : Prop := va_Nc "java/lang/IllegalStateException" "java/lang/IllegalArgumentException" U ∧ va_Nc "java/lang/IllegalStateException" "java/util/NoSuchElementException" U ∧ va_Nc "java/lang/IllegalArgumentException" "java/util/NoSuchElementException" U ∧ va_Nc "java/lang/IllegalArgumentException" "java/lang/IllegalStateException" U ∧
  va_Nc "java/lang/UnsupportedOperationException" "java/util/NoSuchElementException" U ∧ va_Nc "java/lang/UnsupportedOperationException" "java/lang/IllegalStateException" U ∧ va_Nc "java/lang/UnsupportedOperationException" "java/lang/IllegalArgumentException" U
theorem nc_A.moved {u U : State} (h : u.vm.Alike U.vm) (q : nc_A u) : nc_A U := ⟨q.1.moved h, q.2.1.moved h, q.2.2.1.moved h, q.2.2.2.1.moved h, q.2.2.2.2.1.moved h, q.2.2.2.2.2.1.moved h, q.2.2.2.2.2.2.moved h⟩
def wk_P5 (av : List Value) (G : va_G) (ct : Nat → ClassId) (ws : va_W) (sz : Nat) : Array Value → State → Prop := fun a U => wk_P4 av G ct ws sz a U ∧ nc_A U
theorem wk_blind5 {av : List Value} {G : va_G} {ct : Nat → ClassId} {ws : va_W} {sz : Nat} : FrameBlind (wk_P5 av G ct ws sz) := fun a U g mk q => ⟨wk_blind4 a U g mk q.1, nc_A.moved (u := U) (U := U.calling g mk a) (Vm.Alike.refl U.vm) q.2⟩
theorem wk_pre5 {s : State} {H : Heap} {locs : List Loc} {G : va_G} {ct : Nat → ClassId} {ws wc : va_W} {A : Nat → Prop} {av : List Value} (hP : va_P G classes wc H) (hK : kk_K G ct s) (hDc : va_D A wc) (hD : va_D A ws) (hS : va_S A s.heap H locs) (hA : ∀ q, s.heap.size ≤ q → A q) (is : List Nat) (hC : is.map (fun i => ws[i]?) = wc.map some) (hz : st_A A s.vm s.heap) (hR : st_R s) (hN : nc_A s) : PreS s H (wk_P5 av G ct wc H.size) av :=
  ⟨wk_blind5, fun U hU hW => ⟨(wk_pre4 hP hK hDc (fun w hw => ((hz w hw).kept hS.2.1).narrow (va_free hD hS hA is hC)) hR).2 U hU hW, hN.moved hW.alike⟩⟩
section CX
variable {p : Program} {l : Launch} {e : Env} {R : Room} {s : State} {m : MethodId} {args : Array Value} {below : List Frame} {meth : Method} {c : Code} {H : Heap} {locs : List Loc} {cells slots : Nat} {Q : State → Prop}
theorem wk_catch {Ts wsY : List Cond} {cc bytes : ByteArray} {nL maxL index n : Nat} {own C X : String} {y : MethodName} {ret : Option FieldType} {rm : Room} {b : Addr} {As rest : List Value} {pc : Nat} {ls : Array Slot} {st0 : List Value} {G : va_G} {ct : Nat → ClassId} {ws wc w1 : va_W} {A : Nat → Prop}
    (S : CallFix p m c cc nL s args Ts own) (hM : tm_Met l y wsY rm (wk_P4 (.ref b :: As) G ct wc H.size) (wk_T X w1 G (va_A wc H.size)) 1 6 (va_A wc H.size)) (cw : CallW R s args own C index y bytes maxL ret wsY rm 1 6 n) (hp : PreV s H C b (wk_P4 (.ref b :: As) G ct wc H.size) As)
    (hn : As.length = n) (hsize : ls.size = nL) (hstack : st0 = As.reverse ++ .ref b :: rest) (hW : 2 * (F0 m pc ls rest).monitorRoom + (rest.map fun v => v.category).sum ≤ 8) (hdg : decode cc pc = .ok (.invokevirtual index, 3)) (hf : cells + 1 ≤ R.cells ∧ slots + 6 ≤ R.slots)
    (hP : va_P G classes ws H) (hD : va_D A ws) (hS : va_S A s.heap H locs) (hA : ∀ q, s.heap.size ≤ q → A q) (is : List Nat) (hnd : va_nd is = true) (hC : is.map (fun i => ws[i]?) = wc.map some) (ha : w1.map (·.1) = wc.map (·.1))
    (hown : s.vm.findClass own = some m.cls) (pre : List ExceptionTableEntry) (yy : ExceptionTableEntry) (post : List ExceptionTableEntry) (htab : c.exceptionTable.toList = pre ++ yy :: post)
    (hpre : ∀ z ∈ pre, covers z pc = true ∧ z.catchType ≠ 0 ∧ ∃ N, (Cond.classLink own z.catchType N).before args s = true ∧ va_Nc X N s) (hy : covers yy pc = true) (hy0 : yy.catchType ≠ 0)
    (hlink : (Cond.classLink own yy.catchType X).before args s = true) (hself : va_Nw (.castable X X) s)
    (kk : ∀ (x : Nat) (H1 : Heap) (locs1 : List Loc), va_P G classes (wk_sets ws is w1) H1 → va_D A (wk_sets ws is w1) → va_S A s.heap H1 locs1 → W p l e R s m args below meth c H1 locs1 (cells + 1) (slots + 6) Q (F0 m yy.handlerPc ls [.ref x])) :
    W p l e R s m args below meth c H locs cells slots Q (F0 m pc ls st0) := by
  refine tm_callV S hM cw hp hn hsize hstack hW hdg hf (fun v st₀ t L h0 hal hL hq => ?_) (fun x st₀ t L h0 hal hL hq => ?_)
  · obtain ⟨⟨q, ce, h, _⟩, _⟩ := hq
    cases h
  · obtain ⟨⟨q, ce, hx, h1, h2, h3, h4, hP1, hD1⟩, hz, hk⟩ := hq
    cases hx
    rw [h0] at h4 hz hk
    have hF := va_free (wc := wc) hD hS hA is hC
    obtain ⟨hP2, hD2⟩ := wk_join hP hD is hnd hC ha (fun q a1 a2 => hk q a1 a2) hP1
    refine ct_catch hown h1 (by rw [h2]; rfl) (by rw [← hal.findClass]; exact h3) pre yy post htab hpre hy hy0 hlink hself (kk x t.heap (locs ++ L) hP2 hD2 ⟨Nat.le_trans hS.1 hz, fun q a1 a2 => ?_, fun q hq => ?_⟩)
    · rw [hk q (Nat.lt_of_lt_of_le a1 hS.1) (fun z => a2 (hF q z))]
      exact hS.2.1 q a1 a2
    · rcases List.mem_append.mp hq with h | h
      · exact hS.2.2 q h
      · exact hF _ (hL q h)
end CX
theorem hc_c {α : Type} {P : α → Prop} {w : α} {B : List α} (h : P w) (t : ∀ x ∈ B, P x) : ∀ x ∈ w :: B, P x := fun x hx => (List.mem_cons.mp hx).elim (fun e => e ▸ h) (t x)
