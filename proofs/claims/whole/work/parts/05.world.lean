def nw_tbl : List Cond := lw_tbl.filter (fun w => w.onTables && w.faceAtom)
def kk_N (U : State) : Prop := ∀ w ∈ nw_tbl, w.before #[] U = true
theorem kk_N.moved {u U : State} (h : u.vm.Alike U.vm) (hN : kk_N u) : kk_N U := fun w hw => by
  have h1 := (List.mem_filter.mp hw).2
  obtain ⟨h2, h3⟩ := Bool.and_eq_true_iff.mp h1
  have h4 := Cond.faceAtom_setVm (args := #[]) (s := u) (vm' := U.vm) h w h3 (hN w hw)
  exact va_tabs h2 (rfl : (u.setVm U.vm).vm = U.vm) h4
theorem kk_N.use {U : State} (hN : kk_N U) {w : Cond} (hw : w ∈ nw_tbl) : va_Nw w U := hN w hw
abbrev kk_ty (ct : Nat → ClassId) : List (ClassId × FieldType) := [(ct 0, .int), (ct 1, .long), (ct 2, .boolean), (ct 3, .object "PakeDesk$User"), (ct 4, .object "PakeDesk$Session")]
def kk_K (G : va_G) (ct : Nat → ClassId) (U : State) : Prop := va_K G classes (kk_ty ct) U ∧ kk_N U
theorem kk_K.moved {G : va_G} {ct : Nat → ClassId} {u U : State} (h : u.vm.Alike U.vm) (hK : kk_K G ct u) : kk_K G ct U := ⟨va_K.moved h hK.1, hK.2.moved h⟩
def wk_P (av : List Value) (G : va_G) (ct : Nat → ClassId) (ws : va_W) (sz : Nat) : Array Value → State → Prop := va_Pc av (fun U => U.heap.size = sz ∧ va_P G classes ws U.heap ∧ kk_K G ct U ∧ va_D (fun _ => True) ws)
theorem wk_blind {av : List Value} {G : va_G} {ct : Nat → ClassId} {ws : va_W} {sz : Nat} : FrameBlind (wk_P av G ct ws sz) := fun a U g mk q =>
  ⟨q.1, q.2.1, q.2.2.1, kk_K.moved (u := U) (U := U.calling g mk a) (Vm.Alike.refl U.vm) q.2.2.2.1, q.2.2.2.2⟩
def wk_Q {S : Type} (out : Outcome → S → Prop) (w' : S → va_W) (G : va_G) (A : Nat → Prop) : Array Value → State → Outcome → State → Prop :=
  fun _ st oc t => (∃ u : S, out oc u ∧ va_P G classes (w' u) t.heap ∧ va_D A (w' u)) ∧ va_F A st t
abbrev wk_oi {S : Type} (val : S → Int32) (ok : S → Prop) : Outcome → S → Prop := fun oc u => oc = .returned (some (.int (val u))) ∧ ok u
abbrev wk_ol {S : Type} (val : S → Int64) (ok : S → Prop) : Outcome → S → Prop := fun oc u => oc = .returned (some (.long (val u))) ∧ ok u
abbrev wk_ov {S : Type} (ok : S → Prop) : Outcome → S → Prop := fun oc u => oc = .returned none ∧ ok u
theorem wk_S {A B : Nat → Prop} {H0 H H1 : Heap} {locs L : List Loc} (hS : va_S A H0 H locs) (hF : ∀ q, B q → A q) (hz : H.size ≤ H1.size) (hk : ∀ q : Nat, q < H.size → ¬ B q → H1[q]? = H[q]?) (hL : ∀ q ∈ L, B q.base) : va_S A H0 H1 (locs ++ L) :=
  ⟨Nat.le_trans hS.1 hz, fun q lt out => (hk q (Nat.lt_of_lt_of_le lt hS.1) (fun z => out (hF q z))).trans (hS.2.1 q lt out), fun q mem => (List.mem_append.mp mem).elim (hS.2.2 q) (fun h => hF _ (hL q h))⟩
section WK
variable {p : Program} {l : Launch} {e : Env} {R : Room} {s : State} {m : MethodId} {args : Array Value} {below : List Frame} {meth : Method} {c : Code} {H H0 : Heap} {locs : List Loc} {cells slots : Nat} {Q : State → Prop}
variable {pc : Nat} {ls : Array Slot} {rest st0 : List Value} {a : Array Value} {A : Nat → Prop} {mc ms : Nat} {G : va_G} {ct : Nat → ClassId} {ws wc : va_W}
theorem wk_pre {av : List Value} (hP : va_P G classes wc H) (hK : kk_K G ct s) (hD : va_D A wc) : PreS s H (wk_P av G ct wc H.size) av :=
  ⟨wk_blind, fun U hU hW => ⟨rfl, by rw [hU], by rw [hU]; exact hP, hK.moved hW.alike, hD.weaken (fun _ _ _ _ => trivial)⟩⟩
theorem wk_preV {As : List Value} {b ci q0 : Nat} {r : vw_C} {fs : List Value} (hP : va_P G classes wc H) (hK : kk_K G ct s) (hD : va_D A wc) (hc : classes[ci]? = some r) (he : wc[q0]? = some (b, .inr (ci, fs))) : PreV s H r.1 b (wk_P (.ref b :: As) G ct wc H.size) As :=
  ⟨wk_blind, va_recv hK.1 hP hc he, (wk_pre hP hK hD).2⟩
theorem wk_go {S : Type} {out : Outcome → S → Prop} {w' : S → va_W} (hr : va_Run p l e R s m args below meth c H locs cells slots mc ms (F0 m pc ls st0) rest (wk_Q out w' G (va_A wc H.size) a) (va_A wc H.size)) (hP : va_P G classes ws H) (hD : va_D A ws) (hS : va_S A H0 H locs) (hA : ∀ q, H0.size ≤ q → A q) (is : List Nat) (hn : va_nd is = true) (hC : is.map (fun i => ws[i]?) = wc.map some) (ha : ∀ u, (w' u).map (·.1) = wc.map (·.1))
    (kk : ∀ (v : Option Value) (u : S) (H1 : Heap) (locs1 : List Loc), out (.returned v) u → va_P G classes (wk_sets ws is (w' u)) H1 → va_D A (wk_sets ws is (w' u)) → va_S A H0 H1 locs1 → W p l e R s m args below meth c H1 locs1 (cells + mc) (slots + ms) Q (F0 m (pc + 3) ls (v.toList ++ rest))) : W p l e R s m args below meth c H locs cells slots Q (F0 m pc ls st0) := by
  intro T hT X
  obtain ⟨v, st₀, t, T', L, h0, X', hL, e1, e2, ⟨⟨u, ho, hP1, hD1⟩, hz, hk⟩, st⟩ := hr T hT X
  rw [h0] at hz hk
  have hF := va_free (wc := wc) hD hS hA is hC
  obtain ⟨hP2, hD2⟩ := wk_join hP hD is hn hC (ha u) (fun q h1 h2 => hk q h1 h2) hP1
  obtain ⟨t2, a1, b1⟩ := kk v u t.heap (locs ++ L) ho hP2 hD2 (wk_S hS hF hz hk hL) T' e1 X'
  exact ⟨t2, st t2 a1, b1⟩
theorem wk_i {S : Type} {val : S → Int32} {ok : S → Prop} {w' : S → va_W} (hr : va_Run p l e R s m args below meth c H locs cells slots mc ms (F0 m pc ls st0) rest (wk_Q (wk_oi val ok) w' G (va_A wc H.size) a) (va_A wc H.size)) (hP : va_P G classes ws H) (hD : va_D A ws) (hS : va_S A H0 H locs) (hA : ∀ q, H0.size ≤ q → A q) (is : List Nat) (hn : va_nd is = true) (hC : is.map (fun i => ws[i]?) = wc.map some) (ha : ∀ u, (w' u).map (·.1) = wc.map (·.1))
    (kk : ∀ (u : S) (H1 : Heap) (locs1 : List Loc), ok u → va_P G classes (wk_sets ws is (w' u)) H1 → va_D A (wk_sets ws is (w' u)) → va_S A H0 H1 locs1 → W p l e R s m args below meth c H1 locs1 (cells + mc) (slots + ms) Q (F0 m (pc + 3) ls (.int (val u) :: rest))) : W p l e R s m args below meth c H locs cells slots Q (F0 m pc ls st0) :=
  wk_go hr hP hD hS hA is hn hC ha (fun v u H1 locs1 ho h1 h2 h3 => by
    obtain ⟨hv, hok⟩ := ho
    cases hv
    exact kk u H1 locs1 hok h1 h2 h3)
theorem wk_l {S : Type} {val : S → Int64} {ok : S → Prop} {w' : S → va_W} (hr : va_Run p l e R s m args below meth c H locs cells slots mc ms (F0 m pc ls st0) rest (wk_Q (wk_ol val ok) w' G (va_A wc H.size) a) (va_A wc H.size)) (hP : va_P G classes ws H) (hD : va_D A ws) (hS : va_S A H0 H locs) (hA : ∀ q, H0.size ≤ q → A q) (is : List Nat) (hn : va_nd is = true) (hC : is.map (fun i => ws[i]?) = wc.map some) (ha : ∀ u, (w' u).map (·.1) = wc.map (·.1))
    (kk : ∀ (u : S) (H1 : Heap) (locs1 : List Loc), ok u → va_P G classes (wk_sets ws is (w' u)) H1 → va_D A (wk_sets ws is (w' u)) → va_S A H0 H1 locs1 → W p l e R s m args below meth c H1 locs1 (cells + mc) (slots + ms) Q (F0 m (pc + 3) ls (.long (val u) :: rest))) : W p l e R s m args below meth c H locs cells slots Q (F0 m pc ls st0) :=
  wk_go hr hP hD hS hA is hn hC ha (fun v u H1 locs1 ho h1 h2 h3 => by
    obtain ⟨hv, hok⟩ := ho
    cases hv
    exact kk u H1 locs1 hok h1 h2 h3)
theorem wk_v {S : Type} {ok : S → Prop} {w' : S → va_W} (hr : va_Run p l e R s m args below meth c H locs cells slots mc ms (F0 m pc ls st0) rest (wk_Q (wk_ov ok) w' G (va_A wc H.size) a) (va_A wc H.size)) (hP : va_P G classes ws H) (hD : va_D A ws) (hS : va_S A H0 H locs) (hA : ∀ q, H0.size ≤ q → A q) (is : List Nat) (hn : va_nd is = true) (hC : is.map (fun i => ws[i]?) = wc.map some) (ha : ∀ u, (w' u).map (·.1) = wc.map (·.1))
    (kk : ∀ (u : S) (H1 : Heap) (locs1 : List Loc), ok u → va_P G classes (wk_sets ws is (w' u)) H1 → va_D A (wk_sets ws is (w' u)) → va_S A H0 H1 locs1 → W p l e R s m args below meth c H1 locs1 (cells + mc) (slots + ms) Q (F0 m (pc + 3) ls rest)) : W p l e R s m args below meth c H locs cells slots Q (F0 m pc ls st0) :=
  wk_go hr hP hD hS hA is hn hC ha (fun v u H1 locs1 ho h1 h2 h3 => by
    obtain ⟨hv, hok⟩ := ho
    cases hv
    exact kk u H1 locs1 hok h1 h2 h3)
end WK
def tm_E (st t : State) (L : List Loc) (k n : Nat) : Prop := st.WarmedH t.vm ∧ st.sameButNew ({ t with vm := st.vm } : State) L k n
def tm_Met (l : Launch) (y : MethodName) (ws : List Cond) (rm : Room) (Pc : Array Value → State → Prop) (Qc : Array Value → State → Outcome → State → Prop) (mc ms : Nat) (free : Addr → Prop) : Prop :=
  MetFree l y (headSpec ws rm) Pc (fun _ _ _ _ _ => True) (fun a st o t => Qc a st o t ∧ ∃ L, tm_E st t L mc ms ∧ ∀ q ∈ L, free q.base)
def tm_Q (below : List Frame) (Qc : Array Value → State → Outcome → State → Prop) (a : Array Value) (s : State) (mc ms : Nat) (free : Addr → Prop) : State → Prop := fun t =>
  ∃ o, t.status = .running ∧ Ended t below o ∧ Qc a s o t ∧ ∃ L, tm_E s t L mc ms ∧ ∀ q ∈ L, free q.base
section TM
variable {p : Program} {l : Launch} {e : Env} {R : Room} {s : State} {m : MethodId} {args : Array Value} {below : List Frame} {meth : Method} {c : Code} {H : Heap} {locs : List Loc} {cells slots : Nat} {Q : State → Prop}
theorem tm_mono {g : JFrame} {Q' : State → Prop} (h : ∀ t, Q' t → Q t) (k : W p l e R s m args below meth c H locs cells slots Q' g) : W p l e R s m args below meth c H locs cells slots Q g := fun T hT X => by
  obtain ⟨t, a, b⟩ := k T hT X
  exact ⟨t, a, h t b⟩
theorem tm_of {Qc : Array Value → State → Outcome → State → Prop} {mc ms : Nat} {free : Addr → Prop} {t : State} (h : MQ below Qc args s mc ms free t) : tm_Q below Qc args s mc ms free t := by
  obtain ⟨o, h1, h2, h3, L, h4, h5⟩ := h
  exact ⟨o, h1, h2, h3, L, h4.2, h5⟩
theorem tm_ret {g : JFrame} {Qc : Array Value → State → Outcome → State → Prop} {mc ms : Nat} {free : Addr → Prop} (k : W p l e R s m args below meth c H locs cells slots (MQ below Qc args s mc ms free) g) : W p l e R s m args below meth c H locs cells slots (tm_Q below Qc args s mc ms free) g := tm_mono (fun _ => tm_of) k
theorem tm_ofW {y : MethodName} {ws tl : List Cond} {rm : Room} {mc ms maxL : Nat} {cc : ByteArray} {ret : Option FieldType} {free : Addr → Prop} {Pc : Array Value → State → Prop} {Qc : Array Value → State → Outcome → State → Prop} (hy : plainName y.cls = true) (hw : ws = .code y cc maxL ret :: tl)
    (walk : ∀ (p : Program) (e : Env) (U : State) (k : MethodId) (a : Array Value) (fs : List Frame) (F : Method) (D : Code) (V : State), BodyLoose p l y (headSpec ws rm) cc maxL ret e U k a fs F D V → D.maxLocals = maxL → Pc a U → W p l e (headSpec ws rm).room U k a fs F D U.heap [] 0 0 (tm_Q fs Qc a U mc ms free) (entryFrame k a maxL)) : tm_Met l y ws rm Pc Qc mc ms free := by
  have word : Cond.code y cc maxL ret ∈ ws := hw ▸ List.mem_cons_self
  apply MetFree.of_bodyS (code := cc) (maxLocals := maxL) (ret := ret) hy
  · intro a U k before named
    obtain ⟨F, D, q⟩ := Cond.code_spec named (atoms_spec (ws := ws) before _ word)
    exact ⟨F, D, q.1, q.2.1, q.2.2.1, q.2.2.2.1, q.2.2.2.2.1, q.2.2.2.2.2.1⟩
  · intro p e U k a fs F D V B size start _
    have same : V.heap = U.heap := by rw [B.state]; rfl
    obtain ⟨t, go, o, run, fin, post, L, frame, inside⟩ := walk p e U k a fs F D V B size start V same (Stand.of_body B)
    exact ⟨t, o, go, run, fin, post, L, frame, inside⟩
def tm_T (p : Program) (l : Launch) (e : Env) (R : Room) (s : State) (m : MethodId) (args : Array Value) (below : List Frame) (meth : Method) (c : Code) (H : Heap) (locs : List Loc) (cells slots : Nat) (Q : State → Prop) (g : JFrame) (x : Addr) : Prop :=
  ∀ T : State, T.heap = H → Stand p l e R s m args below meth c T locs cells slots → ∃ t, Steps p.tables e below ((T.setTop g).pushFrame (.throwing x)) t ∧ Q t
theorem tm_leave {Qc : Array Value → State → Outcome → State → Prop} {free : Addr → Prop} {pc : Nat} {ls : Array Slot} {st : List Value} {x : Addr} (hout : ∀ y ∈ c.exceptionTable.toList, covers y pc = false)
    (hq : ∀ t : State, t.heap = H → s.WarmedH t.vm → Qc args s (.threw x) t) (hf : ∀ q ∈ locs, free q.base) (hlocks : meth.locks = false) :
    tm_T p l e R s m args below meth c H locs cells slots (tm_Q below Qc args s cells slots free) (F0 m pc ls st) x := by
  intro T hT X
  obtain ⟨hwalk, hrun, hended, hW, hsame⟩ := X.leaveThrown x (g := F0 m pc ls st) rfl rfl rfl hout hlocks
  exact ⟨_, hwalk, .threw x, hrun, hended, hq _ hT hW, locs, ⟨hW, hsame⟩, hf⟩
theorem tm_backT {y : MethodName} {ws : List Cond} {rm : Room} {mc ms maxL len : Nat} {bytes : ByteArray} {ret : Option FieldType} {free : Addr → Prop} {Pc : Array Value → State → Prop} {Qc : Array Value → State → Outcome → State → Prop}
    (hM : tm_Met l y ws rm Pc Qc mc ms free) (blind : FrameBlind Pc) (thr : ∀ a st o t, Qc a st o t → ∃ x, o = .threw x) (rc : rm.cells = mc) (rs : rm.slots = ms) (fr : rm.frames + 1 ≤ R.frames) (lo : 8 + (maxL + 11) + rm.locals ≤ R.locals)
    (ok : ∀ w ∈ ws, ∀ (a : Array Value) (U : State), s.WarmedH U.vm → w.before a U = true) (cod : Cond.code y bytes maxL ret ∈ ws) (ini : ∀ (a : Array Value) (U : State), s.WarmedH U.vm → (Cond.initialized y.cls).before a U = true)
    {U : State} {a : Array Value} {g : JFrame} {ig : Instr} {f : MethodId} (X : Stand p l e R s m args below meth c U locs cells slots) (hg : g.method = m) (sz : g.locals.size = c.maxLocals) (dg : decode c.code g.pc = .ok (ig, len)) (W8 : 2 * g.monitorRoom + (g.stack.map fun v => v.category).sum ≤ 8)
    (fN : U.methodNamed? y = some f) (c1 : cells + mc ≤ R.cells) (c2 : slots + ms ≤ R.slots) (start : Pc a U) :
    ∃ (x : Addr) (t B : State) (L : List Loc), Stand p l e R s m args below meth c B (locs ++ L) (cells + mc) (slots + ms) ∧ (∀ q ∈ L, free q.base) ∧ B.heap = t.heap ∧ B.vm = t.vm ∧ Qc a (U.calling g f a) (.threw x) t ∧ Steps p.tables e below (doInvoke e (U.setTop g) [] f a).1 ((B.setTop g).pushFrame (.throwing x)) := by
  obtain ⟨F, D, fM, fC, -, fL, -⟩ := Cond.code_spec fN (ok _ cod a U X.warmed)
  obtain ⟨K, KAt, -⟩ := className_of_methodNamed fN
  have KI := Cond.initialized_spec (findClass_of_methodNamed fN) KAt (ini a U X.warmed)
  have here : At U g.method c below := hg ▸ X.here
  have top : (U.setTop g).frames = .java g :: below := by rw [State.frames_setTop' g here.top, X.tail]
  have room := X.room_calling (g := g) (args' := a) (R' := (headSpec ws rm).room) sz fM fC fr (by rw [fL]; show 2 * g.monitorRoom + _ + _ + rm.locals ≤ _; omega) (by show cells + rm.cells ≤ _; rw [rc]; exact c1) (by show slots + rm.slots ≤ _; rw [rs]; exact c2)
  obtain ⟨o, t, go, -, fin, post, L, frame, inside⟩ := Steps.callFree hM p X.admits X.cas X.clock (acts := []) (show (U.setTop g).frames = [.java g] ++ below from top) (Spec.appliesLoose_calling (g := g) here dg fN KAt KI room (atoms_intro fun w hw => ok w hw _ _ X.warmed)) (blind _ _ _ _ start) trivial
  obtain ⟨x, hx⟩ := thr _ _ _ _ post
  subst hx
  rw [top] at fin
  obtain ⟨B, XB, -, -, eq⟩ := X.outOfThrown hg fin frame.1 frame.2
  exact ⟨x, t, B, L, XB, inside, (by rw [eq]; rfl), (by rw [eq]; rfl), post, eq ▸ go⟩
theorem tm_sel {C : String} {y : MethodName} {k : ClassId} {f : MethodId} (adm : l.admits e) (hk : s.vm.findClass C = some k) (fN : s.methodNamed? y = some f) (hy : y.cls ≠ "java/lang/invoke/MethodHandle" ∧ y.cls ≠ "java/lang/invoke/VarHandle") (w : (Cond.selects C y y).before args s = true) :
    selectMethod e.platform s.vm k f = .method f ∧ ∃ K, s.vm.classes[f.cls]? = some K ∧ K.isInterface = false := by
  obtain ⟨k1, r1, f1, a1, a2, a3, a4, a5⟩ := Cond.selects_spec w
  rw [hk] at a1
  rw [State.methodFound?_of_named fN hy] at a2
  rw [fN] at a3
  injection a1 with a1
  injection a2 with a2
  injection a3 with a3
  subst a1 a2 a3
  exact ⟨by rw [Launch.admits_selectMethod adm]; exact a4, a5⟩
theorem tm_callT {Ts ws : List Cond} {cc bytes : ByteArray} {nL maxL index n mc ms : Nat} {own C : String} {y : MethodName} {ret : Option FieldType} {rm : Room} {Pc : Array Value → State → Prop} {Qc : Array Value → State → Outcome → State → Prop} {free : Addr → Prop} {b : Addr} {As rest : List Value} {pc : Nat} {ls : Array Slot} {st0 : List Value}
    (S : CallFix p m c cc nL s args Ts own) (hM : tm_Met l y ws rm Pc Qc mc ms free) (thr : ∀ a st o t, Qc a st o t → ∃ x, o = .threw x) (cw : CallW R s args own C index y bytes maxL ret ws rm mc ms n) (hp : PreV s H C b Pc As)
    (hn : As.length = n) (hsize : ls.size = nL) (hstack : st0 = As.reverse ++ .ref b :: rest) (hW : 2 * (F0 m pc ls rest).monitorRoom + (rest.map fun v => v.category).sum ≤ 8) (hdg : decode cc pc = .ok (.invokevirtual index, 3)) (hf : cells + mc ≤ R.cells ∧ slots + ms ≤ R.slots)
    (kt : ∀ (x : Addr) (st₀ t : State) (L : List Loc), st₀.heap = H → s.vm.Alike t.vm → (∀ q ∈ L, free q.base) → Qc (Value.ref b :: As).toArray st₀ (.threw x) t → tm_T p l e R s m args below meth c t.heap (locs ++ L) (cells + mc) (slots + ms) Q (F0 m pc ls rest) x) :
    W p l e R s m args below meth c H locs cells slots Q (F0 m pc ls st0) := by
  subst hstack
  intro T hT X
  obtain ⟨⟨w1, w2, w3, w4, w5, w6, w7, w8, w9, w10, w11⟩, wi, wsel⟩ := cw
  obtain ⟨hx, hb, hml, hown, -⟩ := S
  obtain ⟨blind, ⟨o, oAt, oObj, oCls⟩, start⟩ := hp
  obtain ⟨f, F, fN, fM, fS, fA⟩ := Cond.instanceMethod_spec wi
  obtain ⟨sel, K, KAt, KNo⟩ := tm_sel (e := e) X.admits oCls fN w9 wsel
  obtain ⟨F2, D, fM2, q⟩ := Cond.code_spec fN w7
  have sig : parseMethodDescriptor y.desc = some F.sig := by
    rw [fM] at fM2
    injection fM2 with z
    rw [z]
    exact q.2.2.2.2.2.2
  have dg : decode c.code pc = .ok (.invokevirtual index, 3) := by rw [hb]; exact hdg
  obtain ⟨v, X1, step⟩ := X.invokevirtual hx hown w11 fN fM fS KAt KNo w9 (a := b) (cell := o) (by rw [hT]; exact oAt) (fun z h => by rw [h] at oObj; cases oObj) sel fM fA KAt KNo (g := F0 m pc ls (As.reverse ++ .ref b :: rest)) rfl (argsL := As) (rest := rest) (hn.trans (w10 _ sig)) rfl dg
  obtain ⟨x, t, B, L, XB, inside, e1, e2, post, go⟩ := tm_backT (bytes := bytes) (maxL := maxL) (ret := ret) (len := 3) (g := F0 m pc ls rest) (a := (Value.ref b :: As).toArray) hM blind thr w1 w2 w3 w4 w5 w6 (fun a U h => word_at h (Or.inl rfl) w8) X1 rfl (hsize.trans hml.symm) dg hW (X1.named fN) hf.1 hf.2 (start (T.setVm v) hT X1.warmed)
  obtain ⟨t2, a1, b1⟩ := kt x ((T.setVm v).calling (F0 m pc ls rest) f (Value.ref b :: As).toArray) t L hT (by rw [← e2]; exact XB.warmed.alike) inside post B e1 XB
  exact ⟨t2, step _ fun acts => by rw [doInvoke_state]; exact go.trans a1, b1⟩
end TM
