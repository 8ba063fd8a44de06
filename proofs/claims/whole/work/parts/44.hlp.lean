section GN
variable {p : Program} {l : Launch} {e : Env} {R : Room} {s : State} {m : MethodId} {args : Array Value} {below : List Frame} {meth : Method} {c : Code} {H H0 : Heap} {locs : List Loc} {cells slots : Nat} {Q : State → Prop}
variable {pc : Nat} {ls : Array Slot} {rest st0 : List Value} {a : Array Value} {A : Nat → Prop} {mc ms : Nat} {G : va_G} {ct : Nat → ClassId} {ws wc : va_W}
theorem wk_old {w1 : va_W} (hP : va_P G classes ws H) (is : List Nat) (hn : va_nd is = true) (hC : is.map (fun i => ws[i]?) = wc.map some) (ha : w1.map (·.1) = wc.map (·.1)) {k : Nat} {q : Nat × va_E} (hq : (wk_sets ws is w1)[k]? = some q) : q.1 < H.size := by
  have hlen : is.length = w1.length := by
    have e1 := congrArg List.length hC
    have e2 := congrArg List.length ha
    simp at e1 e2
    omega
  have hr : ∀ i ∈ is, i < ws.length := fun i hi => by
    obtain ⟨j, hj⟩ := List.getElem?_of_mem hi
    obtain ⟨x, -, h2⟩ := wk_at hC hj
    exact (List.getElem?_eq_some_iff.mp h2).1
  rcases wk_sets_get is ws w1 hn hlen hr k q hq with ⟨j, b1, b2⟩ | ⟨-, b2⟩
  · obtain ⟨x, h1, h2⟩ := wk_at hC b1
    have h3 : (w1.map (·.1))[j]? = some q.1 := by rw [List.getElem?_map, b2]; rfl
    rw [ha, List.getElem?_map, h1] at h3
    have h4 : x.1 = q.1 := Option.some.inj h3
    rw [← h4]
    exact (hP k x h2).lt
  · exact (hP k q b2).lt
theorem wk_goN {S : Type} {out : Outcome → S → Prop} {w1 w2 : S → va_W} (hr : va_Run p l e R s m args below meth c H locs cells slots mc ms (F0 m pc ls st0) rest (wk_Q out (fun u => w1 u ++ w2 u) G (va_A wc H.size) a) (va_A wc H.size)) (hP : va_P G classes ws H) (hD : va_D A ws) (hS : va_S A H0 H locs) (hA : ∀ q, H0.size ≤ q → A q) (is : List Nat) (hn : va_nd is = true) (hC : is.map (fun i => ws[i]?) = wc.map some) (ha : ∀ u, (w1 u).map (·.1) = wc.map (·.1))
    (kk : ∀ (v : Option Value) (u : S) (H1 : Heap) (locs1 : List Loc), out (.returned v) u → va_P G classes (wk_sets ws is (w1 u) ++ w2 u) H1 → va_D A (wk_sets ws is (w1 u) ++ w2 u) → va_S A H0 H1 locs1 → W p l e R s m args below meth c H1 locs1 (cells + mc) (slots + ms) Q (F0 m (pc + 3) ls (v.toList ++ rest))) : W p l e R s m args below meth c H locs cells slots Q (F0 m pc ls st0) := by
  intro T hT X
  obtain ⟨v, st₀, t, T', L, h0, X', hL, e1, e2, ⟨⟨u, ho, hP1, hD1⟩, hz, hk⟩, st⟩ := hr T hT X
  rw [h0] at hz hk
  have hF := va_free (wc := wc) hD hS hA is hC
  have gl : ∀ (k : Nat) (q : Nat × va_E), (w1 u)[k]? = some q → (w1 u ++ w2 u)[k]? = some q := fun k q hq => by
    rw [List.getElem?_append_left (List.getElem?_eq_some_iff.mp hq).1]; exact hq
  have gr : ∀ (k : Nat) (q : Nat × va_E), (w2 u)[k]? = some q → (w1 u ++ w2 u)[(w1 u).length + k]? = some q := fun k q hq => by
    rw [List.getElem?_append_right (by omega), Nat.add_sub_cancel_left]; exact hq
  obtain ⟨hP2, hD2⟩ := wk_join hP hD is hn hC (ha u) (fun q h1 h2 => hk q h1 h2) (fun k q hq => hP1 k q (gl k q hq))
  have new : ∀ (k : Nat) (q : Nat × va_E), (w2 u)[k]? = some q → H.size ≤ q.1 := fun k q hq => by
    rcases hD1.2 _ q (gr k q hq) with ⟨j, x, hx⟩ | h
    · have h1 : (wc.map (·.1))[j]? = some q.1 := by rw [List.getElem?_map, hx]; rfl
      rw [← ha u, List.getElem?_map] at h1
      cases hw : (w1 u)[j]? with
      | none => rw [hw] at h1; cases h1
      | some y =>
        rw [hw] at h1
        have h2 : y.1 = q.1 := Option.some.inj h1
        have h3 := hD1.1 j _ y q (gl j y hw) (gr k q hq) h2
        have h4 := (List.getElem?_eq_some_iff.mp hw).1
        omega
    · exact h
  have hspl : ∀ (k : Nat) (q : Nat × va_E), (wk_sets ws is (w1 u) ++ w2 u)[k]? = some q → (wk_sets ws is (w1 u))[k]? = some q ∨ ∃ j, k = (wk_sets ws is (w1 u)).length + j ∧ (w2 u)[j]? = some q := fun k q hq => by
    by_cases h : k < (wk_sets ws is (w1 u)).length
    · rw [List.getElem?_append_left h] at hq
      exact Or.inl hq
    · rw [List.getElem?_append_right (by omega)] at hq
      exact Or.inr ⟨k - (wk_sets ws is (w1 u)).length, by omega, hq⟩
  obtain ⟨t2, a1, b1⟩ := kk v u t.heap (locs ++ L) ho (fun k q hq => by
      rcases hspl k q hq with h | ⟨j, -, h⟩
      · exact hP2 k q h
      · exact hP1 _ q (gr j q h))
    ⟨fun i j x y hx hy hxy => by
      rcases hspl i x hx with h1 | ⟨i', e1, h1⟩ <;> rcases hspl j y hy with h2 | ⟨j', e2, h2⟩
      · exact hD2.1 i j x y h1 h2 hxy
      · have q1 := wk_old hP is hn hC (ha u) h1
        have q2 := new j' y h2
        omega
      · have q1 := wk_old hP is hn hC (ha u) h2
        have q2 := new i' x h1
        omega
      · have q1 := hD1.1 _ _ x y (gr i' x h1) (gr j' y h2) hxy
        omega, fun k q hq => by
      rcases hspl k q hq with h | ⟨j, -, h⟩
      · exact hD2.2 k q h
      · exact hA _ (Nat.le_trans hS.1 (new j q h))⟩
    (wk_S hS hF hz hk hL) T' e1 X'
  exact ⟨t2, st t2 a1, b1⟩
theorem wk_iN {S : Type} {val : S → Int32} {ok : S → Prop} {w1 w2 : S → va_W} (hr : va_Run p l e R s m args below meth c H locs cells slots mc ms (F0 m pc ls st0) rest (wk_Q (wk_oi val ok) (fun u => w1 u ++ w2 u) G (va_A wc H.size) a) (va_A wc H.size)) (hP : va_P G classes ws H) (hD : va_D A ws) (hS : va_S A H0 H locs) (hA : ∀ q, H0.size ≤ q → A q) (is : List Nat) (hn : va_nd is = true) (hC : is.map (fun i => ws[i]?) = wc.map some) (ha : ∀ u, (w1 u).map (·.1) = wc.map (·.1))
    (kk : ∀ (u : S) (H1 : Heap) (locs1 : List Loc), ok u → va_P G classes (wk_sets ws is (w1 u) ++ w2 u) H1 → va_D A (wk_sets ws is (w1 u) ++ w2 u) → va_S A H0 H1 locs1 → W p l e R s m args below meth c H1 locs1 (cells + mc) (slots + ms) Q (F0 m (pc + 3) ls (.int (val u) :: rest))) : W p l e R s m args below meth c H locs cells slots Q (F0 m pc ls st0) :=
  wk_goN hr hP hD hS hA is hn hC ha (fun v u H1 locs1 ho h1 h2 h3 => by
    obtain ⟨hv, hok⟩ := ho
    cases hv
    exact kk u H1 locs1 hok h1 h2 h3)
end GN
abbrev tb_wH (y : MethodName) (b : ByteArray) (n : Nat) (r : Option FieldType) (hs : List (Nat × Nat × Nat × Nat)) : List Cond := Cond.codeWith y b n r hs :: gt_tbl
def sh_W (R : Room) (s : State) (args : Array Value) (own : String) (index : Nat) (y : MethodName) (bytes : ByteArray) (maxL : Nat) (ret : Option FieldType) (hs : List (Nat × Nat × Nat × Nat)) (rm : Room) (mc ms n : Nat) : Prop :=
  (∀ w ∈ gt_tbl, w.before args s = true) ∧ Cond.codeWith y bytes maxL ret hs ∈ gt_tbl ∧ Cond.initialized y.cls ∈ gt_tbl ∧ (y.cls ≠ "java/lang/invoke/MethodHandle" ∧ y.cls ≠ "java/lang/invoke/VarHandle") ∧ (parseMethodDescriptor y.desc).map (fun d => d.parameters.length) = some n ∧
    Cond.methodLink own index y ∈ gt_tbl ∧ Cond.static y ∈ gt_tbl ∧ rm.cells = mc ∧ rm.slots = ms ∧ rm.frames + 1 ≤ R.frames ∧ 8 + (maxL + 11) + rm.locals ≤ R.locals
section TH3
variable {p : Program} {l : Launch} {e : Env} {R : Room} {s : State} {m : MethodId} {args : Array Value} {below : List Frame} {meth : Method} {c : Code} {H : Heap} {locs : List Loc} {cells slots : Nat} {Q : State → Prop}
theorem sh_tab {y : MethodName} {b : ByteArray} {n : Nat} {r : Option FieldType} {hs : List (Nat × Nat × Nat × Nat)} {rm : Room} {s₁ : State} (B : BodyLoose p l y (headSpec (tb_wH y b n r hs) rm) b n r e s m args below meth c s₁) : c.exceptionTable.toList.map (fun h => (h.startPc, h.endPc, h.handlerPc, h.catchType)) = hs := by
  obtain ⟨k, F, D, q1, q2, q3, -, -, tab, -⟩ := Cond.codeWith_spec (atoms_spec (ws := tb_wH y b n r hs) B.pre _ List.mem_cons_self)
  cases B.named.symm.trans q1
  cases B.method.symm.trans q2
  cases (Stand.of_body B).code.symm.trans q3
  exact tab
theorem sh_run {y : MethodName} {bytes cc : ByteArray} {maxL nL mc ms n index : Nat} {ret : Option FieldType} {rm : Room} {Pc : Array Value → State → Prop} {Qc : Array Value → State → Outcome → State → Prop} {free : Addr → Prop} {Ts : List Cond} {own : String} {As rest : List Value} {hs : List (Nat × Nat × Nat × Nat)} {pc : Nat} {ls : Array Slot} {st0 : List Value}
    (S : CallFix p m c cc nL s args Ts own) (hM : Met l y (tb_wH y bytes maxL ret hs) rm Pc Qc mc ms free) (cw : sh_W R s args own index y bytes maxL ret hs rm mc ms n) (hp : PreS s H Pc As)
    (hn : As.length = n) (hsize : ls.size = nL) (hstack : st0 = As.reverse ++ rest) (hW : 2 * (F0 m pc ls rest).monitorRoom + (rest.map fun v => v.category).sum ≤ 8) (hdg : decode cc pc = .ok (.invokestatic index, 3)) (hf : cells + mc ≤ R.cells ∧ slots + ms ≤ R.slots) :
    va_Run p l e R s m args below meth c H locs cells slots mc ms (F0 m pc ls st0) rest (Qc As.toArray) free := by
  obtain ⟨hw, hcode, hini, hy, hpar, hl, hst, hrc, hrs, hfr, hlo⟩ := cw
  obtain ⟨hx, hb, hml, hown, -⟩ := S
  subst hstack
  intro T hT X
  obtain ⟨f, F, D, fN, fM, q⟩ := Cond.codeWith_spec (hw _ hcode)
  obtain ⟨K, KAt, -⟩ := className_of_methodNamed fN
  have len : As.length = F.sig.parameters.length := by
    rw [q.2.2.2.2.2.2] at hpar
    exact hn.trans (Option.some.inj hpar).symm
  have dg : decode c.code pc = .ok (.invokestatic index, 3) := by rw [hb]; exact hdg
  obtain ⟨v1, X1, step⟩ := X.invokestatic hx hown (hw _ hl) fN fM (Cond.static_spec fN fM (hw _ hst)) KAt (Cond.initialized_spec (findClass_of_methodNamed fN) KAt (hw _ hini)) hy (g := F0 m pc ls (As.reverse ++ rest)) rfl (argsL := As) (rest := rest) len rfl dg
  have good : ∀ w ∈ gt_tbl, ∀ (a : Array Value) (U : State), s.WarmedH U.vm → w.before a U = true := fun w h a U hU => word_at hU (good_of_word (List.mem_filter.mp h).2) (hw w h)
  have back : Back l R p e below s args y 3 8 (PreOf R mc ms Pc) (PostOf Qc mc ms free) := va_backW (bytes := bytes) (maxL := maxL) (ret := ret) (hh := hs) hM hp.1 hrc hrs hfr hlo (fun w h => (List.mem_cons.mp h).elim (fun z => z ▸ good _ hcode) (good w)) List.mem_cons_self (good _ hini)
  obtain ⟨v, B, XB, ⟨g2, k2, t, L, e1, e2, post, z1, inside, z2, z3⟩, go⟩ := back m meth c ⟨T.setVm v1, locs, cells, slots⟩ (F0 m pc ls rest) (.invokestatic index) f As.toArray X1 rfl (hsize.trans hml.symm) dg hW (X1.named fN) ⟨hf.1, hf.2, hp.2 (T.setVm v1) hT X1.warmed⟩
  obtain ⟨U, l2, k3, s2⟩ := B
  dsimp only [Pt.U, Pt.locs, Pt.cells, Pt.slots] at XB e1 e2 post z1 z2 z3 go
  subst z1 z2 z3
  exact ⟨v, (T.setVm v1).calling g2 k2 As.toArray, t, U, L, hT, XB, inside, e1, e2, post, fun target h => step _ fun acts => by rw [doInvoke_state]; exact go.trans h⟩
end TH3
def nc_A (U : State) : Prop := va_Nc "java/lang/IllegalStateException" "java/lang/IllegalArgumentException" U ∧ va_Nc "java/lang/IllegalStateException" "java/util/NoSuchElementException" U ∧ va_Nc "java/lang/IllegalArgumentException" "java/util/NoSuchElementException" U ∧ va_Nc "java/lang/IllegalArgumentException" "java/lang/IllegalStateException" U ∧
  va_Nc "java/lang/UnsupportedOperationException" "java/util/NoSuchElementException" U ∧ va_Nc "java/lang/UnsupportedOperationException" "java/lang/IllegalStateException" U ∧ va_Nc "java/lang/UnsupportedOperationException" "java/lang/IllegalArgumentException" U
theorem nc_A.moved {u U : State} (h : u.vm.Alike U.vm) (q : nc_A u) : nc_A U := ⟨q.1.moved h, q.2.1.moved h, q.2.2.1.moved h, q.2.2.2.1.moved h, q.2.2.2.2.1.moved h, q.2.2.2.2.2.1.moved h, q.2.2.2.2.2.2.moved h⟩
def wk_P5 (av : List Value) (G : va_G) (ct : Nat → ClassId) (ws : va_W) (sz : Nat) : Array Value → State → Prop := fun a U => wk_P4 av G ct ws sz a U ∧ nc_A U
theorem wk_blind5 {av : List Value} {G : va_G} {ct : Nat → ClassId} {ws : va_W} {sz : Nat} : FrameBlind (wk_P5 av G ct ws sz) := fun a U g mk q => ⟨wk_blind4 a U g mk q.1, nc_A.moved (u := U) (U := U.calling g mk a) (Vm.Alike.refl U.vm) q.2⟩
theorem wk_pre5 {s : State} {H : Heap} {locs : List Loc} {G : va_G} {ct : Nat → ClassId} {ws wc : va_W} {A : Nat → Prop} {av : List Value} (hP : va_P G classes wc H) (hK : kk_K G ct s) (hDc : va_D A wc) (hD : va_D A ws) (hS : va_S A s.heap H locs) (hA : ∀ q, s.heap.size ≤ q → A q) (is : List Nat) (hC : is.map (fun i => ws[i]?) = wc.map some) (hz : st_A A s.vm s.heap) (hR : st_R s) (hN : nc_A s) : PreS s H (wk_P5 av G ct wc H.size) av :=
  ⟨wk_blind5, fun U hU hW => ⟨(wk_pre4 hP hK hDc (fun w hw => ((hz w hw).kept hS.2.1).narrow (va_free hD hS hA is hC)) hR).2 U hU hW, hN.moved hW.alike⟩⟩
section CX
variable {p : Program} {l : Launch} {e : Env} {R : Room} {s : State} {m : MethodId} {args : Array Value} {below : List Frame} {meth : Method} {c : Code} {H : Heap} {locs : List Loc} {cells slots : Nat} {Q : State → Prop}
theorem wk_catch {Ts wsY : List Cond} {cc bytes : ByteArray} {nL maxL index n : Nat} {own C X : String} {y : MethodName} {ret : Option FieldType} {rm : Room} {b : Addr} {As rest : List Value} {pc : Nat} {ls : Array Slot} {st0 : List Value} {G : va_G} {ct : Nat → ClassId} {ws wc w1 : va_W} {A : Nat → Prop}
    (S : CallFix p m c cc nL s args Ts own) (hM : tm_Met l y wsY rm (wk_P4 (.ref b :: As) G ct wc H.size) (wk_T X w1 G (va_A wc H.size)) 1 6 (va_A wc H.size)) (cw : CallW R s args own C index y bytes maxL ret wsY rm 1 6 n) (hp : PreV s H C b (wk_P4 (.ref b :: As) G ct wc H.size) As)
    (hn : As.length = n) (hsize : ls.size = nL) (hstack : st0 = As.reverse ++ .ref b :: rest) (hW : 2 * (F0 m pc ls rest).monitorRoom + (rest.map fun v => v.category).sum ≤ 8) (hdg : decode cc pc = .ok (.invokevirtual index, 3)) (hf : cells + 1 ≤ R.cells ∧ slots + 6 ≤ R.slots)
    (hP : va_P G classes ws H) (hD : va_D A ws) (hS : va_S A s.heap H locs) (hA : ∀ q, s.heap.size ≤ q → A q) (is : List Nat) (hnd : va_nd is = true) (hC : is.map (fun i => ws[i]?) = wc.map some) (ha : w1.map (·.1) = wc.map (·.1))
    (hown : s.vm.findClass own = some m.cls) (pre : List ExceptionTableEntry) (yy : ExceptionTableEntry) (post : List ExceptionTableEntry) (htab : c.exceptionTable.toList = pre ++ yy :: post)
    (hpre : ∀ z ∈ pre, covers z pc = true ∧ z.catchType ≠ 0 ∧ ∃ N, (Cond.classLink own z.catchType N).before args s = true ∧ va_Nc X N s) (hy : covers yy pc = true) (hy0 : yy.catchType ≠ 0)
    (hlink : (Cond.classLink own yy.catchType X).before args s = true) (hself : va_Nw (.castable X X) s)
    (kk : ∀ (x : Nat) (H1 : Heap) (locs1 : List Loc), va_P G classes (wk_sets ws is w1) H1 → va_D A (wk_sets ws is w1) → va_S A s.heap H1 locs1 → W p l e R s m args below meth c H1 locs1 (cells + 1) (slots + 6) Q (F0 m yy.handlerPc ls [.ref x])) :
    W p l e R s m args below meth c H locs cells slots Q (F0 m pc ls st0) := by
  refine tm_callT S hM wk_Tx cw hp hn hsize hstack hW hdg hf (fun x st₀ t L h0 hal hL hq => ?_)
  · obtain ⟨⟨q, ce, hx, h1, h2, h3, h4, hP1, hD1⟩, hz, hk⟩ := hq
    cases hx
    rw [h0] at h4 hz hk
    have hF := va_free (wc := wc) hD hS hA is hC
    obtain ⟨hP2, hD2⟩ := wk_join hP hD is hnd hC ha (fun q a1 a2 => hk q a1 a2) hP1
    refine ct_catch hown h1 (by rw [h2]; rfl) (by rw [← hal.findClass]; exact h3) pre yy post htab hpre hy hy0 hlink hself (kk x t.heap (locs ++ L) hP2 hD2 (wk_S hS hF hz hk hL))
end CX
theorem hc_c {α : Type} {P : α → Prop} {w : α} {B : List α} (h : P w) (t : ∀ x ∈ B, P x) : ∀ x ∈ w :: B, P x := fun x hx => (List.mem_cons.mp hx).elim (fun e => e ▸ h) (t x)
