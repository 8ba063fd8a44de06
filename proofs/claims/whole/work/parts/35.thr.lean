def st_tx : List (Nat × String) := [(52, "no such user or way"), (59, "there are as many sessions as there may be"), (74, "the user is blocked"), (95, "no such session"), (120, "a first message that is not right"), (128, "a confirmation that is not right"), (131, "the session does not wait for a message"), (101, "the session is not finished"), (111, "so many ticks can't go by at once")]
def st_R (U : State) : Prop := ∀ q ∈ st_tx, ∃ sa : Nat, vk_R "PakeDesk" q.1 q.2 sa U
def wk_P4 (av : List Value) (G : va_G) (ct : Nat → ClassId) (ws : va_W) (sz : Nat) : Array Value → State → Prop := fun a U => wk_P3 av G ct ws sz a U ∧ st_R U
theorem wk_blind4 {av : List Value} {G : va_G} {ct : Nat → ClassId} {ws : va_W} {sz : Nat} : FrameBlind (wk_P4 av G ct ws sz) := fun a U g mk q => ⟨wk_blind3 a U g mk q.1, fun x hx => by
  obtain ⟨sa, h⟩ := q.2 x hx
  exact ⟨sa, vk_R.same (u := U) rfl h⟩⟩
theorem wk_pre4 {s : State} {H : Heap} {G : va_G} {ct : Nat → ClassId} {wc : va_W} {A : Nat → Prop} {av : List Value} (hP : va_P G classes wc H) (hK : kk_K G ct s) (hD : va_D A wc) (hz : st_A (va_A wc H.size) s.vm H) (hR : st_R s) : PreS s H (wk_P4 av G ct wc H.size) av :=
  ⟨wk_blind4, fun U hU hW => ⟨(wk_pre3 hP hK hD hz).2 U hU hW, fun x hx => by
    obtain ⟨sa, h⟩ := hR x hx
    exact ⟨sa, h.warm hW⟩⟩⟩
def wk_T (X : String) (w' : va_W) (G : va_G) (A : Nat → Prop) : Array Value → State → Outcome → State → Prop := fun _ st oc t =>
  (∃ (q : Nat) (ce : Cell), oc = .threw q ∧ t.heap[q]? = some ce ∧ ce.vm = .none ∧ t.vm.findClass X = some ce.cls ∧ st.heap.size ≤ q ∧ va_P G classes w' t.heap ∧ va_D A w') ∧ va_F A st t
theorem wk_Tx {X : String} {w' : va_W} {G : va_G} {A : Nat → Prop} : ∀ a st o t, wk_T X w' G A a st o t → ∃ x, o = .threw x := fun _ _ _ _ q => by
  obtain ⟨⟨x, _, h, _⟩, _⟩ := q
  exact ⟨x, h⟩
theorem wk_T.of {X : String} {w' : va_W} {G : va_G} {A : Nat → Prop} {s : State} {H : Heap} {locs : List Loc} {args : Array Value} (hP : va_P G classes w' H) (hD : va_D A w') (hS : va_S A s.heap H locs) :
    ∀ (t : State) (ce : Cell), H.size ≤ t.heap.size → (∀ q, q < H.size → t.heap[q]? = H[q]?) → t.heap[H.size]? = some ce → ce.vm = .none → s.vm.findClass X = some ce.cls → s.WarmedH t.vm → wk_T X w' G A args s (.threw H.size) t :=
  fun t ce h1 h2 h3 h4 h5 hW => ⟨⟨H.size, ce, rfl, h3, h4, (by rw [hW.alike.findClass]; exact h5), hS.1, hP.kept (fun k x hx => h2 x.1 ((hP k x hx).lt)), hD⟩, Nat.le_trans hS.1 h1, fun q a1 a2 => (h2 q (Nat.lt_of_lt_of_le a1 hS.1)).trans (hS.2.1 q a1 a2)⟩
theorem st_out {p : Program} {l : Launch} {y : MethodName} {rm : Room} {b : ByteArray} {n : Nat} {r : Option FieldType} {e : Env} {s : State} {m : MethodId} {args : Array Value} {below : List Frame} {meth : Method} {c : Code} {s₁ : State}
    (B : BodyLoose p l y (headSpec (tb_w y b n r) rm) b n r e s m args below meth c s₁) (k : Nat) : ∀ x ∈ c.exceptionTable.toList, covers x k = false := by
  have h := atoms_spec (ws := tb_w y b n r) B.pre _ List.mem_cons_self
  obtain ⟨meth', c', h1, h2, -, -, -, -, h3, -⟩ := Cond.code_spec B.named h
  cases B.method.symm.trans h1
  cases (Stand.of_body B).code.symm.trans h2
  intro x hx
  rw [Array.isEmpty_iff.mp h3] at hx
  exact nomatch hx
section TU
variable {p : Program} {l : Launch} {e : Env} {R : Room} {s : State} {m : MethodId} {args : Array Value} {below : List Frame} {meth : Method} {c : Code} {H : Heap} {locs : List Loc}
theorem wk_preV4 {G : va_G} {ct : Nat → ClassId} {ws wc : va_W} {A : Nat → Prop} {As : List Value} {b ci q0 : Nat} {r : vw_C} {fs : List Value} (hP : va_P G classes wc H) (hK : kk_K G ct s) (hDc : va_D A wc) (hD : va_D A ws) (hS : va_S A s.heap H locs) (hA : ∀ q, s.heap.size ≤ q → A q) (is : List Nat) (hC : is.map (fun i => ws[i]?) = wc.map some) (hz : st_A A s.vm s.heap) (hR : st_R s) (hc : classes[ci]? = some r) (he : wc[q0]? = some (b, .inr (ci, fs))) :
    PreV s H r.1 b (wk_P4 (.ref b :: As) G ct wc H.size) As :=
  ⟨wk_blind4, va_recv hK.1 hP hc he, (wk_pre4 hP hK hDc (fun w hw => ((hz w hw).kept hS.2.1).narrow (va_free hD hS hA is hC)) hR).2⟩
theorem wk_thru {Ts wsY : List Cond} {cc bytes : ByteArray} {nL maxL index n : Nat} {own C X : String} {y : MethodName} {ret : Option FieldType} {rm : Room} {b : Addr} {As rest : List Value} {pc : Nat} {ls : Array Slot} {st0 : List Value} {G : va_G} {ct : Nat → ClassId} {ws wc w1 : va_W} {A : Nat → Prop}
    (S : CallFix p m c cc nL s args Ts own) (hM : tm_Met l y wsY rm (wk_P4 (.ref b :: As) G ct wc H.size) (wk_T X w1 G (va_A wc H.size)) 1 6 (va_A wc H.size)) (cw : CallW R s args own C index y bytes maxL ret wsY rm 1 6 n) (hp : PreV s H C b (wk_P4 (.ref b :: As) G ct wc H.size) As)
    (hn : As.length = n) (hsize : ls.size = nL) (hstack : st0 = As.reverse ++ .ref b :: rest) (hW : 2 * (F0 m pc ls rest).monitorRoom + (rest.map fun v => v.category).sum ≤ 8) (hdg : decode cc pc = .ok (.invokevirtual index, 3)) (hf : 0 + 1 ≤ R.cells ∧ 0 + 6 ≤ R.slots)
    (hP : va_P G classes ws H) (hD : va_D A ws) (hS : va_S A s.heap H locs) (hA : ∀ q, s.heap.size ≤ q → A q) (is : List Nat) (hnd : va_nd is = true) (hC : is.map (fun i => ws[i]?) = wc.map some) (ha : w1.map (·.1) = wc.map (·.1)) (hout : ∀ x ∈ c.exceptionTable.toList, covers x pc = false) (hlocks : meth.locks = false) :
    W p l e R s m args below meth c H locs 0 0 (tm_Q below (wk_T X (wk_sets ws is w1) G A) args s 1 6 A) (F0 m pc ls st0) := by
  refine tm_callT S hM wk_Tx cw hp hn hsize hstack hW hdg hf (fun x st₀ t L h0 hal hL hq => ?_)
  · obtain ⟨⟨q, ce, hx, h1, h2, h3, h4, hP1, hD1⟩, hz, hk⟩ := hq
    cases hx
    rw [h0] at h4 hz hk
    have hF := va_free (wc := wc) hD hS hA is hC
    obtain ⟨hP2, hD2⟩ := wk_join hP hD is hnd hC ha (fun q a1 a2 => hk q a1 a2) hP1
    refine tm_leave hout (fun t' ht' hW' => ⟨⟨x, ce, rfl, by rw [ht']; exact h1, h2, ?_, Nat.le_trans hS.1 h4, by rw [ht']; exact hP2, hD2⟩, ?_, ?_⟩) (fun q hq => ?_) hlocks
    · rw [hW'.alike.findClass, ← hal.findClass]; exact h3
    · rw [ht']; exact Nat.le_trans hS.1 hz
    · intro q a1 a2
      rw [ht', hk q (Nat.lt_of_lt_of_le a1 hS.1) (fun z => a2 (hF q z))]
      exact hS.2.1 q a1 a2
    · rcases List.mem_append.mp hq with h | h
      · exact hS.2.2 q h
      · exact hF _ (hL q h)
end TU
