theorem sb_lay {C n d : String} {A : Nat → Prop} {s : State} {args : Array Value} (h : (Cond.laysStatic C n d).before args s = true) (hA : ∀ a : Nat, a < s.heap.size → ¬ A a) : st_Z (.laysStatic C n d) A s.vm s.heap := by
  intro U hU hq args'
  obtain ⟨c, k, i, f, a, cell, h1, h2, h3, h4, h5, h6, h7, h8, h9⟩ := Cond.laysStatic_spec h
  obtain ⟨k', hk', he⟩ := State.fieldFound?_setVm (s := s) hU h2
  have hl : a < s.heap.size := (Array.getElem?_eq_some_iff.mp h5).1
  exact Cond.laysStatic_of (s := U) (by rw [hU.findClass]; exact h1) hk' h3 (by rw [he]; exact h4) (by rw [hq a hl (hA a hl)]; exact h5) h6 h7 h8 (by rw [he]; exact h9)
theorem sb_ref {C n d : String} {A : Nat → Prop} {s : State} {args : Array Value} (hl : (Cond.laysStatic C n d).before args s = true) (hini : (Cond.initialized C).before args s = true) (h : (Cond.isRef (.static C n d)).before args s = true) (hA : ∀ a : Nat, a < s.heap.size → ¬ A a) : st_Z (.isRef (.static C n d)) A s.vm s.heap := by
  intro U hU hq args'
  have z : va_Zq C n d A U U.heap := (va_Zq.moved hU (va_Zqof hl hini h hA)).kept hq
  rcases z with z | ⟨t, z⟩ <;>
    (obtain ⟨cf, kf, fi, f, a, cell, h1, h2, h3, h4, h5, h6, h7, -⟩ := z
     simp [Cond.before, Cond.holds, Cond.value, Term.eval, State.fieldNamed?, h1, h2, h4, h5, h6, h7, Value.isRef])
theorem sb_all {A : Nat → Prop} {s : State} {args : Array Value} (hA : ∀ a : Nat, a < s.heap.size → ¬ A a) (hi : (Cond.initialized Bundle.tN).before args s = true)
    (h0 : (Cond.isRef (.static Bundle.tN "UNASSIGNED_STACK" Bundle.steD)).before args s = true) (h1 : (Cond.isRef (.static Bundle.tN "SUPPRESSED_SENTINEL" Bundle.listD)).before args s = true)
    (h2 : (Cond.laysStatic Bundle.tN "UNASSIGNED_STACK" Bundle.steD).before args s = true) (h3 : (Cond.laysStatic Bundle.tN "SUPPRESSED_SENTINEL" Bundle.listD).before args s = true) : st_A A s.vm s.heap :=
  st_c (sb_ref h2 hi h0 hA) (st_c (sb_ref h3 hi h1 hA) (st_c (sb_lay h2 hA) (st_c (sb_lay h3 hA) (fun _ h => nomatch h))))
