def st_Z (w : Cond) (A : Nat → Prop) (vm : Vm) (H : Heap) : Prop := ∀ U : State, vm.Alike U.vm → (∀ q : Nat, q < H.size → ¬ A q → U.heap[q]? = H[q]?) → ∀ args : Array Value, w.before args U = true
theorem st_Z.moved {w : Cond} {A : Nat → Prop} {vm vm' : Vm} {H : Heap} (h : st_Z w A vm H) (hv : vm.Alike vm') : st_Z w A vm' H := fun U hU hq => h U (hv.trans hU) hq
theorem st_Z.kept {w : Cond} {A : Nat → Prop} {vm : Vm} {H H1 : Heap} (h : st_Z w A vm H) (hk : ∀ q : Nat, q < H.size → ¬ A q → H1[q]? = H[q]?) : st_Z w A vm H1 := fun U hU hq => h U hU (fun q h1 h2 => by
  have e := hk q h1 h2
  have hl : q < H1.size := by
    rw [Array.getElem?_eq_getElem h1] at e
    exact (Array.getElem?_eq_some_iff.mp e).1
  rw [hq q hl h2, e])
theorem st_Z.narrow {w : Cond} {A B : Nat → Prop} {vm : Vm} {H : Heap} (h : st_Z w A vm H) (hAB : ∀ q, B q → A q) : st_Z w B vm H := fun U hU hq => h U hU (fun q h1 h2 => hq q h1 (fun z => h2 (hAB q z)))
def st_ws : List Cond := [.isRef (.static Bundle.tN "UNASSIGNED_STACK" Bundle.steD), .isRef (.static Bundle.tN "SUPPRESSED_SENTINEL" Bundle.listD), .laysStatic Bundle.tN "UNASSIGNED_STACK" Bundle.steD, .laysStatic Bundle.tN "SUPPRESSED_SENTINEL" Bundle.listD]
def st_A (A : Nat → Prop) (vm : Vm) (H : Heap) : Prop := ∀ w ∈ st_ws, st_Z w A vm H
def wk_P3 (av : List Value) (G : va_G) (ct : Nat → ClassId) (ws : va_W) (sz : Nat) : Array Value → State → Prop := fun a U => wk_P av G ct ws sz a U ∧ st_A (va_A ws sz) U.vm U.heap
theorem wk_blind3 {av : List Value} {G : va_G} {ct : Nat → ClassId} {ws : va_W} {sz : Nat} : FrameBlind (wk_P3 av G ct ws sz) := fun a U g mk q => ⟨wk_blind a U g mk q.1, q.2⟩
theorem wk_pre3 {s : State} {H : Heap} {G : va_G} {ct : Nat → ClassId} {wc : va_W} {A : Nat → Prop} {av : List Value} (hP : va_P G classes wc H) (hK : kk_K G ct s) (hD : va_D A wc) (hz : st_A (va_A wc H.size) s.vm H) : PreS s H (wk_P3 av G ct wc H.size) av :=
  ⟨wk_blind3, fun U hU hW => ⟨(wk_pre hP hK hD).2 U hU hW, fun w hw => by rw [hU]; exact (hz w hw).moved hW.alike⟩⟩
theorem st_hat {own X : String} {ic : Nat} {names : List String} {s : State} {args : Array Value} {A : Nat → Prop} {H : Heap} {locs : List Loc} (hg : ∀ w ∈ gt_tbl, w.before args s = true) (hN : kk_N s) (hz : st_A A s.vm s.heap) (hS : va_S A s.heap H locs)
    (hm : ∀ w ∈ Bundle.ownAtoms own ic X names, w ∈ gt_tbl ∨ w ∈ nw_tbl ∨ w ∈ st_ws) : ∀ U : State, s.WarmedH U.vm → U.heap = H → ∀ a ∈ Bundle.ownAtoms own ic X names, a.before args U = true := by
  intro U hW hU w hw
  rcases hm w hw with h | h | h
  · exact word_at hW (good_of_word (List.mem_filter.mp h).2) (hg w h)
  · exact va_tabs (Bool.and_eq_true_iff.mp (List.mem_filter.mp h).2).1 rfl ((hN.moved hW.alike) w h)
  · exact hz w h U hW.alike (fun q h1 h2 => by rw [hU]; exact hS.2.1 q h1 h2) args
theorem st_c {P : Cond → Prop} {w : Cond} {B : List Cond} (h : P w) (t : ∀ x ∈ B, P x) : ∀ x ∈ w :: B, P x := fun x hx => (List.mem_cons.mp hx).elim (fun e => e ▸ h) (t x)
