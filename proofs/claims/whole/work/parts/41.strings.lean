theorem sb_str {k : Nat} {tx : String} {cur : ClassId} {s : State} {args : Array Value} (hc : s.vm.findClass "PakeDesk" = some cur) (h : (Cond.stringRef "PakeDesk" k tx).before args s = true) : ∃ sa : Nat, vk_R "PakeDesk" k tx sa s := by
  obtain ⟨_, _, _, a, _, _, _, _, _, he⟩ := Cond.stringRef_spec hc h
  exact ⟨a, vk_R.of h he⟩
theorem sb_strs {cur : ClassId} {s : State} {args : Array Value} (hc : s.vm.findClass "PakeDesk" = some cur) (h : ∀ q ∈ st_tx, (Cond.stringRef "PakeDesk" q.1 q.2).before args s = true) : st_R s := fun q hq => sb_str hc (h q hq)
