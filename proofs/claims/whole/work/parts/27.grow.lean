section GR
variable {p : Program} {l : Launch} {e : Env} {R : Room} {s : State} {m : MethodId} {args : Array Value} {below : List Frame} {meth : Method} {c : Code} {H H0 : Heap} {locs : List Loc} {cells slots : Nat} {Q : State → Prop}
variable {pc : Nat} {ls : Array Slot} {rest st0 : List Value} {a : Array Value} {A : Nat → Prop} {mc ms : Nat} {G : va_G} {ct : Nat → ClassId} {ws wc : va_W}
theorem wk_goX {S : Type} {out : Outcome → S → Prop} {w' : S → va_W} {wr : va_W} (hr : va_Run p l e R s m args below meth c H locs cells slots mc ms (F0 m pc ls st0) rest (wk_Q out w' G (va_A wc H.size) a) (va_A wc H.size)) (hP : va_P G classes ws H) (hD : va_D A ws) (hS : va_S A H0 H locs) (hA : ∀ q, H0.size ≤ q → A q) (is ir : List Nat) (hC : is.map (fun i => ws[i]?) = wc.map some) (hR : ir.map (fun i => ws[i]?) = wr.map some) (hn : va_nd ir = true) (hdis : ∀ i ∈ ir, i ∉ is)
    (kk : ∀ (v : Option Value) (u : S) (H1 : Heap) (locs1 : List Loc), out (.returned v) u → va_P G classes (wr ++ w' u) H1 → va_D A (wr ++ w' u) → va_S A H0 H1 locs1 → W p l e R s m args below meth c H1 locs1 (cells + mc) (slots + ms) Q (F0 m (pc + 3) ls (v.toList ++ rest))) : W p l e R s m args below meth c H locs cells slots Q (F0 m pc ls st0) := by
  intro T hT X
  obtain ⟨v, st₀, t, T', L, h0, X', hL, e1, e2, ⟨⟨u, ho, hP1, hD1⟩, hz, hk⟩, st⟩ := hr T hT X
  rw [h0] at hz hk
  have hF := va_free (wc := wc) hD hS hA is hC
  obtain ⟨hP2, hD2⟩ := va_join hP hD is ir hC hR hn hdis (fun q h1 h2 => hk q h1 h2) hF hP1 hD1
  obtain ⟨t2, a1, b1⟩ := kk v u t.heap (locs ++ L) ho hP2 hD2 (wk_S hS hF hz hk hL) T' e1 X'
  exact ⟨t2, st t2 a1, b1⟩
theorem wk_vX {S : Type} {ok : S → Prop} {w' : S → va_W} {wr : va_W} (hr : va_Run p l e R s m args below meth c H locs cells slots mc ms (F0 m pc ls st0) rest (wk_Q (wk_ov ok) w' G (va_A wc H.size) a) (va_A wc H.size)) (hP : va_P G classes ws H) (hD : va_D A ws) (hS : va_S A H0 H locs) (hA : ∀ q, H0.size ≤ q → A q) (is ir : List Nat) (hC : is.map (fun i => ws[i]?) = wc.map some) (hR : ir.map (fun i => ws[i]?) = wr.map some) (hn : va_nd ir = true) (hdis : ∀ i ∈ ir, i ∉ is)
    (kk : ∀ (u : S) (H1 : Heap) (locs1 : List Loc), ok u → va_P G classes (wr ++ w' u) H1 → va_D A (wr ++ w' u) → va_S A H0 H1 locs1 → W p l e R s m args below meth c H1 locs1 (cells + mc) (slots + ms) Q (F0 m (pc + 3) ls rest)) : W p l e R s m args below meth c H locs cells slots Q (F0 m pc ls st0) :=
  wk_goX hr hP hD hS hA is ir hC hR hn hdis (fun v u H1 locs1 ho h1 h2 h3 => by
    obtain ⟨hv, hok⟩ := ho
    cases hv
    exact kk u H1 locs1 hok h1 h2 h3)
theorem ra_RA {U : State} {cA cB : ClassId} {ty : FieldType} (h1 : va_RA U cA ty) (h2 : va_RA U cB ty) : cA = cB := by
  cases ty with
  | object C =>
    obtain ⟨_, _, _, _, _, a1⟩ := h1
    obtain ⟨_, _, _, _, _, a2⟩ := h2
    exact Option.some.inj (a1.symm.trans a2)
  | _ =>
    unfold va_RA at h1 h2
    exact Option.some.inj (h1.symm.trans h2)
theorem ra_one {D : va_G} {cl : List vw_C} {tys : List (ClassId × FieldType)} {cA c0 : ClassId} {ty : FieldType} {t0 : Nat} (hK : va_K D cl tys s) (ht : tys[t0]? = some (c0, ty)) (hK1 : va_K D cl (tys ++ [(cA, ty)]) s) : cA = c0 :=
  ra_RA (hK1.2 tys.length (cA, ty) (by rw [List.getElem?_append_right (Nat.le_refl _), Nat.sub_self]; rfl)).2 (hK.2 t0 _ ht).2
theorem ra_newa {cc : ByteArray} {D : va_G} {cl : List vw_C} {tys : List (ClassId × FieldType)} (hexec : p.tables.exec = Jvm.exec) (hb : c.code = cc) {atype : ArrayType} (harr : (Cond.arrayClass (newarray.typeOf atype)).before args s = true) {ty : FieldType} (hty : newarray.typeOf atype = ty) (hK : va_K D cl tys s) (t0 : Nat) {c0 : ClassId} (ht : tys[t0]? = some (c0, ty)) (hP : va_P D cl ws H) (hD : va_D A ws) (hS : va_S A H0 H locs) (hA : ∀ q, H0.size ≤ q → A q)
    {n : Int32} {N' : Nat} {a0 : vp_A} (ha : ∀ cA : ClassId, vp_cell cA a0 = arrV cA N' (fun _ => defaultValue ty)) (hn : ¬ n < 0) (hN : n.toNatClampNeg = N') (hbytes : N' * componentBytes ty ≤ 536870912) (hcells : cells + 1 ≤ R.cells) (hslots : slots + N' ≤ R.slots) (hdg : decode cc pc = .ok (.newarray atype, 2))
    (kk : ∀ (q : Nat) (H1 : Heap), va_P D cl (ws ++ [(q, .inl (c0, a0))]) H1 → va_D A (ws ++ [(q, .inl (c0, a0))]) → va_S A H0 H1 locs →
      W p l e R s m args below meth c H1 locs (cells + 1) (slots + N') Q (F0 m (pc + 2) ls (.ref q :: rest))) : W p l e R s m args below meth c H locs cells slots Q (F0 m pc ls (.int n :: rest)) := by
  refine va_newa hexec hb harr hty hK hP hD hS hA ha hn hN hbytes hcells hslots hdg (fun q cA H1 hK1 hP1 hD1 hS1 => ?_)
  have e := ra_one hK ht hK1
  subst e
  exact kk q H1 hP1 hD1 hS1
theorem ra_newq {cc : ByteArray} {D : va_G} {cl : List vw_C} {tys : List (ClassId × FieldType)} (hexec : p.tables.exec = Jvm.exec) (hb : c.code = cc) {own C : String} {index : Nat} (hown : s.vm.findClass own = some m.cls) (hclink : (Cond.classLink own index C).before args s = true) (hover : va_AO C s) (hK : va_K D cl tys s) (t0 : Nat) {c0 : ClassId} (ht : tys[t0]? = some (c0, .object C)) (hP : va_P D cl ws H) (hD : va_D A ws) (hS : va_S A H0 H locs) (hA : ∀ q, H0.size ≤ q → A q)
    {n : Int32} {N' : Nat} (hn : ¬ n < 0) (hN : n.toNatClampNeg = N') (hbytes : N' * 4 ≤ 536870912) (hcells : cells + 1 ≤ R.cells) (hslots : slots + N' ≤ R.slots) (hdg : decode cc pc = .ok (.anewarray index, 3))
    (kk : ∀ (q : Nat) (H1 : Heap), va_P D cl (ws ++ [(q, .inl (c0, N', .inr (.inr (.inr (.inr (fun _ => none))))))]) H1 → va_D A (ws ++ [(q, .inl (c0, N', .inr (.inr (.inr (.inr (fun _ => none))))))]) → va_S A H0 H1 locs →
      W p l e R s m args below meth c H1 locs (cells + 1) (slots + N') Q (F0 m (pc + 3) ls (.ref q :: rest))) : W p l e R s m args below meth c H locs cells slots Q (F0 m pc ls (.int n :: rest)) := by
  refine va_newq hexec hb hown hclink hover hK hP hD hS hA hn hN hbytes hcells hslots hdg (fun q cA H1 hK1 hP1 hD1 hS1 => ?_)
  have e := ra_one hK ht hK1
  subst e
  exact kk q H1 hP1 hD1 hS1
theorem ra_c0 (cA : ClassId) : vp_cell cA (8, .inl (fun _ => 0)) = arrV cA 8 (fun _ => defaultValue .int) := rfl
theorem ra_c1 (cA : ClassId) : vp_cell cA (8, .inr (.inl (fun _ => 0))) = arrV cA 8 (fun _ => defaultValue .long) := rfl
end GR
def m_w0 : Nat → Int32 := upd (upd (upd (upd (upd (upd (upd (upd (fun _ => 0) 0 (-1)) 1 (-1)) 2 (-1)) 3 (-1)) 4 (-1)) 5 (-1)) 6 (-1)) 7 (-1)
theorem m_w0_at : ∀ k, k < 8 → m_w0 k = -1 := by decide
