theorem ww_18 : (Jvm.Cond.instantiable "PakeDesk" (4 : Nat)) ∈ gt_tbl := gt_m (List.mem_append_right _ (List.mem_append_left _ (List.mem_of_getElem? (i := 18) (by decide +kernel)))) (by decide)
theorem ww_635 : (Jvm.Cond.instantiable "PakeDeskModel" (25 : Nat)) ∈ gt_tbl := gt_m (List.mem_append_right _ (List.mem_append_right _ (List.mem_append_right _ (List.mem_append_left _ (List.mem_of_getElem? (i := 155) (by decide +kernel)))))) (by decide)
theorem kk_of {s : State} {args : Array Value} (hw : ∀ w ∈ gt_tbl, w.before args s = true) (hN : kk_N s) (h3 : va_AO "PakeDesk$User" s) (h4 : va_AO "PakeDesk$Session" s) : ∃ (G : va_G) (ct : Nat → ClassId), kk_K G ct s ∧ s.vm.findClass "PakeDesk" = some (G.1 0) := by
  obtain ⟨c0, i0, k0⟩ := u_known (N := 4) hw uw_D (hw _ ww_18)
  obtain ⟨c1, i1, k1⟩ := u_known (N := 10) hw uw_U (hw _ ww_27)
  obtain ⟨c2, i2, k2⟩ := u_known (N := 13) hw uw_C (hw _ ww_278)
  obtain ⟨c3, i3, k3⟩ := u_known (N := 12) hw uw_V (hw _ ww_385)
  obtain ⟨c4, i4, k4⟩ := u_known (N := 25) hw uw_M (hw _ ww_635)
  obtain ⟨t0, _, _, p0, q0, r0⟩ := Cond.arrayClass_spec (hw _ ww_716)
  obtain ⟨t1, _, _, p1, q1, r1⟩ := Cond.arrayClass_spec (hw _ ww_717)
  obtain ⟨t2, _, _, p2, q2, r2⟩ := Cond.arrayClass_spec (hw _ ww_718)
  obtain ⟨m3, t3, _, n3, _, p3, q3, r3⟩ := Cond.arrayOver_spec (va_AO.use (A := #[]) h3)
  obtain ⟨m4, t4, _, n4, _, p4, q4, r4⟩ := Cond.arrayOver_spec (va_AO.use (A := #[]) h4)
  refine ⟨(fun c => match c with | 0 => c0 | 1 => c1 | 2 => c2 | 3 => c3 | _ => c4, fun c => match c with | 0 => i0 | 1 => i1 | 2 => i2 | 3 => i3 | _ => i4), fun c => match c with | 0 => t0 | 1 => t1 | 2 => t2 | 3 => t3 | _ => t4, ⟨⟨?_, ?_⟩, hN⟩, k0.2.1⟩
  · intro c q hq
    match c, hq with
    | 0, hq => cases hq; exact k0
    | 1, hq => cases hq; exact k1
    | 2, hq => cases hq; exact k2
    | 3, hq => cases hq; exact k3
    | 4, hq => cases hq; exact k4
    | c + 5, hq => cases hq
  · intro c q hq
    match c, hq with
    | 0, hq => cases hq; exact ⟨fun _ _ => ⟨(fun k h => by cases h), _, q0, _, r0⟩, p0⟩
    | 1, hq => cases hq; exact ⟨fun _ _ => ⟨(fun k h => by cases h), _, q1, _, r1⟩, p1⟩
    | 2, hq => cases hq; exact ⟨fun _ _ => ⟨(fun k h => by cases h), _, q2, _, r2⟩, p2⟩
    | 3, hq => cases hq; exact ⟨fun _ _ => ⟨(fun k h => by cases h), _, p3, _, q3⟩, _, _, p3, q3, n3, r3⟩
    | 4, hq => cases hq; exact ⟨fun _ _ => ⟨(fun k h => by cases h), _, p4, _, q4⟩, _, _, p4, q4, n4, r4⟩
    | c + 5, hq => cases hq
theorem lw_ctx {p : Program} {s : State} {m : MethodId} {meth : Method} {c : Code} (l : Launch) (hfl : l.flags = pinnedFlags ++ [noTraceFlag]) {b L : Nat} {xs : Nat → Int32} (hL : L ≤ 3585) (C0 : lw_At p s m meth c b L xs) : ∃ (G : va_G) (ct : Nat → ClassId), lc_C p l s m meth c b L xs G ct (fun q => s.heap.size ≤ q) ∧ va_AO "PakeDesk$User" s ∧ va_AO "PakeDesk$Session" s := by
  obtain ⟨hx, hb, hr, hml, hown, htl, hX, hbl, hlocks, hgv⟩ := C0
  have hw : ∀ w ∈ gt_tbl, w.before #[Value.ref b] s = true := fun w h => htl w (List.mem_filter.mp h).1
  have hN : kk_N s := fun w h => va_tabs (Bool.and_eq_true_iff.mp (List.mem_filter.mp h).2).1 rfl (htl w (List.mem_filter.mp h).1)
  have h3 : va_AO "PakeDesk$User" s := va_AO.of (htl _ (show (Jvm.Cond.arrayOver (Jvm.ClassFile.FieldType.object "PakeDesk$User")) ∈ lw_tbl from List.mem_append_right _ (List.mem_append_left _ (List.mem_of_getElem? (i := 26) (by decide +kernel)))))
  have h4 : va_AO "PakeDesk$Session" s := va_AO.of (htl _ (show (Jvm.Cond.arrayOver (Jvm.ClassFile.FieldType.object "PakeDesk$Session")) ∈ lw_tbl from List.mem_append_right _ (List.mem_append_left _ (List.mem_of_getElem? (i := 67) (by decide +kernel)))))
  obtain ⟨G, ct, hK, hc⟩ := kk_of hw hN h3 h4
  have hf := flat_of_before _ hgv
  have s2 := htl _ (show (Jvm.Cond.laysStatic "java/lang/Throwable" "UNASSIGNED_STACK" "[Ljava/lang/StackTraceElement;") ∈ lw_tbl from List.mem_append_right _ (List.mem_append_left _ (List.mem_of_getElem? (i := 219) (by decide +kernel))))
  have s3 := htl _ (show (Jvm.Cond.laysStatic "java/lang/Throwable" "SUPPRESSED_SENTINEL" "Ljava/util/List;") ∈ lw_tbl from List.mem_append_right _ (List.mem_append_left _ (List.mem_of_getElem? (i := 221) (by decide +kernel))))
  have hZ : st_A (fun q => s.heap.size ≤ q) s.vm s.heap := sb_all (args := #[Value.ref b]) (fun a ha => Nat.not_le.mpr ha) (hw _ ww_6) (hf _ (by decide +kernel)) (hf _ (by decide +kernel)) s2 s3
  have hR : st_R s := sb_strs hc (hc_c (htl _ (show (Jvm.Cond.stringRef "PakeDesk" (52 : Nat) "no such user or way") ∈ lw_tbl from List.mem_append_right _ (List.mem_append_left _ (List.mem_of_getElem? (i := 234) (by decide +kernel))))) (hc_c (htl _ (show (Jvm.Cond.stringRef "PakeDesk" (59 : Nat) "there are as many sessions as there may be") ∈ lw_tbl from List.mem_append_right _ (List.mem_append_right _ (List.mem_append_left _ (List.mem_of_getElem? (i := 30) (by decide +kernel)))))) (hc_c (htl _ (show (Jvm.Cond.stringRef "PakeDesk" (74 : Nat) "the user is blocked") ∈ lw_tbl from List.mem_append_right _ (List.mem_append_right _ (List.mem_append_left _ (List.mem_of_getElem? (i := 143) (by decide +kernel)))))) (hc_c (htl _ (show (Jvm.Cond.stringRef "PakeDesk" (95 : Nat) "no such session") ∈ lw_tbl from List.mem_append_right _ (List.mem_append_right _ (List.mem_append_left _ (List.mem_of_getElem? (i := 197) (by decide +kernel)))))) (hc_c (htl _ (show (Jvm.Cond.stringRef "PakeDesk" (120 : Nat) "a first message that is not right") ∈ lw_tbl from List.mem_append_right _ (List.mem_append_right _ (List.mem_append_right _ (List.mem_append_left _ (List.mem_of_getElem? (i := 85) (by decide +kernel))))))) (hc_c (htl _ (show (Jvm.Cond.stringRef "PakeDesk" (128 : Nat) "a confirmation that is not right") ∈ lw_tbl from List.mem_append_right _ (List.mem_append_right _ (List.mem_append_right _ (List.mem_append_left _ (List.mem_of_getElem? (i := 123) (by decide +kernel))))))) (hc_c (htl _ (show (Jvm.Cond.stringRef "PakeDesk" (131 : Nat) "the session does not wait for a message") ∈ lw_tbl from List.mem_append_right _ (List.mem_append_right _ (List.mem_append_right _ (List.mem_append_left _ (List.mem_of_getElem? (i := 130) (by decide +kernel))))))) (hc_c (htl _ (show (Jvm.Cond.stringRef "PakeDesk" (101 : Nat) "the session is not finished") ∈ lw_tbl from List.mem_append_right _ (List.mem_append_right _ (List.mem_append_right _ (List.mem_append_left _ (List.mem_of_getElem? (i := 145) (by decide +kernel))))))) (hc_c (htl _ (show (Jvm.Cond.stringRef "PakeDesk" (111 : Nat) "so many ticks can't go by at once") ∈ lw_tbl from List.mem_append_right _ (List.mem_append_right _ (List.mem_append_right _ (List.mem_append_left _ (List.mem_of_getElem? (i := 153) (by decide +kernel))))))) (fun _ h => nomatch h))))))))))
  have hNc : nc_A s := ⟨va_Nc.of (hf (.not (.castable "java/lang/IllegalStateException" "java/lang/IllegalArgumentException")) (by decide +kernel)), va_Nc.of (hf (.not (.castable "java/lang/IllegalStateException" "java/util/NoSuchElementException")) (by decide +kernel)), va_Nc.of (hf (.not (.castable "java/lang/IllegalArgumentException" "java/util/NoSuchElementException")) (by decide +kernel)), va_Nc.of (hf (.not (.castable "java/lang/IllegalArgumentException" "java/lang/IllegalStateException")) (by decide +kernel)), va_Nc.of (hf (.not (.castable "java/lang/UnsupportedOperationException" "java/util/NoSuchElementException")) (by decide +kernel)), va_Nc.of (hf (.not (.castable "java/lang/UnsupportedOperationException" "java/lang/IllegalStateException")) (by decide +kernel)), va_Nc.of (hf (.not (.castable "java/lang/UnsupportedOperationException" "java/lang/IllegalArgumentException")) (by decide +kernel))⟩
  exact ⟨G, ct, ⟨hx, hb, hr, hml, hown, hw, hK, hZ, hR, hNc, hfl, fun q h => h, Nat.not_le.mpr hbl, hX, hbl, hL, hlocks⟩, h3, h4⟩
