theorem ti_at {st bg ck : Int32} (h : st = 0 ∨ st = 1 ∨ st = 2 ∨ st = 3) : sm_at st bg ck = se_at st bg ck := by
  unfold sm_at se_at
  rcases h with rfl | rfl | rfl | rfl
  · by_cases q : 20 ≤ ck - bg
    · rw [if_pos ⟨by decide, q⟩, if_pos ⟨Or.inl rfl, q⟩]
    · rw [if_neg (fun z => q z.2), if_neg (fun z => q z.2)]
  · by_cases q : 20 ≤ ck - bg
    · rw [if_pos ⟨by decide, q⟩, if_pos ⟨Or.inr rfl, q⟩]
    · rw [if_neg (fun z => q z.2), if_neg (fun z => q z.2)]
  · rw [if_neg (fun z => absurd z.1 (by decide)), if_neg (fun z => absurd z.1 (by decide))]
  · rw [if_neg (fun z => absurd z.1 (by decide)), if_neg (fun z => absurd z.1 (by decide))]
theorem ti_bl {fa l3 ck : Int32} : sm_bl fa l3 ck ↔ us_bl fa l3 ck := by
  have e : (2 < fa) ↔ (3 ≤ fa) := by
    rw [Int32.lt_iff_toInt_lt, Int32.le_iff_toInt_le]
    have e2 : (2 : Int32).toInt = 2 := by decide
    have e3 : (3 : Int32).toInt = 3 := by decide
    omega
  exact ⟨fun q => ⟨e.mp q.1, q.2⟩, fun q => ⟨e.mpr q.1, q.2⟩⟩
theorem ti_sa {sd nb wy : Int32} {sa : Int64} : sm_sa sd.toInt64 nb wy sa = us_sa sd nb wy sa := rfl
theorem ti_x0 {sec rc : Nat} : cl_x0 0 sec rc = pw_m 4 sec * pw_m 9 rc % pq_P ∧ cl_x0 1 sec rc = pw_m 4 sec := ⟨by unfold cl_x0; rw [if_neg (by decide)], by unfold cl_x0; rw [if_pos rfl]⟩
theorem ti_ny {sec rc : Nat} : sv_ny 0 sec rc = pw_m 4 sec * pw_m 25 rc % pq_P ∧ sv_ny 1 sec rc = (3 * rc + pw_m 4 sec) % pq_P := ⟨by unfold sv_ny; rw [if_pos rfl], by unfold sv_ny; rw [if_neg (by decide)]⟩
theorem ti_kv {nb : Int32} {sec x y rc : Nat} : sv_ky nb 0 sec x y rc = ky_w nb x y (pw_m (sv_um rc x) sec) rc ∧ sv_ky nb 1 sec x y rc = ky_s nb x y (sv_cm sec rc x (bl_n x y)) := ⟨by unfold sv_ky; rw [if_pos rfl], by unfold sv_ky; rw [if_neg (by decide)]⟩
theorem ti_kc {sd nb uw : Int32} {sec x y rc : Nat} {pw ul : Int64} : cl_ky sd nb 0 sec x y rc pw uw ul = ky_w nb x y (pw_m (cl_um rc y) sec) rc ∧ cl_ky sd nb 1 sec x y rc pw uw ul = ky_s nb x y (cl_cm sec (ex_n (us_sa sd nb uw ul) nb pw) y (bl_n x y)) := ⟨by unfold cl_ky; rw [if_pos rfl], by unfold cl_ky; rw [if_neg (by decide)]⟩
theorem ti_r0 {sd nb uw : Int32} {uo uv : Nat} : sv_r0 sd nb 0 uw uo uv = us_wd sd nb uw uo ∧ sv_r0 sd nb 1 uw uo uv = us_ve sd nb uw uv := ⟨by unfold sv_r0; rw [if_pos rfl], by unfold sv_r0; rw [if_neg (by decide)]⟩
