abbrev bt_w (e : Int64) : Prop := 1 ≤ e ∧ e ≤ 2147483578
abbrev em_k (e : Int64) : Prop := bt_w e ∧ pw_m e.toBitVec.toNat pq_Q = 1
def us_wd (sd nb wy : Int32) (wo : Nat) : Nat := if wy = 0 then wo else sc_n (dg_3 3 sd.toInt64 nb.toInt64)
def us_sa (sd nb wy : Int32) (sa : Int64) : Int64 := if wy = 1 then sa else dg_3 4 sd.toInt64 nb.toInt64
def us_ve (sd nb wy : Int32) (ve : Nat) : Nat := if wy = 1 then ve else pw_m 4 (sc_n (dg_3 5 sd.toInt64 nb.toInt64))
abbrev us_bl (fa l3 ck : Int32) : Prop := 3 ≤ fa ∧ ck - l3 < 30
def se_at (st bg ck : Int32) : Int32 := if (st = 0 ∨ st = 1) ∧ 20 ≤ ck - bg then 4 else st
def cl_um (w n : Nat) : Nat := n * pw_m 25 (pq_Q - w) % pq_P
def sv_um (w n : Nat) : Nat := n * pw_m 9 (pq_Q - w) % pq_P
def ky_w (nb : Int32) (x y t w : Nat) : Int64 := dg_6 6 nb.toInt64 (lN x) (lN y) (lN t) (lN w)
def ky_s (nb : Int32) (x y t : Nat) : Int64 := dg_5 8 nb.toInt64 (lN x) (lN y) (lN t)
def bl_n (x y : Nat) : Nat := sc_n (dg_3 7 (lN x) (lN y))
def cl_cm (sec ex y u : Nat) : Nat := pw_m ((y + (pq_P - 3 * pw_m 4 ex % pq_P)) % pq_P) ((sec + u * ex) % pq_Q)
def sv_cm (sec h x u : Nat) : Nat := pw_m (x * pw_m h u % pq_P) sec
def cf_c (key : Int64) (x y : Nat) : Int64 := dg_4 9 key (lN x) (lN y)
def cf_s (key cc : Int64) : Int64 := dg_3 10 key cc
theorem bt_of {e : Int64} (h : bt_w e) : e = lN e.toBitVec.toNat ∧ 1 ≤ e.toBitVec.toNat ∧ e.toBitVec.toNat < pq_P := by
  obtain ⟨h1, h2⟩ := h
  have h0 : ¬ e < 0 := by
    simp only [Int64.le_iff_toInt_le, Int64.lt_iff_toInt_lt] at *
    have e1 : (1 : Int64).toInt = 1 := by decide
    have e0 : (0 : Int64).toInt = 0 := by decide
    omega
  obtain ⟨k, hk, rfl⟩ := pk_lOf h0
  have hn : (lN k).toBitVec.toNat = k := ln_nat (by omega)
  rw [hn]
  have a1 : lN 1 ≤ lN k := h1
  have a2 : lN k ≤ lN 2147483578 := h2
  rw [pk_lLE (by decide) hk] at a1
  rw [pk_lLE hk (by decide)] at a2
  refine ⟨rfl, a1, ?_⟩
  show k < 2147483579
  omega
theorem bz_t {P : Prop} [Decidable P] (h : ¬ (if P then (1 : Int32) else 0) = 0) : P := by
  by_cases hp : P
  · exact hp
  · exact absurd (if_neg hp) h
theorem bz_f {P : Prop} [Decidable P] (h : (if P then (1 : Int32) else 0) = 0) : ¬ P := fun hp => by
  rw [if_pos hp] at h
  exact absurd h (by decide)
theorem bt_yes {e : Int64} (h1 : e < 1 → False) (h2 : 2147483578 < e → False) : bt_w e := ⟨Int64.not_lt.mp h1, Int64.not_lt.mp h2⟩
theorem bt_no1 {e : Int64} (h : e < 1) : ¬ bt_w e := fun q => (Int64.not_lt.mpr q.1) h
theorem bt_no2 {e : Int64} (h : 2147483578 < e) : ¬ bt_w e := fun q => (Int64.not_lt.mpr q.2) h
abbrev rt_c (wy : Int32) (rc : Nat) (e : Int64) : Prop := bt_w e ∧ (wy = 1 ∨ (pw_m e.toBitVec.toNat pq_Q = 1 ∧ ¬ cl_um rc e.toBitVec.toNat = 1))
abbrev rt_v (wy : Int32) (rc : Nat) (e : Int64) : Prop := bt_w e ∧ (wy = 1 ∨ (pw_m e.toBitVec.toNat pq_Q = 1 ∧ ¬ sv_um rc e.toBitVec.toNat = 1))
def cl_ky (sd nb wy : Int32) (sec x y rc : Nat) (pw : Int64) (uw : Int32) (ul : Int64) : Int64 := if wy = 0 then ky_w nb x y (pw_m (cl_um rc y) sec) rc else ky_s nb x y (cl_cm sec (ex_n (us_sa sd nb uw ul) nb pw) y (bl_n x y))
def sv_ny (wy : Int32) (sec rc : Nat) : Nat := if wy = 0 then pw_m 4 sec * pw_m 25 rc % pq_P else (3 * rc + pw_m 4 sec) % pq_P
def sv_ky (nb wy : Int32) (sec x y rc : Nat) : Int64 := if wy = 0 then ky_w nb x y (pw_m (sv_um rc x) sec) rc else ky_s nb x y (sv_cm sec rc x (bl_n x y))
def cl_x0 (wy : Int32) (sec rc : Nat) : Nat := if wy = 1 then pw_m 4 sec else pw_m 4 sec * pw_m 9 rc % pq_P
def sv_r0 (sd nb wy uw : Int32) (uo uv : Nat) : Nat := if wy = 0 then us_wd sd nb uw uo else us_ve sd nb uw uv
theorem ln_exQ {sec u ex : Nat} (h1 : sec < pq_Q) (h2 : u < pq_Q) (h3 : ex < pq_Q) : lN sec + lN u * lN ex - (lN sec + lN u * lN ex) / 1073741789 * 1073741789 = lN ((sec + u * ex) % pq_Q) := by
  rw [lN_mul, lN_add]
  have h : sec + u * ex < 2 ^ 63 := by
    have a1 : u * ex ≤ pq_Q * pq_Q := Nat.mul_le_mul (Nat.le_of_lt h2) (Nat.le_of_lt h3)
    have a2 : pq_Q + pq_Q * pq_Q < 2 ^ 63 := by decide
    omega
  exact pk_lRem h (by decide) (by decide)
theorem ln_3hP {a b : Nat} (h1 : a < pq_P) (h2 : b < pq_P) : 3 * lN a + lN b - (3 * lN a + lN b) / 2147483579 * 2147483579 = lN ((3 * a + b) % pq_P) := by
  have e1 : (3 : Int64) * lN a = lN (3 * a) := lN_mul 3 a
  rw [e1, lN_add]
  have h : 3 * a + b < 2 ^ 63 := by
    have a1 : pq_P * 4 < 2 ^ 63 := by decide
    omega
  exact pk_lRem h (by decide) (by decide)
theorem qz_lt (a : Nat) : a % pq_Q < 2 ^ 30 := Nat.lt_trans (Nat.mod_lt _ (by decide)) (by decide)
theorem qs_30 {a : Nat} (h : a < pq_Q) : a < 2 ^ 30 := Nat.lt_trans h (by decide)
theorem qs_P {a : Nat} (h : a < pq_Q) : a < pq_P := Nat.lt_trans h (by decide)
theorem fm_ge {d : Nat} (h : d < pq_P) : 0 ≤ lN d ^^^ 2147483579 := by
  have e1 : lN d ^^^ 2147483579 = lN (d ^^^ 2147483579) := by
    apply Int64.toBitVec_inj.mp
    show BitVec.ofNat 64 d ^^^ BitVec.ofNat 64 2147483579 = BitVec.ofNat 64 (d ^^^ 2147483579)
    apply BitVec.eq_of_toNat_eq
    have hd : d < 2 ^ 64 := Nat.lt_trans h (by decide)
    have hx : d ^^^ 2147483579 < 2 ^ 64 := Nat.xor_lt_two_pow hd (by decide)
    rw [BitVec.toNat_xor, BitVec.toNat_ofNat, BitVec.toNat_ofNat, BitVec.toNat_ofNat, Nat.mod_eq_of_lt hd, Nat.mod_eq_of_lt hx, Nat.mod_eq_of_lt (by decide)]
  rw [e1]
  have hx : d ^^^ 2147483579 < 2 ^ 31 := Nat.xor_lt_two_pow (Nat.lt_trans h (by decide)) (by decide)
  show lN 0 ≤ lN (d ^^^ 2147483579)
  rw [pk_lLE (by decide) (by omega)]
  omega
theorem fm_int {y h : Nat} (hy : y < pq_P) (hh : h < pq_P) : (lN y - lN h).toInt = (y : Int) - h := by
  have a1 : (lN y).toInt = (y : Int) := pk_lT (Nat.lt_trans hy (by decide))
  have a2 : (lN h).toInt = (h : Int) := pk_lT (Nat.lt_trans hh (by decide))
  have b1 : y < 2147483579 := hy
  have b2 : h < 2147483579 := hh
  rw [Jvm.Kit.i64_sub (by rw [a1, a2]; omega) (by rw [a1, a2]; omega), a1, a2]
theorem fm_lt {y h : Nat} (hy : y < pq_P) (hh : h < pq_P) (hlt : y < h) : ¬ 0 ≤ (lN y - lN h) ^^^ 2147483579 := by
  have e1 := fm_int hy hh
  have m1 : (lN y - lN h).toBitVec.msb = true := by
    rw [BitVec.msb_eq_toInt]
    have : (lN y - lN h).toBitVec.toInt = (y : Int) - h := e1
    rw [this]
    exact decide_eq_true (by omega)
  have m2 : ((lN y - lN h) ^^^ 2147483579).toBitVec.msb = true := by
    show ((lN y - lN h).toBitVec ^^^ (2147483579 : Int64).toBitVec).msb = true
    rw [BitVec.msb_xor, m1]
    decide
  rw [BitVec.msb_eq_toInt] at m2
  have m3 := of_decide_eq_true m2
  intro q
  rw [Int64.le_iff_toInt_le] at q
  have z : (0 : Int64).toInt = 0 := by decide
  rw [z] at q
  have m4 : ((lN y - lN h) ^^^ 2147483579).toInt < 0 := m3
  omega
theorem fm_rem {y h : Nat} (hy : y < pq_P) (hh : h < pq_P) (hlt : y < h) : (lN y - lN h) - (lN y - lN h) / 2147483579 * 2147483579 = lN y - lN h := by
  apply Int64.toInt_inj.mp
  have p1 : (2147483579 : Int64).toInt = 2147483579 := by decide
  have b2 : h < 2147483579 := hh
  rw [Jvm.Kit.i64_rem, fm_int hy hh, p1]
  have e2 : ((y : Int) - h) = -((h - y : Nat) : Int) := by omega
  rw [e2, Int.neg_tmod]
  congr 1
  exact Int.tmod_eq_of_lt (by omega) (by omega)
theorem fm_ne {y h : Nat} (hy : y < pq_P) (hh : h < pq_P) (hlt : y < h) : ¬ lN y - lN h = 0 := fun q => by
  have e1 := fm_int hy hh
  rw [q] at e1
  have z : (0 : Int64).toInt = 0 := by decide
  omega
theorem fm_add {y h : Nat} (hy : y < pq_P) (hh : h < pq_P) (hlt : y < h) : lN y - lN h + 2147483579 = lN ((y + (pq_P - h)) % pq_P) := by
  have b1 : y < 2147483579 := hy
  have b2 : h < 2147483579 := hh
  have e0 : (y + (pq_P - h)) % pq_P = y + (2147483579 - h) := Nat.mod_eq_of_lt (by show y + (2147483579 - h) < 2147483579; omega)
  rw [e0]
  apply Int64.toInt_inj.mp
  have p1 : (2147483579 : Int64).toInt = 2147483579 := by decide
  have e1 := fm_int hy hh
  rw [Jvm.Kit.i64_add (by rw [e1, p1]; omega) (by rw [e1, p1]; omega), e1, p1, pk_lT (by omega)]
  omega
theorem fm_sub {y h : Nat} (hy : y < pq_P) (hh : h ≤ y) : (y + (pq_P - h)) % pq_P = y - h := by
  have b1 : y < 2147483579 := hy
  have e0 : y + (pq_P - h) = (y - h) + pq_P := by show y + (2147483579 - h) = (y - h) + 2147483579; omega
  rw [e0, Nat.add_mod_right]
  exact Nat.mod_eq_of_lt (by show y - h < 2147483579; omega)
theorem ln_e1 {n : Nat} {w : Nat} (h : lN (n * w % pq_P) = 1) : n * w % pq_P = 1 := (pk_lEQ (Nat.lt_trans (Nat.mod_lt _ pq_pos) (by decide)) (by decide)).mp h
def ix_w (n : Nat) (a : Nat → Nat) (e : Nat → va_E) : va_W := (List.range n).map (fun i => (a i, e i))
theorem ix_len (n : Nat) (a : Nat → Nat) (e : Nat → va_E) : (ix_w n a e).length = n := by
  unfold ix_w
  rw [List.length_map, List.length_range]
theorem ix_get {n i : Nat} {a : Nat → Nat} {e : Nat → va_E} (h : i < n) : (ix_w n a e)[i]? = some (a i, e i) := by
  unfold ix_w
  rw [List.getElem?_map, List.getElem?_range h]
  rfl
theorem ix_none {n i : Nat} {a : Nat → Nat} {e : Nat → va_E} (h : ¬ i < n) : (ix_w n a e)[i]? = none := by
  rw [List.getElem?_eq_none_iff, ix_len]
  omega
theorem ix_set {n i : Nat} {a : Nat → Nat} {e : Nat → va_E} {v : va_E} : (ix_w n a e).set i (a i, v) = ix_w n a (va_up e i v) := by
  apply List.ext_getElem?
  intro j
  by_cases hj : j < n
  · by_cases hi : i = j
    · subst hi
      rw [List.getElem?_set_self (by rw [ix_len]; exact hj), ix_get hj, va_up_self]
    · rw [List.getElem?_set_ne hi, ix_get hj, ix_get hj, va_up_ne _ _ (Ne.symm hi)]
  · rw [ix_none hj, List.getElem?_eq_none_iff, List.length_set, ix_len]
    omega
theorem ix_push {n q : Nat} {a : Nat → Nat} {e : Nat → va_E} {v : va_E} : ix_w n a e ++ [(q, v)] = ix_w (n + 1) (va_up a n q) (va_up e n v) := by
  unfold ix_w
  rw [List.range_succ, List.map_append, List.map_cons, List.map_nil, va_up_self, va_up_self]
  congr 1
  apply List.map_congr_left
  intro i hi
  have : i ≠ n := Nat.ne_of_lt (List.mem_range.mp hi)
  rw [va_up_ne _ _ this, va_up_ne _ _ this]
theorem ix_congr {n : Nat} {a a' : Nat → Nat} {e e' : Nat → va_E} (h : ∀ i, i < n → a i = a' i ∧ e i = e' i) : ix_w n a e = ix_w n a' e' := by
  unfold ix_w
  apply List.map_congr_left
  intro i hi
  obtain ⟨h1, h2⟩ := h i (List.mem_range.mp hi)
  rw [h1, h2]
section PL
variable {X Y : va_W} {n i : Nat} {a : Nat → Nat} {e : Nat → va_E} {v : va_E}
theorem pl_get (hX : X.length = 3) (h : i < n) : (X ++ (ix_w n a e ++ Y))[3 + i]? = some (a i, e i) := by
  rw [List.getElem?_append_right (by omega), hX, Nat.add_sub_cancel_left, List.getElem?_append_left (by rw [ix_len]; exact h), ix_get h]
theorem pl_set (hX : X.length = 3) (h : i < n) : (X ++ (ix_w n a e ++ Y)).set (3 + i) (a i, v) = X ++ (ix_w n a (va_up e i v) ++ Y) := by
  rw [List.set_append, if_neg (by omega), hX, Nat.add_sub_cancel_left, List.set_append, if_pos (by rw [ix_len]; exact h), ix_set]
theorem pl_get2 {m : Nat} {b : Nat → Nat} {f : Nat → va_E} (hX : X.length = 3) (h : i < n) : (X ++ (ix_w m b f ++ ix_w n a e))[3 + (m + i)]? = some (a i, e i) := by
  rw [List.getElem?_append_right (by omega), hX, Nat.add_sub_cancel_left, List.getElem?_append_right (by rw [ix_len]; omega), ix_len, Nat.add_sub_cancel_left, ix_get h]
theorem pl_set2 {m : Nat} {b : Nat → Nat} {f : Nat → va_E} (hX : X.length = 3) : (X ++ (ix_w m b f ++ ix_w n a e)).set (3 + (m + i)) (a i, v) = X ++ (ix_w m b f ++ ix_w n a (va_up e i v)) := by
  rw [List.set_append, if_neg (by omega), hX, Nat.add_sub_cancel_left, List.set_append, if_neg (by rw [ix_len]; omega), ix_len, Nat.add_sub_cancel_left, ix_set]
end PL
abbrev us_T : Type := Int32 × Nat × Int64 × Nat × Int32 × Int32 × Int32 × Int32
abbrev ss_T : Type := Bool × Nat × Int32 × Nat × Int32 × Int64 × Nat × Int32 × Nat × Nat × Int64 × Int64 × Int64 × Int64
abbrev cs_T : Type := Nat × Int32 × (Nat → us_T) × (Nat → ss_T)
abbrev sv_b (q : ss_T) : Bool := q.1
abbrev sv_u (q : ss_T) : Nat := q.2.1
abbrev sv_w (q : ss_T) : Int32 := q.2.2.1
abbrev sv_s (q : ss_T) : Nat := q.2.2.2.1
abbrev sv_g (q : ss_T) : Int32 := q.2.2.2.2.1
abbrev sv_p (q : ss_T) : Int64 := q.2.2.2.2.2.1
abbrev sv_r (q : ss_T) : Nat := q.2.2.2.2.2.2.1
abbrev sv_t (q : ss_T) : Int32 := q.2.2.2.2.2.2.2.1
abbrev sv_x (q : ss_T) : Nat := q.2.2.2.2.2.2.2.2.1
abbrev sv_y (q : ss_T) : Nat := q.2.2.2.2.2.2.2.2.2.1
abbrev sv_k (q : ss_T) : Int64 := q.2.2.2.2.2.2.2.2.2.2.1
abbrev sv_c (q : ss_T) : Int64 := q.2.2.2.2.2.2.2.2.2.2.2.1
abbrev sv_d (q : ss_T) : Int64 := q.2.2.2.2.2.2.2.2.2.2.2.2.1
abbrev sv_m (q : ss_T) : Int64 := q.2.2.2.2.2.2.2.2.2.2.2.2.2
abbrev sv_z (q : ss_T) (t : Int32) (x y : Nat) (k c d m : Int64) : ss_T := (sv_b q, sv_u q, sv_w q, sv_s q, sv_g q, sv_p q, sv_r q, t, x, y, k, c, d, m)
def us_kp (nb : Int32) (u : us_T) (wy : Int32) (pw sa : Int64) : us_T := if wy = 0 then (wy, wd_n nb pw, u.2.2) else (wy, u.2.1, sa, pw_m 4 (ex_n sa nb pw), u.2.2.2.2)
def us_fl (u : us_T) (ck : Int32) : us_T := (u.1, u.2.1, u.2.2.1, u.2.2.2.1, u.2.2.2.2.1 + 1, ck, u.2.2.2.2.2.1, u.2.2.2.2.2.2.1)
def us_ok (u : us_T) : us_T := (u.1, u.2.1, u.2.2.1, u.2.2.2.1, 0, u.2.2.2.2.2.1, u.2.2.2.2.2.2.1, u.2.2.2.2.2.2.2)
def se_um (q : ss_T) (n : Nat) : Nat := if sv_b q then sv_um (sv_r q) n else cl_um (sv_r q) n
abbrev se_rt (q : ss_T) (e : Int64) : Prop := bt_w e ∧ (sv_w q = 1 ∨ (pw_m e.toBitVec.toNat pq_Q = 1 ∧ ¬ se_um q e.toBitVec.toNat = 1))
def se_ky (q : ss_T) (sd nb : Int32) (u : us_T) (x y n : Nat) : Int64 :=
  if sv_w q = 0 then ky_w nb x y (pw_m (se_um q n) (sv_s q)) (sv_r q)
  else ky_s nb x y (if sv_b q then sv_cm (sv_s q) (sv_r q) x (bl_n x y) else cl_cm (sv_s q) (ex_n (us_sa sd nb u.1 u.2.2.1) nb (sv_p q)) y (bl_n x y))
def se_ny (q : ss_T) : Nat := if sv_w q = 0 then pw_m 4 (sv_s q) * pw_m 25 (sv_r q) % pq_P else (3 * sv_r q + pw_m 4 (sv_s q)) % pq_P
def se_xx (q : ss_T) (n : Nat) : Nat := if sv_b q then n else sv_x q
def se_yy (q : ss_T) (n : Nat) : Nat := if sv_b q then se_ny q else n
def se_f1 (q : ss_T) (x y : Nat) (k : Int64) : ss_T := sv_z q 1 x y k (cf_c k x y) (cf_s k (cf_c k x y)) (if sv_b q then lN y else cf_c k x y)
def se_fi (q : ss_T) (sd nb : Int32) (u : us_T) (n : Nat) : ss_T := se_f1 q (se_xx q n) (se_yy q n) (se_ky q sd nb u (se_xx q n) (se_yy q n) n)
abbrev se_aw (q : ss_T) : Int64 := if sv_b q then sv_c q else sv_d q
def se_cf (q : ss_T) (e : Int64) : ss_T := if e = se_aw q then sv_z q 2 (sv_x q) (sv_y q) (sv_k q) (sv_c q) (sv_d q) (if sv_b q then sv_d q else sv_m q) else sv_z q 3 (sv_x q) (sv_y q) (sv_k q) (sv_c q) (sv_d q) (sv_m q)
def us_cf (q : ss_T) (e : Int64) (u : us_T) (ck : Int32) : us_T := if sv_b q then (if e = se_aw q then us_ok u else us_fl u ck) else u
