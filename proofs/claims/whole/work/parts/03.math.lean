def pq_P : Nat := 2147483579
def pq_Q : Nat := 1073741789
def pw_m (b e : Nat) : Nat := b ^ e % pq_P
theorem pq_pos : 0 < pq_P := by decide
theorem pw_lt (b e : Nat) : pw_m b e < pq_P := Nat.mod_lt _ pq_pos
theorem pw_0 (b : Nat) : pw_m b 0 = 1 := by
  show b ^ 0 % pq_P = 1
  rw [Nat.pow_zero]; decide
theorem pw_sq (b n : Nat) : pw_m b n * pw_m b n % pq_P = pw_m b (2 * n) := by
  unfold pw_m
  rw [← Nat.mul_mod, ← Nat.pow_add, Nat.two_mul]
theorem pw_s1 (b n : Nat) : pw_m b n * b % pq_P = pw_m b (n + 1) := by
  unfold pw_m
  rw [Nat.pow_succ, Nat.mul_mod (b ^ n) b, Nat.mul_mod (b ^ n % pq_P) b, Nat.mod_mod]
theorem pw_mb (b e : Nat) : pw_m (b % pq_P) e = pw_m b e := by
  unfold pw_m
  rw [← Nat.pow_mod]
theorem pw_mm (b w e : Nat) : pw_m (pw_m b w) e = pw_m b (w * e) := by
  show (b ^ w % pq_P) ^ e % pq_P = b ^ (w * e) % pq_P
  rw [← Nat.pow_mod, Nat.pow_mul]
theorem pw_r0 (r x n : Nat) : r * (x * x % pq_P) ^ n % pq_P = r * x ^ (2 * n) % pq_P := by
  rw [Nat.mul_mod, ← Nat.pow_mod, ← Nat.mul_mod, Nat.pow_mul, Nat.pow_two]
theorem pw_r1 (r x n : Nat) : (r * x % pq_P) * (x * x % pq_P) ^ n % pq_P = r * x ^ (2 * n + 1) % pq_P := by
  rw [pw_r0, Nat.mul_mod (r * x % pq_P), Nat.mod_mod, ← Nat.mul_mod, Nat.pow_succ, Nat.mul_assoc, Nat.mul_comm x]
def pw_f : Nat → Nat → Nat → Nat → Nat
  | 0, r, _, _ => r
  | k + 1, r, x, n => pw_f k (if n % 2 = 1 then r * x % pq_P else r) (x * x % pq_P) (n / 2)
theorem pw_f_eq : ∀ (k r x n : Nat), n < 2 ^ k → r < pq_P → pw_f k r x n = r * x ^ n % pq_P
  | 0, r, x, n, hn, hr => by
    have h0 : n = 0 := by have : n < 1 := hn; omega
    subst h0
    show r = r * x ^ 0 % pq_P
    rw [Nat.pow_zero, Nat.mul_one, Nat.mod_eq_of_lt hr]
  | k + 1, r, x, n, hn, hr => by
    have hn2 : n / 2 < 2 ^ k := by
      have h2 : 2 ^ (k + 1) = 2 * 2 ^ k := by rw [Nat.pow_succ, Nat.mul_comm]
      omega
    show pw_f k (if n % 2 = 1 then r * x % pq_P else r) (x * x % pq_P) (n / 2) = _
    by_cases h : n % 2 = 1
    · rw [if_pos h, pw_f_eq k _ _ _ hn2 (Nat.mod_lt _ pq_pos), pw_r1]
      rw [show 2 * (n / 2) + 1 = n by omega]
    · rw [if_neg h, pw_f_eq k _ _ _ hn2 hr, pw_r0]
      rw [show 2 * (n / 2) = n by omega]
theorem pw_ff (b e k : Nat) (h : e < 2 ^ k) : pw_m b e = pw_f k 1 b e := by
  rw [pw_f_eq k 1 b e h (by decide), Nat.one_mul]
  rfl
theorem pw_9Q : pw_m 9 pq_Q = 1 := (pw_ff 9 pq_Q 30 (by decide)).trans (by decide +kernel)
theorem pw_25Q : pw_m 25 pq_Q = 1 := (pw_ff 25 pq_Q 30 (by decide)).trans (by decide +kernel)
theorem pw_add (b m n : Nat) : pw_m b (m + n) = pw_m b m * pw_m b n % pq_P := by
  unfold pw_m
  rw [Nat.pow_add, Nat.mul_mod]
theorem pw_inv {b w : Nat} (hb : pw_m b pq_Q = 1) (h1 : 1 ≤ w) (h2 : w ≤ pq_Q) : pw_m (pw_m b w) (pq_P - 2) = pw_m b (pq_Q - w) := by
  rw [pw_mm]
  have e1 : w * (pq_P - 2) = pq_Q * (2 * w - 1) + (pq_Q - w) := by
    have e0 : pq_P - 2 = 2 * pq_Q - 1 := by decide
    rw [e0]
    have hq : 1 ≤ pq_Q := by decide
    generalize pq_Q = q at *
    obtain ⟨a, rfl⟩ : ∃ a, w = a + 1 := ⟨w - 1, by omega⟩
    obtain ⟨d, rfl⟩ : ∃ d, q = a + 1 + d := ⟨q - (a + 1), by omega⟩
    rw [show 2 * (a + 1 + d) - 1 = 2 * a + 2 * d + 1 by omega, show 2 * (a + 1) - 1 = 2 * a + 1 by omega, show a + 1 + d - (a + 1) = d by omega]
    simp only [Nat.add_mul, Nat.mul_add, Nat.one_mul, Nat.mul_one]
    have c1 : d * (2 * a) = a * (2 * d) := by rw [Nat.mul_left_comm, Nat.mul_left_comm a, Nat.mul_comm d]
    omega
  rw [e1, pw_add, ← pw_mm, hb]
  have e2 : pw_m 1 (2 * w - 1) = 1 := by
    unfold pw_m
    rw [Nat.one_pow]; decide
  rw [e2, Nat.one_mul]
  exact Nat.mod_eq_of_lt (pw_lt _ _)
def dg_sh (v : Int64) (y : Int32) : Int64 := (v.toUInt64 >>> (y.toInt64.toUInt64 &&& Int64.toUInt64 63)).toInt64
def dg_b (v h : Int64) (y : Int32) : Int64 := (h ^^^ (dg_sh v y &&& 255)) * 1099511628211
def dg_a (h v : Int64) : Int64 := dg_b v (dg_b v (dg_b v (dg_b v (dg_b v (dg_b v (dg_b v (dg_b v h 56) 48) 40) 32) 24) 16) 8) 0
def dg_0 : Int64 := 1469598103934665603
def dg_g (h : Int64) : Int64 := (h ^^^ dg_sh h 32) * (-7046029254386353131)
def dg_f (h : Int64) : Int64 := dg_g h ^^^ dg_sh (dg_g h) 29
def dg_3 (k a b : Int64) : Int64 := dg_f (dg_a (dg_a (dg_a dg_0 k) a) b)
def dg_4 (k a b c : Int64) : Int64 := dg_f (dg_a (dg_a (dg_a (dg_a dg_0 k) a) b) c)
def dg_5 (k a b c d : Int64) : Int64 := dg_f (dg_a (dg_a (dg_a (dg_a (dg_a dg_0 k) a) b) c) d)
def dg_6 (k a b c d e : Int64) : Int64 := dg_f (dg_a (dg_a (dg_a (dg_a (dg_a (dg_a dg_0 k) a) b) c) d) e)
def sc_n (d : Int64) : Nat := d.toBitVec.toNat / 2 % 1073741788 + 1
theorem sc_pos (d : Int64) : 1 ≤ sc_n d := Nat.le_add_left 1 _
theorem sc_lt (d : Int64) : sc_n d < pq_Q := by
  have h : d.toBitVec.toNat / 2 % 1073741788 < 1073741788 := Nat.mod_lt _ (by decide)
  unfold sc_n pq_Q
  omega
def wd_n (u : Int32) (p : Int64) : Nat := sc_n (dg_3 1 u.toInt64 p)
def ex_n (s : Int64) (u : Int32) (p : Int64) : Nat := sc_n (dg_4 2 s u.toInt64 p)
theorem ln_bv (n : Nat) : (lN n).toBitVec = BitVec.ofNat 64 n := rfl
theorem ln_of (x : Int64) : x = lN x.toBitVec.toNat := by
  apply Int64.toBitVec_inj.mp
  rw [ln_bv, BitVec.ofNat_toNat, BitVec.setWidth_eq]
theorem ln_nat {n : Nat} (h : n < 2 ^ 64) : (lN n).toBitVec.toNat = n := by
  rw [ln_bv, BitVec.toNat_ofNat]
  exact Nat.mod_eq_of_lt h
theorem ln_ushr (x : Int64) (k : Nat) (hk : k < 64) {y : Int32} (hy : y.toInt64.toUInt64 &&& Int64.toUInt64 63 = UInt64.ofNat k) : dg_sh x y = lN (x.toBitVec.toNat / 2 ^ k) := by
  unfold dg_sh
  rw [hy]
  apply Int64.toBitVec_inj.mp
  show (x.toBitVec >>> ((BitVec.ofNat 64 k) % 64#64)) = BitVec.ofNat 64 _
  apply BitVec.eq_of_toNat_eq
  have h64 : ((BitVec.ofNat 64 k) % 64#64).toNat = k := by
    rw [BitVec.toNat_umod, BitVec.toNat_ofNat, BitVec.toNat_ofNat]
    rw [Nat.mod_eq_of_lt (show k < 2 ^ 64 by omega)]
    exact Nat.mod_eq_of_lt hk
  rw [BitVec.ushiftRight_eq', BitVec.toNat_ushiftRight, h64, BitVec.toNat_ofNat, Nat.shiftRight_eq_div_pow]
  refine (Nat.mod_eq_of_lt (Nat.lt_of_le_of_lt (Nat.div_le_self _ _) ?_)).symm
  exact x.toBitVec.isLt
theorem ln_mod {a m : Nat} (ha : a < 2 ^ 63) (h0 : 0 < m) (hm : m < 2 ^ 63) : lN a - lN a / lN m * lN m = lN (a % m) := pk_lRem ha h0 hm
theorem ln_sc (d : Int64) : dg_sh d 1 - dg_sh d 1 / 1073741788 * 1073741788 + 1 = lN (sc_n d) := by
  have h1 : dg_sh d 1 = lN (d.toBitVec.toNat / 2) := ln_ushr d 1 (by decide) (by decide)
  have hlt : d.toBitVec.toNat < 2 ^ 64 := d.toBitVec.isLt
  rw [h1]
  show lN (d.toBitVec.toNat / 2) - lN (d.toBitVec.toNat / 2) / lN 1073741788 * lN 1073741788 + 1 = _
  rw [pk_lRem (by omega) (by decide) (by decide), lN_1]
  rfl
theorem ln_mulP {a b : Nat} (ha : a < pq_P) (hb : b < pq_P) : lN a * lN b - lN a * lN b / 2147483579 * 2147483579 = lN (a * b % pq_P) := by
  rw [lN_mul]
  have h : a * b < 2 ^ 63 := by
    have h1 : a * b ≤ pq_P * pq_P := Nat.mul_le_mul (Nat.le_of_lt ha) (Nat.le_of_lt hb)
    have h2 : pq_P * pq_P < 2 ^ 63 := by decide
    omega
  show lN (a * b) - lN (a * b) / lN 2147483579 * lN 2147483579 = _
  rw [pk_lRem h (by decide) (by decide)]
  rfl
theorem sc_30 (d : Int64) : sc_n d < 2 ^ 30 := Nat.lt_trans (sc_lt d) (by decide)
theorem ln_Qs {w : Nat} (h : w ≤ pq_Q) : (1073741789 : Int64) - lN w = lN (pq_Q - w) := lN_sub (a := pq_Q) (b := w) h
theorem ln_bit (n k : Nat) (hn : n < 2 ^ 64) (hk : k < 64) : dg_sh (lN n) (nI k) &&& 1 = lN (n / 2 ^ k % 2) := by
  have h1 : ∀ k, k < 64 → (nI k).toInt64.toUInt64 &&& Int64.toUInt64 63 = UInt64.ofNat k := by decide
  rw [ln_ushr (lN n) k hk (h1 k hk), ln_nat hn]
  apply Int64.toBitVec_inj.mp
  show BitVec.ofNat 64 (n / 2 ^ k) &&& 1#64 = BitVec.ofNat 64 (n / 2 ^ k % 2)
  apply BitVec.eq_of_toNat_eq
  rw [BitVec.toNat_and, BitVec.toNat_ofNat, BitVec.toNat_ofNat, BitVec.toNat_ofNat]
  have h2 : n / 2 ^ k < 2 ^ 64 := Nat.lt_of_le_of_lt (Nat.div_le_self _ _) hn
  rw [Nat.mod_eq_of_lt h2, Nat.mod_eq_of_lt (show 1 < 2 ^ 64 by decide), Nat.and_one_is_mod, Nat.mod_eq_of_lt (show n / 2 ^ k % 2 < 2 ^ 64 by omega)]
theorem pw_b1 {n k : Nat} (h : n / 2 ^ k % 2 = 1) : n / 2 ^ k = 2 * (n / 2 ^ (k + 1)) + 1 := by
  have h1 : n / 2 ^ (k + 1) = n / 2 ^ k / 2 := by rw [Nat.pow_succ, Nat.div_div_eq_div_mul]
  omega
theorem pw_b0 {n k : Nat} (h : ¬ n / 2 ^ k % 2 = 1) : n / 2 ^ k = 2 * (n / 2 ^ (k + 1)) := by
  have h1 : n / 2 ^ (k + 1) = n / 2 ^ k / 2 := by rw [Nat.pow_succ, Nat.div_div_eq_div_mul]
  omega
