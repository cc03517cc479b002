/-! How many bits a number has, and that the bytes' trick counts them (Long.bitCount). -/
def xp_cnt (x : Nat) : Nat → Nat
  | 0 => 0
  | k + 1 => xp_cnt x k + x / 2 ^ k % 2
theorem xp_and_split (k a b c d : Nat) (hb : b < 2 ^ k) (hd : d < 2 ^ k) : (2 ^ k * a + b) &&& (2 ^ k * c + d) = 2 ^ k * (a &&& c) + (b &&& d) := by
  apply Nat.eq_of_testBit_eq
  intro i
  have hbd : b &&& d < 2 ^ k := Nat.and_lt_two_pow _ hd
  rw [Nat.testBit_and, Nat.testBit_two_pow_mul_add _ hb, Nat.testBit_two_pow_mul_add _ hd, Nat.testBit_two_pow_mul_add _ hbd]
  split
  · rw [Nat.testBit_and]
  · rw [Nat.testBit_and]
def xp_m (c : Nat) : Nat → Nat
  | 0 => 0
  | n + 1 => 256 * xp_m c n + c
def xp_v1 (n x : Nat) : Nat := x - (x / 2 &&& xp_m 85 n)
def xp_v2 (n x : Nat) : Nat := (xp_v1 n x &&& xp_m 51 n) + (xp_v1 n x / 4 &&& xp_m 51 n)
def xp_v3 (n x : Nat) : Nat := (xp_v2 n x + xp_v2 n x / 16) &&& xp_m 15 n
def xp_w1 (b : Nat) : Nat := b - (b / 2 &&& 85)
def xp_w2 (b : Nat) : Nat := (xp_w1 b &&& 51) + (xp_w1 b / 4 &&& 51)
def xp_g : Nat → Nat → Nat
  | 0, _ => 0
  | n + 1, x => 256 * xp_g n (x / 256) + xp_cnt (x % 256) 8
theorem xp_d1 : ∀ b, b < 256 → ∀ c, c < 2 → (128 * c + b / 2) &&& 85 = b / 2 &&& 85 := by decide +kernel
theorem xp_d2 : ∀ q, q < 256 → ∀ c, c < 4 → (64 * c + q / 4) &&& 51 = q / 4 &&& 51 := by decide +kernel
theorem xp_d3 : ∀ b, b < 256 → ∀ c, c < 5 → (16 * c + xp_w2 b + xp_w2 b / 16) &&& 15 = xp_cnt b 8 ∧ 16 * c + xp_w2 b + xp_w2 b / 16 < 256 ∧ xp_w2 b % 16 < 5 ∧ xp_w2 b < 256 := by decide +kernel
theorem xp_s1 (n x : Nat) : xp_v1 (n + 1) x = 256 * xp_v1 n (x / 256) + xp_w1 (x % 256) := by
  unfold xp_v1 xp_w1
  have hb : x % 256 < 256 := Nat.mod_lt _ (by decide)
  have e1 : x / 2 = 2 ^ 8 * (x / 256 / 2) + (128 * (x / 256 % 2) + x % 256 / 2) := by omega
  have e2 : xp_m 85 (n + 1) = 2 ^ 8 * xp_m 85 n + 85 := rfl
  have e3 := xp_d1 (x % 256) hb (x / 256 % 2) (Nat.mod_lt _ (by decide))
  rw [e1, e2, xp_and_split 8 _ _ _ _ (by omega) (by decide), e3]
  have h1 : x / 256 / 2 &&& xp_m 85 n ≤ x / 256 / 2 := Nat.and_le_left
  have h2 : x % 256 / 2 &&& 85 ≤ x % 256 / 2 := Nat.and_le_left
  generalize x / 256 / 2 &&& xp_m 85 n = A at h1 ⊢
  generalize x % 256 / 2 &&& 85 = B at h2 ⊢
  omega
theorem xp_w1_lt {b : Nat} (h : b < 256) : xp_w1 b < 256 := by unfold xp_w1; omega
theorem xp_s2 (n x : Nat) : xp_v2 (n + 1) x = 256 * xp_v2 n (x / 256) + xp_w2 (x % 256) := by
  unfold xp_v2 xp_w2
  rw [xp_s1]
  have hb : x % 256 < 256 := Nat.mod_lt _ (by decide)
  have hq := xp_w1_lt hb
  generalize xp_v1 n (x / 256) = p at *
  generalize xp_w1 (x % 256) = q at *
  have e2 : xp_m 51 (n + 1) = 2 ^ 8 * xp_m 51 n + 51 := rfl
  have e1 : (256 * p + q) / 4 = 2 ^ 8 * (p / 4) + (64 * (p % 4) + q / 4) := by omega
  have e3 := xp_d2 q hq (p % 4) (Nat.mod_lt _ (by decide))
  rw [e1, e2, show 256 * p + q = 2 ^ 8 * p + q from rfl, xp_and_split 8 _ _ _ _ hq (by decide), xp_and_split 8 _ _ _ _ (by omega) (by decide), e3]
  omega
theorem xp_s2m (n x : Nat) : xp_v2 n x % 16 < 5 := by
  cases n with
  | zero =>
    unfold xp_v2 xp_m
    simp
  | succ n =>
    rw [xp_s2]
    have h := (xp_d3 (x % 256) (Nat.mod_lt _ (by decide)) 0 (by decide)).2.2.1
    omega
theorem xp_s3 : ∀ (n x : Nat), xp_v3 n x = xp_g n x
  | 0, x => by
    unfold xp_v3 xp_m xp_g
    simp
  | n + 1, x => by
    have ih := xp_s3 n (x / 256)
    unfold xp_v3 at ih ⊢
    rw [xp_s2]
    have hc := xp_s2m n (x / 256)
    have hb : x % 256 < 256 := Nat.mod_lt _ (by decide)
    obtain ⟨d1, d2, d3, d4⟩ := xp_d3 (x % 256) hb (xp_v2 n (x / 256) % 16) hc
    have e2 : xp_m 15 (n + 1) = 2 ^ 8 * xp_m 15 n + 15 := rfl
    have e1 : 256 * xp_v2 n (x / 256) + xp_w2 (x % 256) + (256 * xp_v2 n (x / 256) + xp_w2 (x % 256)) / 16 = 2 ^ 8 * (xp_v2 n (x / 256) + xp_v2 n (x / 256) / 16) + (16 * (xp_v2 n (x / 256) % 16) + xp_w2 (x % 256) + xp_w2 (x % 256) / 16) := by omega
    rw [e1, e2, xp_and_split 8 _ _ _ _ d2 (by decide), ih, d1]
    rfl
theorem xp_cnt_le (x : Nat) : ∀ k, xp_cnt x k ≤ k
  | 0 => Nat.le_refl _
  | k + 1 => by
    have := xp_cnt_le x k
    unfold xp_cnt
    have := Nat.mod_lt (x / 2 ^ k) (show 0 < 2 by decide)
    omega
theorem xp_cnt_mod (x m : Nat) : ∀ k, k ≤ m → xp_cnt (x % 2 ^ m) k = xp_cnt x k
  | 0, _ => rfl
  | k + 1, h => by
    unfold xp_cnt
    rw [xp_cnt_mod x m k (by omega)]
    have e : x % 2 ^ m / 2 ^ k % 2 = x / 2 ^ k % 2 := by
      have h1 := Nat.testBit_mod_two_pow x m k
      rw [Nat.testBit_eq_decide_div_mod_eq, Nat.testBit_eq_decide_div_mod_eq] at h1
      have h2 : (decide (k < m)) = true := by simp; omega
      rw [h2, Bool.true_and, decide_eq_decide] at h1
      have := Nat.mod_lt (x % 2 ^ m / 2 ^ k) (show 0 < 2 by decide)
      have := Nat.mod_lt (x / 2 ^ k) (show 0 < 2 by decide)
      omega
    rw [e]
theorem xp_cnt_add (x a : Nat) : ∀ b, xp_cnt x (a + b) = xp_cnt x a + xp_cnt (x / 2 ^ a) b
  | 0 => by simp [xp_cnt]
  | b + 1 => by
    rw [← Nat.add_assoc]
    show xp_cnt x (a + b) + x / 2 ^ (a + b) % 2 = xp_cnt x a + (xp_cnt (x / 2 ^ a) b + x / 2 ^ a / 2 ^ b % 2)
    rw [xp_cnt_add x a b, Nat.div_div_eq_div_mul, ← Nat.pow_add, Nat.add_assoc]
/-- the sum of the bytes' counts -/
def xp_sum : Nat → Nat → Nat
  | 0, _ => 0
  | n + 1, x => xp_cnt (x % 256) 8 + xp_sum n (x / 256)
theorem xp_sum_cnt : ∀ n x, xp_sum n x = xp_cnt x (8 * n)
  | 0, _ => rfl
  | n + 1, x => by
    unfold xp_sum
    rw [xp_sum_cnt n, show 8 * (n + 1) = 8 + 8 * n by omega, xp_cnt_add, show (256 : Nat) = 2 ^ 8 from rfl, xp_cnt_mod x 8 8 (Nat.le_refl _)]
theorem xp_f1 {a d v : Nat} (h : v = 256 * a + d) (hd : d ≤ 8) : v / 256 = a := by omega
theorem xp_f2 {v a x y : Nat} (h : v = 65536 * a + (256 * x + y)) (hx : x ≤ 16) (hy : y ≤ 16) : v / 65536 = a := by omega
theorem xp_f3 {v a p q r t : Nat} (h : v = 4294967296 * a + (16777216 * p + 65536 * q + 256 * r + t)) (hp : p ≤ 32) (hq : q ≤ 32) (hr : r ≤ 32) (ht : t ≤ 32) : v / 4294967296 = a ∧ v % 128 = t := by
  constructor
  · omega
  · omega
theorem xp_h1 {v a1 a2 a3 d0 d1 d2 : Nat} (h0 : v = 256 * a1 + d0) (h1 : a1 = 256 * a2 + d1) (h2 : a2 = 256 * a3 + d2) : v + a1 = 65536 * (a2 + a3) + (256 * (d1 + d2) + (d0 + d1)) := by omega
theorem xp_h2 {X S U V p q r t r' t' : Nat} (h1 : X = 65536 * S + (256 * p + q)) (h2 : S = 65536 * U + (256 * r + t)) (h3 : U = 65536 * V + (256 * r' + t')) : X + S = 4294967296 * (U + V) + (16777216 * (r + r') + 65536 * (t + t') + 256 * (p + r) + (q + t)) := by omega
theorem xp_h3 {a b d B : Nat} (h : a = 256 * b + d) (hb : b ≤ B) (hd : d ≤ 8) : a ≤ 256 * B + 8 := by omega
theorem xp_h4 {a b c d : Nat} (ha : a ≤ 8) (hb : b ≤ 8) (hc : c ≤ 8) (hd : d ≤ 8) : a + b + (c + d) ≤ 32 := by omega
theorem xp_h5 {a b : Nat} (ha : a ≤ 8) (hb : b ≤ 8) : a + b ≤ 16 := by omega
theorem xp_h6 {a4 a5 a6 d4 d5 d6 d7 : Nat} (h4 : a4 = 256 * a5 + d4) (h5 : a5 = 256 * a6 + d5) (h6 : a6 = 256 * d7 + d6) (c4 : d4 ≤ 8) (c5 : d5 ≤ 8) (c6 : d6 ≤ 8) (c7 : d7 ≤ 8) : (a4 + a5 + (a6 + d7)) % 128 = d4 + d5 + (d6 + d7) := by
  have h : a4 + a5 + (a6 + d7) = 128 * (2 * (a5 + a6 + d7)) + (d4 + d5 + (d6 + d7)) := by omega
  rw [h, Nat.mul_add_mod, Nat.mod_eq_of_lt (Nat.lt_of_le_of_lt (xp_h4 c4 c5 c6 c7) (by decide))]
theorem xp_h7 {d0 d1 d2 d3 d4 d5 d6 d7 : Nat} (h1 : d0 + d1 + (d2 + d3) ≤ 32) (h2 : d4 + d5 + (d6 + d7) ≤ 32) : (d0 + d1 + (d2 + d3) + (d4 + d5 + (d6 + d7))) % 128 = d0 + (d1 + (d2 + (d3 + (d4 + (d5 + (d6 + (d7 + 0))))))) := by
  rw [Nat.mod_eq_of_lt (by omega)]
  omega
theorem xp_f4 {v a1 a2 a3 a4 a5 a6 d0 d1 d2 d3 d4 d5 d6 d7 : Nat} (h0 : v = 256 * a1 + d0) (h1 : a1 = 256 * a2 + d1) (h2 : a2 = 256 * a3 + d2) (h3 : a3 = 256 * a4 + d3) (h4 : a4 = 256 * a5 + d4) (h5 : a5 = 256 * a6 + d5) (h6 : a6 = 256 * d7 + d6)
    (c0 : d0 ≤ 8) (c1 : d1 ≤ 8) (c2 : d2 ≤ 8) (c3 : d3 ≤ 8) (c4 : d4 ≤ 8) (c5 : d5 ≤ 8) (c6 : d6 ≤ 8) (c7 : d7 ≤ 8) :
    ∃ v4 v5 v6 : Nat, v4 = v + v / 256 ∧ v5 = v4 + v4 / 65536 ∧ v6 = v5 + v5 / 4294967296 ∧ v4 < 2 ^ 63 ∧ v5 < 2 ^ 63 ∧ v6 < 2 ^ 63 ∧ v < 2 ^ 63 ∧ v6 % 128 = d0 + (d1 + (d2 + (d3 + (d4 + (d5 + (d6 + (d7 + 0))))))) := by
  have b6 := xp_h3 h6 c7 c6
  have b5 := xp_h3 h5 b6 c5
  have b4 := xp_h3 h4 b5 c4
  have b3 := xp_h3 h3 b4 c3
  have b2 := xp_h3 h2 b3 c2
  have b1 := xp_h3 h1 b2 c1
  have b0 := xp_h3 h0 b1 c0
  have e0 := xp_f1 h0 c0
  have e1 := xp_h1 h0 h1 h2
  have e2 := xp_f2 e1 (xp_h5 c1 c2) (xp_h5 c0 c1)
  have g1 := xp_h1 h2 h3 h4
  have g2 := xp_h1 h4 h5 h6
  have e3 := xp_h2 e1 g1 g2
  obtain ⟨e4, e5⟩ := xp_f3 e3 (xp_h4 c3 c4 c5 c6) (xp_h4 c2 c3 c4 c5) (xp_h4 c1 c2 c3 c4) (xp_h4 c0 c1 c2 c3)
  have e6 := xp_h6 h4 h5 h6 c4 c5 c6 c7
  refine ⟨v + a1, v + a1 + (a2 + a3), v + a1 + (a2 + a3) + (a4 + a5 + (a6 + d7)), by rw [e0], by rw [e2], by rw [e4], ?_, ?_, ?_, ?_, ?_⟩
  · exact Nat.lt_of_le_of_lt (Nat.add_le_add b0 b1) (by decide)
  · exact Nat.lt_of_le_of_lt (Nat.add_le_add (Nat.add_le_add b0 b1) (Nat.add_le_add b2 b3)) (by decide)
  · exact Nat.lt_of_le_of_lt (Nat.add_le_add (Nat.add_le_add (Nat.add_le_add b0 b1) (Nat.add_le_add b2 b3)) (Nat.add_le_add (Nat.add_le_add b4 b5) (Nat.add_le_add b6 c7))) (by decide)
  · exact Nat.lt_of_le_of_lt b0 (by decide)
  · rw [Nat.add_mod, e5, e6]
    exact xp_h7 (xp_h4 c0 c1 c2 c3) (xp_h4 c4 c5 c6 c7)
theorem xp_fold (x : Nat) : ∃ v4 v5 v6 : Nat, v4 = xp_g 8 x + xp_g 8 x / 256 ∧ v5 = v4 + v4 / 65536 ∧ v6 = v5 + v5 / 4294967296 ∧ v4 < 2 ^ 63 ∧ v5 < 2 ^ 63 ∧ v6 < 2 ^ 63 ∧ xp_g 8 x < 2 ^ 63 ∧ v6 % 128 = xp_cnt x 64 := by
  rw [← xp_sum_cnt 8 x]
  exact xp_f4 (v := xp_g 8 x) (a1 := xp_g 7 (x / 256)) (a2 := xp_g 6 (x / 256 / 256)) (a3 := xp_g 5 (x / 256 / 256 / 256)) (a4 := xp_g 4 (x / 256 / 256 / 256 / 256)) (a5 := xp_g 3 (x / 256 / 256 / 256 / 256 / 256)) (a6 := xp_g 2 (x / 256 / 256 / 256 / 256 / 256 / 256)) rfl rfl rfl rfl rfl rfl (by rw [show xp_g 2 (x / 256 / 256 / 256 / 256 / 256 / 256) = 256 * xp_g 1 (x / 256 / 256 / 256 / 256 / 256 / 256 / 256) + xp_cnt (x / 256 / 256 / 256 / 256 / 256 / 256 % 256) 8 from rfl]; rw [show xp_g 1 (x / 256 / 256 / 256 / 256 / 256 / 256 / 256) = 256 * 0 + xp_cnt (x / 256 / 256 / 256 / 256 / 256 / 256 / 256 % 256) 8 from rfl, Nat.mul_zero, Nat.zero_add])
    (xp_cnt_le _ 8) (xp_cnt_le _ 8) (xp_cnt_le _ 8) (xp_cnt_le _ 8) (xp_cnt_le _ 8) (xp_cnt_le _ 8) (xp_cnt_le _ 8) (xp_cnt_le _ 8)
