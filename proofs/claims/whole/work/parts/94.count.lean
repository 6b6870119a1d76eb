/-! LAYER 2: printed: how many bits -/
theorem and_256 (a b c d : Nat) (hb : b < 256) (hd : d < 256) : (256 * a + b) &&& (256 * c + d) = 256 * (a &&& c) + (b &&& d) := by
  have h1 : ((256 * a + b) &&& (256 * c + d)) / 2 ^ 8 = (256 * a + b) / 2 ^ 8 &&& (256 * c + d) / 2 ^ 8 := Nat.and_div_two_pow
  have h2 : ((256 * a + b) &&& (256 * c + d)) % 2 ^ 8 = ((256 * a + b) % 2 ^ 8) &&& ((256 * c + d) % 2 ^ 8) := Nat.and_mod_two_pow
  have e : (2 : Nat) ^ 8 = 256 := by decide
  rw [e] at h1 h2
  rw [show (256 * a + b) / 256 = a by omega, show (256 * c + d) / 256 = c by omega] at h1
  rw [show (256 * a + b) % 256 = b by omega, show (256 * c + d) % 256 = d by omega] at h2
  generalize (256 * a + b) &&& (256 * c + d) = X at *
  omega
/-- a number, byte by byte -/
def asm (g : Nat → Nat) : Nat → Nat → Nat
  | 0, _ => 0
  | k + 1, n => 256 * asm g k (n / 256) + g (n % 256)
def msk (d : Nat) : Nat → Nat
  | 0 => 0
  | k + 1 => 256 * msk d k + d
def g1 (r : Nat) : Nat := r - ((r / 2) &&& 85)
def g2 (r : Nat) : Nat := (g1 r &&& 51) + ((g1 r / 4) &&& 51)
def g3 (r : Nat) : Nat := (g2 r + g2 r / 16) &&& 15
theorem g1_f : ∀ r, r < 256 → (r / 2) &&& 85 ≤ r ∧ g1 r < 256 := by decide +kernel
theorem g2_f : ∀ r, r < 256 → g2 r < 256 ∧ g2 r % 16 ≤ 4 ∧ g2 r / 16 ≤ 4 := by decide +kernel
theorem g3_f : ∀ r, r < 256 → g3 r ≤ 8 ∧ g3 r = cs (fun i => r.testBit i) 8 := by decide +kernel
theorem lo1 : ∀ c, c < 2 → ∀ y, y < 128 → (128 * c + y) &&& 85 = y &&& 85 := by decide +kernel
theorem lo2 : ∀ c, c < 4 → ∀ y, y < 64 → (64 * c + y) &&& 51 = y &&& 51 := by decide +kernel
theorem and_le' (a b : Nat) : a &&& b ≤ b := Nat.and_le_right
theorem st1' : ∀ k n, n < 256 ^ k → (n / 2) &&& msk 85 k ≤ n ∧ n - ((n / 2) &&& msk 85 k) = asm g1 k n
  | 0, n, h => by
    have : n = 0 := by simpa using h
    subst this
    exact ⟨by simp [msk], rfl⟩
  | k + 1, n, h => by
    have hq : n / 256 < 256 ^ k := by rw [Nat.pow_succ] at h; omega
    obtain ⟨i1, i2⟩ := st1' k (n / 256) hq
    have hr : n % 256 < 256 := Nat.mod_lt _ (by omega)
    obtain ⟨j1, j2⟩ := g1_f (n % 256) hr
    have e1 : n / 2 = 256 * (n / 256 / 2) + (128 * (n / 256 % 2) + n % 256 / 2) := by omega
    have e2 : (n / 2) &&& msk 85 (k + 1) = 256 * ((n / 256 / 2) &&& msk 85 k) + ((n % 256 / 2) &&& 85) := by
      rw [e1]
      show _ &&& (256 * msk 85 k + 85) = _
      rw [and_256 _ _ _ _ (by omega) (by omega), lo1 _ (by omega) _ (by omega)]
    rw [e2]
    have e3 : asm g1 (k + 1) n = 256 * asm g1 k (n / 256) + g1 (n % 256) := rfl
    have e4 : g1 (n % 256) = n % 256 - ((n % 256 / 2) &&& 85) := rfl
    rw [e3, ← i2, e4]
    generalize (n / 256 / 2) &&& msk 85 k = X at *
    generalize (n % 256 / 2) &&& 85 = Y at *
    omega
theorem st2' : ∀ k n, (asm g1 k n &&& msk 51 k) + ((asm g1 k n / 4) &&& msk 51 k) = asm g2 k n
  | 0, n => by simp [asm, msk]
  | k + 1, n => by
    have IH := st2' k (n / 256)
    have hr : n % 256 < 256 := Nat.mod_lt _ (by omega)
    obtain ⟨-, j2⟩ := g1_f (n % 256) hr
    have e0 : asm g1 (k + 1) n = 256 * asm g1 k (n / 256) + g1 (n % 256) := rfl
    have em : msk 51 (k + 1) = 256 * msk 51 k + 51 := rfl
    have e9 : asm g2 (k + 1) n = 256 * asm g2 k (n / 256) + g2 (n % 256) := rfl
    have e8 : g2 (n % 256) = (g1 (n % 256) &&& 51) + ((g1 (n % 256) / 4) &&& 51) := rfl
    rw [e0, em, e9, e8, ← IH]
    generalize asm g1 k (n / 256) = Q at *
    generalize g1 (n % 256) = R at *
    have e1 : (256 * Q + R) / 4 = 256 * (Q / 4) + (64 * (Q % 4) + R / 4) := by omega
    rw [e1, and_256 _ _ _ _ (by omega) (by omega), and_256 _ _ _ _ (by omega) (by omega), lo2 _ (by omega) _ (by omega)]
    omega
theorem asm_lo (k n : Nat) : asm g2 k n % 16 ≤ 4 := by
  cases k with
  | zero => simp [asm]
  | succ k =>
    have hr : n % 256 < 256 := Nat.mod_lt _ (by omega)
    obtain ⟨-, j2, -⟩ := g2_f (n % 256) hr
    show (256 * asm g2 k (n / 256) + g2 (n % 256)) % 16 ≤ 4
    omega
theorem and15 (x : Nat) : x &&& 15 = x % 16 := Nat.and_two_pow_sub_one_eq_mod x 4
theorem st3' : ∀ k n, (asm g2 k n + asm g2 k n / 16) &&& msk 15 k = asm g3 k n
  | 0, n => by simp [asm, msk]
  | k + 1, n => by
    have IH := st3' k (n / 256)
    have hr : n % 256 < 256 := Nat.mod_lt _ (by omega)
    obtain ⟨j1, j2, j3⟩ := g2_f (n % 256) hr
    have lo := asm_lo k (n / 256)
    have e0 : asm g2 (k + 1) n = 256 * asm g2 k (n / 256) + g2 (n % 256) := rfl
    have em : msk 15 (k + 1) = 256 * msk 15 k + 15 := rfl
    have e9 : asm g3 (k + 1) n = 256 * asm g3 k (n / 256) + g3 (n % 256) := rfl
    have e8 : g3 (n % 256) = (g2 (n % 256) + g2 (n % 256) / 16) &&& 15 := rfl
    rw [e0, em, e9, e8, ← IH]
    generalize asm g2 k (n / 256) = Q at *
    generalize g2 (n % 256) = R at *
    have e1 : 256 * Q + R + (256 * Q + R) / 16 = 256 * (Q + Q / 16) + (R + R / 16 + 16 * (Q % 16)) := by omega
    rw [e1, and_256 _ _ _ _ (by omega) (by omega), and15, and15]
    omega
theorem asm_lt (g : Nat → Nat) (hg : ∀ r, r < 256 → g r < 256) : ∀ k n, asm g k n < 256 ^ k
  | 0, n => by simp [asm]
  | k + 1, n => by
    have IH := asm_lt g hg k (n / 256)
    have := hg (n % 256) (Nat.mod_lt _ (by omega))
    show 256 * asm g k (n / 256) + g (n % 256) < 256 ^ (k + 1)
    rw [Nat.pow_succ]
    omega
theorem asm_b (g : Nat → Nat) (m : Nat) (hg : ∀ r, r < 256 → g r ≤ m) : ∀ k n, asm g k n ≤ msk m k
  | 0, n => Nat.le_refl 0
  | k + 1, n => by
    have IH := asm_b g m hg k (n / 256)
    have := hg (n % 256) (Nat.mod_lt _ (by omega))
    show 256 * asm g k (n / 256) + g (n % 256) ≤ 256 * msk m k + m
    omega
theorem cs_sh (f : Nat → Bool) (m : Nat) : ∀ k, cs f (m + k) = cs f m + cs (fun i => f (m + i)) k
  | 0 => rfl
  | k + 1 => by
    show cs f (m + k) + (if f (m + k) = true then 1 else 0) = cs f m + (cs (fun i => f (m + i)) k + (if f (m + k) = true then 1 else 0))
    rw [cs_sh f m k, Nat.add_assoc]
theorem cs_cg {f g : Nat → Bool} : ∀ n, (∀ p, p < n → f p = g p) → cs f n = cs g n
  | 0, _ => rfl
  | n + 1, h => by
    show cs f n + _ = cs g n + _
    rw [cs_cg n (fun p hp => h p (by omega)), h n (by omega)]
/-- a byte's bits -/
theorem byte_cs (n j : Nat) : cs (fun i => n.testBit (8 * j + i)) 8 = g3 (n / 256 ^ j % 256) := by
  rw [(g3_f _ (Nat.mod_lt _ (by omega))).2]
  refine cs_cg 8 (fun i hi => ?_)
  rw [show (256 : Nat) ^ j = 2 ^ (8 * j) by rw [Nat.pow_mul], show (256 : Nat) = 2 ^ 8 by decide, Nat.testBit_mod_two_pow, Nat.testBit_div_two_pow, Nat.add_comm]
  simp [hi]
theorem cs_64 (n : Nat) : cs (fun i => n.testBit i) 64 = g3 (n % 256) + g3 (n / 256 % 256) + g3 (n / 256 ^ 2 % 256) + g3 (n / 256 ^ 3 % 256) + g3 (n / 256 ^ 4 % 256) + g3 (n / 256 ^ 5 % 256) + g3 (n / 256 ^ 6 % 256) + g3 (n / 256 ^ 7 % 256) := by
  have h : ∀ j, cs (fun i => n.testBit i) (8 * j + 8) = cs (fun i => n.testBit i) (8 * j) + g3 (n / 256 ^ j % 256) := fun j => by rw [cs_sh, byte_cs]
  have h0 := h 0
  have h1 := h 1
  have h2 := h 2
  have h3 := h 3
  have h4 := h 4
  have h5 := h 5
  have h6 := h 6
  have h7 := h 7
  simp only [Nat.pow_zero, Nat.div_one, Nat.pow_one, show 8 * 0 + 8 = 8 from rfl, show 8 * 1 + 8 = 16 from rfl, show 8 * 2 + 8 = 24 from rfl, show 8 * 3 + 8 = 32 from rfl, show 8 * 4 + 8 = 40 from rfl, show 8 * 5 + 8 = 48 from rfl, show 8 * 6 + 8 = 56 from rfl, show 8 * 7 + 8 = 64 from rfl, show 8 * 0 = 0 from rfl, show 8 * 1 = 8 from rfl, show 8 * 2 = 16 from rfl, show 8 * 3 = 24 from rfl, show 8 * 4 = 32 from rfl, show 8 * 5 = 40 from rfl, show 8 * 6 = 48 from rfl, show 8 * 7 = 56 from rfl] at h0 h1 h2 h3 h4 h5 h6 h7
  have hz : cs (fun i => n.testBit i) 0 = 0 := rfl
  omega
theorem dv_s (n j : Nat) : n / 256 ^ j / 256 = n / 256 ^ (j + 1) := by rw [Nat.div_div_eq_div_mul, Nat.pow_succ]
theorem asm_s (g : Nat → Nat) (k n j : Nat) : asm g (k + 1) (n / 256 ^ j) = g (n / 256 ^ j % 256) + 256 * asm g k (n / 256 ^ (j + 1)) := by
  rw [← dv_s]
  exact Nat.add_comm _ _
theorem f8_1 {x b q : Nat} (hb : b ≤ 8) (hx : x = b + 256 * q) : x / 256 = q := by omega
theorem f8_2 {y c0 c1 q : Nat} (h0 : c0 ≤ 16) (h1 : c1 ≤ 16) (hy : y = c0 + 256 * (c1 + 256 * q)) : y / 65536 = q := by omega
theorem f8_3 {z s0 s1 s2 s3 q : Nat} (h0 : s0 ≤ 32) (h1 : s1 ≤ 32) (h2 : s2 ≤ 32) (h3 : s3 ≤ 32) (hz : z = s0 + 256 * (s1 + 256 * (s2 + 256 * (s3 + 256 * q)))) : z / 4294967296 = q := by omega
theorem f8_4 {w t q : Nat} (h0 : t ≤ 64) (hw : w = t + 256 * q) : w % 128 = t := by omega
theorem le2 {a b : Nat} (h : a ≤ 8) (g : b ≤ 8) : a + b ≤ 16 := by omega
theorem le4 {a b c d : Nat} (h : a ≤ 8) (g : b ≤ 8) (k : c ≤ 8) (l : d ≤ 8) : a + b + c + d ≤ 32 := by omega
theorem le8 {a b c d e f g h : Nat} (h1 : a ≤ 8) (h2 : b ≤ 8) (h3 : c ≤ 8) (h4 : d ≤ 8) (h5 : e ≤ 8) (h6 : f ≤ 8) (h7 : g ≤ 8) (h8 : h ≤ 8) : a + b + c + d + e + f + g + h ≤ 64 := by omega
/-- the sum of eight bytes of at most 8 each, by shifts -/
theorem fold8 {b0 b1 b2 b3 b4 b5 b6 b7 q1 q2 q3 q4 q5 q6 : Nat} (h0 : b0 ≤ 8) (h1 : b1 ≤ 8) (h2 : b2 ≤ 8) (h3 : b3 ≤ 8) (h4 : b4 ≤ 8) (h5 : b5 ≤ 8) (h6 : b6 ≤ 8) (h7 : b7 ≤ 8) {x y z w : Nat} (hx : x = b0 + 256 * q1) (e1 : q1 = b1 + 256 * q2) (e2 : q2 = b2 + 256 * q3) (e3 : q3 = b3 + 256 * q4) (e4 : q4 = b4 + 256 * q5) (e5 : q5 = b5 + 256 * q6) (e6 : q6 = b6 + 256 * b7) (hy : y = x + x / 256) (hz : z = y + y / 65536) (hw : w = z + z / 4294967296) : w % 128 = b0 + b1 + b2 + b3 + b4 + b5 + b6 + b7 := by
  have x1 : x / 256 = q1 := f8_1 h0 hx
  rw [x1] at hy
  have y1 : y = (b0 + b1) + 256 * ((b1 + b2) + 256 * (q2 + q3)) := by rw [hy, hx]; clear hz hw x1 hy hx e3 e4 e5 e6; omega
  have y2 : y / 65536 = q2 + q3 := f8_2 (le2 h0 h1) (le2 h1 h2) y1
  rw [y2] at hz
  have z1 : z = (b0 + b1 + b2 + b3) + 256 * ((b1 + b2 + b3 + b4) + 256 * ((b2 + b3 + b4 + b5) + 256 * ((b3 + b4 + b5 + b6) + 256 * (q4 + q5 + q6 + b7)))) := by rw [hz, y1]; clear hz hw x1 hy hx y1 y2; omega
  have z2 : z / 4294967296 = q4 + q5 + q6 + b7 := f8_3 (le4 h0 h1 h2 h3) (le4 h1 h2 h3 h4) (le4 h2 h3 h4 h5) (le4 h3 h4 h5 h6) z1
  rw [z2] at hw
  have w1 : w = (b0 + b1 + b2 + b3 + b4 + b5 + b6 + b7) + 256 * ((b1 + b2 + b3 + b4) + 256 * ((b2 + b3 + b4 + b5) + 256 * ((b3 + b4 + b5 + b6) + 256 * (q4 + q5 + q6 + b7))) + (q5 + q6 + b7)) := by rw [hw, z1]; clear hz hw x1 hy hx y1 y2 z1 z2 e1 e2 e3; omega
  exact f8_4 (le8 h0 h1 h2 h3 h4 h5 h6 h7) w1
theorem fold_lt {x y z w : Nat} (h : x ≤ 578721382704613384) (hy : y = x + x / 256) (hz : z = y + y / 65536) (hw : w = z + z / 4294967296) : w < 2 ^ 64 := by
  have h1 : y ≤ 1157442765409226768 := by
    rw [hy]
    exact Nat.add_le_add h (Nat.le_trans (Nat.div_le_self _ _) h)
  have h2 : z ≤ 2314885530818453536 := by
    rw [hz]
    exact Nat.add_le_add h1 (Nat.le_trans (Nat.div_le_self _ _) h1)
  have h3 : w ≤ 4629771061636907072 := by
    rw [hw]
    exact Nat.add_le_add h2 (Nat.le_trans (Nat.div_le_self _ _) h2)
  exact Nat.lt_of_le_of_lt h3 (by decide)
