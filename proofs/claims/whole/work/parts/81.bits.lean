/-! LAYER 2: text: bits (begun from the kit's texts to paste), counts -/
theorem ts_bit {w : Int64} {s : UInt64} {j : Nat} (hj : j < 64) (hs : s.toNat = j) : ((w.toUInt64 >>> s).toInt64 &&& 1) = 0 ↔ w.toBitVec.getLsbD j = false := by
  have e : (w.toUInt64 >>> s).toInt64.toBitVec = w.toBitVec >>> j := by
    apply BitVec.eq_of_toNat_eq
    show (w.toUInt64 >>> s).toNat = _
    rw [UInt64.toNat_shiftRight, hs, Nat.mod_eq_of_lt hj, BitVec.toNat_ushiftRight]
    rfl
  rw [← Int64.toBitVec_inj, Int64.toBitVec_and, e]
  show w.toBitVec >>> j &&& 1#64 = 0#64 ↔ _
  constructor
  · intro h
    have t := congrArg (fun x => x.getLsbD 0) h
    simpa using t
  · intro h
    apply BitVec.eq_of_getLsbD_eq
    intro i hi
    cases i with
    | zero => simp [h]
    | succ i => simp
theorem wb_tb (n : Nat) : (lN n).toBitVec = BitVec.ofNat 64 n := rfl
theorem wb_inj {a b : Int64} (h : a.toBitVec = b.toBitVec) : a = b := Int64.toBitVec_inj.mp h
theorem wb_tn {n : Nat} (h : n < 2 ^ 64) : (lN n).toBitVec.toNat = n := by rw [wb_tb, BitVec.toNat_ofNat, Nat.mod_eq_of_lt h]
theorem wb_of (x : Int64) : ∃ n, n < 2 ^ 64 ∧ x = lN n := ⟨x.toBitVec.toNat, x.toBitVec.isLt, wb_inj (by rw [wb_tb]; simp)⟩
theorem wb_c : ∀ k, k < 64 → ((nI k).toInt64 &&& 63) = lN k := by decide +kernel
theorem wb_cu : ∀ k, k < 64 → ((nI k).toInt64.toUInt64 &&& Int64.toUInt64 63) = UInt64.ofNat k := by decide +kernel
theorem wb_sm : ∀ k, k < 64 → (BitVec.ofNat 64 k).smod 64 = BitVec.ofNat 64 k := by decide +kernel
theorem wb_lt2 {a b : Nat} (h : a < b) : 2 ^ a < 2 ^ b := Nat.pow_lt_pow_right (by decide) h
theorem wb_shl (n : Nat) {k : Nat} (hk : k < 64) : lN n <<< ((nI k).toInt64 &&& 63) = lN (n * 2 ^ k) := by
  rw [wb_c k hk]
  apply wb_inj
  rw [Int64.toBitVec_shiftLeft, wb_tb, wb_tb, wb_tb, wb_sm k hk]
  apply BitVec.eq_of_toNat_eq
  rw [BitVec.shiftLeft_eq', BitVec.toNat_shiftLeft, BitVec.toNat_ofNat, BitVec.toNat_ofNat, BitVec.toNat_ofNat, Nat.mod_eq_of_lt (show k < 2 ^ 64 by omega), Nat.shiftLeft_eq, Nat.mul_mod, Nat.mod_mod, ← Nat.mul_mod]
theorem wb_and {a b : Nat} (ha : a < 2 ^ 64) (hb : b < 2 ^ 64) : lN a &&& lN b = lN (a &&& b) := by
  apply wb_inj
  rw [Int64.toBitVec_and, wb_tb, wb_tb, wb_tb]
  apply BitVec.eq_of_toNat_eq
  rw [BitVec.toNat_and, BitVec.toNat_ofNat, BitVec.toNat_ofNat, BitVec.toNat_ofNat, Nat.mod_eq_of_lt ha, Nat.mod_eq_of_lt hb, Nat.mod_eq_of_lt (Nat.and_lt_two_pow _ hb)]
theorem wb_mask {n k : Nat} (hn : n < 2 ^ 64) (hk : k < 64) : lN n &&& lN (2 ^ k - 1) = lN (n % 2 ^ k) := by
  rw [wb_and hn (by have := wb_lt2 hk; omega), Nat.and_two_pow_sub_one_eq_mod]
theorem wb_a1 {n : Nat} (hn : n < 2 ^ 64) : lN n &&& 1 = lN (n % 2) := wb_mask (k := 1) hn (by decide)
theorem bit_or (a b : Int64) (p : Nat) : bit (a ||| b) p = (bit a p || bit b p) := by
  unfold bit
  rw [Int64.toBitVec_or, BitVec.getLsbD_or]
theorem bit_and (a b : Int64) (p : Nat) : bit (a &&& b) p = (bit a p && bit b p) := by
  unfold bit
  rw [Int64.toBitVec_and, BitVec.getLsbD_and]
theorem bit_not (b : Int64) {p : Nat} (hp : p < 64) : bit (b ^^^ (-1 : Int64)) p = !bit b p := by
  unfold bit
  have ha : (-1 : Int64).toBitVec = BitVec.allOnes 64 := by decide
  rw [Int64.toBitVec_xor, ha, BitVec.getLsbD_xor, BitVec.getLsbD_allOnes]
  simp [hp]
theorem bit_0 (p : Nat) : bit 0 p = false := by
  unfold bit
  have ha : (0 : Int64).toBitVec = 0#64 := by decide
  rw [ha]
  simp
theorem bit_1 {k : Nat} (p : Nat) (hk : k < 64) : bit ((1 : Int64) <<< ((nI k).toInt64 &&& 63)) p = decide (p = k) := by
  have h1 : (1 : Int64) = lN 1 := by decide
  rw [h1, wb_shl 1 hk, Nat.one_mul]
  unfold bit
  rw [wb_tb, BitVec.getLsbD_ofNat, Nat.testBit_two_pow]
  by_cases e : p = k
  · subst e; simp [hk]
  · simp [e, show ¬ k = p by omega]
theorem bit_t (w : Int64) {k : Nat} (hk : k < 64) : ((w.toUInt64 >>> ((nI k).toInt64.toUInt64 &&& Int64.toUInt64 63)).toInt64 &&& (1 : Int64)) = if bit w k = true then 1 else 0 := by
  have hs : (UInt64.ofNat k).toNat = k := by
    show (BitVec.ofNat 64 k).toNat = k
    rw [BitVec.toNat_ofNat, Nat.mod_eq_of_lt (by omega)]
  have t := ts_bit (w := w) hk hs
  rw [wb_cu k hk]
  by_cases e : bit w k = true
  · rw [if_pos e]
    obtain ⟨n, hn, en⟩ := wb_of (w.toUInt64 >>> UInt64.ofNat k).toInt64
    have t2 : ¬ ((w.toUInt64 >>> UInt64.ofNat k).toInt64 &&& 1) = 0 := fun z => by
      have := t.1 z
      unfold bit at e
      rw [this] at e
      cases e
    rw [en, wb_a1 hn] at t2 ⊢
    have h2 : n % 2 = 0 ∨ n % 2 = 1 := by omega
    rcases h2 with h2 | h2
    · rw [h2] at t2; exact absurd rfl t2
    · rw [h2]; rfl
  · rw [if_neg e]
    exact t.2 (Bool.eq_false_iff.2 e)
theorem bit_c (w : Int64) {k : Nat} (hk : k < 64) : (lg_cmp ((w.toUInt64 >>> ((nI k).toInt64.toUInt64 &&& Int64.toUInt64 63)).toInt64 &&& (1 : Int64)) (1 : Int64)) = 0 ↔ bit w k = true := by
  rw [bit_t w hk]
  by_cases e : bit w k = true
  · rw [if_pos e]; exact ⟨fun _ => e, fun _ => by decide⟩
  · rw [if_neg e]; exact ⟨fun z => absurd z (by decide), fun z => absurd z e⟩
/-- how many below n have f -/
def cs (f : Nat → Bool) : Nat → Nat
  | 0 => 0
  | n + 1 => cs f n + if f n = true then 1 else 0
theorem cs_le (f : Nat → Bool) : ∀ n, cs f n ≤ n
  | 0 => Nat.le_refl 0
  | n + 1 => by
    have := cs_le f n
    unfold cs
    split <;> omega
theorem cs_mono {f g : Nat → Bool} : ∀ n, (∀ p, p < n → f p = true → g p = true) → cs f n ≤ cs g n
  | 0, _ => Nat.le_refl 0
  | n + 1, h => by
    have := cs_mono n (fun p hp => h p (by omega))
    unfold cs
    by_cases e : f n = true
    · rw [if_pos e, if_pos (h n (by omega) e)]; omega
    · rw [if_neg e]; split <;> omega
theorem cs_add {f g k : Nat → Bool} : ∀ n, (∀ p, p < n → f p = true → g p = false) → (∀ p, p < n → f p = true ∨ g p = true → k p = true) → cs f n + cs g n ≤ cs k n
  | 0, _, _ => Nat.le_refl 0
  | n + 1, h, h2 => by
    have := cs_add n (fun p hp => h p (by omega)) (fun p hp => h2 p (by omega))
    unfold cs
    by_cases e : f n = true
    · rw [if_pos e, if_neg (by rw [h n (by omega) e]; decide), if_pos (h2 n (by omega) (Or.inl e))]; omega
    · rw [if_neg e]
      by_cases e2 : g n = true
      · rw [if_pos e2, if_pos (h2 n (by omega) (Or.inr e2))]; omega
      · rw [if_neg e2]; split <;> omega
/-- the latest below n -/
def lt (f : Nat → Bool) : Nat → Option Nat
  | 0 => none
  | n + 1 => if f n = true then some n else lt f n
theorem lt_top {f : Nat → Bool} {N : Nat} : ∀ d, (∀ p, N ≤ p → p < N + d → f p = false) → lt f (N + d) = lt f N
  | 0, _ => rfl
  | d + 1, h => by
    show (if f (N + d) = true then some (N + d) else lt f (N + d)) = lt f N
    rw [if_neg (by rw [h (N + d) (by omega) (by omega)]; decide)]
    exact lt_top d (fun p h1 h2 => h p h1 (by omega))
theorem lt_some {f : Nat → Bool} : ∀ {n p : Nat}, lt f n = some p → p < n ∧ f p = true
  | 0, p, h => by cases h
  | n + 1, p, h => by
    unfold lt at h
    by_cases e : f n = true
    · rw [if_pos e] at h; cases h; exact ⟨by omega, e⟩
    · rw [if_neg e] at h
      obtain ⟨a, b⟩ := lt_some h
      exact ⟨by omega, b⟩
