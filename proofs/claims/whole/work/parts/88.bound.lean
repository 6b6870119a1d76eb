/-! LAYER 2: text: there is room for all words -/
def own (B : Mm) (a s : Nat) (t : Int32) (b q : Nat) : Bool := decide (q = b) || onb B a s t 2 b q
def inr (B : Mm) (q : Nat) : Nat → Nat → Bool
  | 0, pl => decide (rI B 195 q = nI pl)
  | d + 1, pl => decide (rI B 195 q = nI pl) || inr B q d (pl + 1)
/-- of two pieces that stand in a text the one with the lesser number here stands first -/
def stg (B : Mm) (q : Nat) : Nat := 9 * (rI B 190 q).toNatClampNeg + (if rI B 189 (if rI B 189 q = 2 then (rI B 194 q).toNatClampNeg else q) = 1 then 0 else 1 + (rI B 194 (if rI B 189 q = 2 then (rI B 194 q).toNatClampNeg else q)).toNatClampNeg)
section BND
variable {B : Mm} {a s : Nat} {t : Int32}
theorem cs_mn (f : Nat → Bool) {n : Nat} : ∀ d, cs f n ≤ cs f (n + d)
  | 0 => Nat.le_refl _
  | d + 1 => by
    have := cs_mn f (n := n) d
    show cs f n ≤ cs f (n + d) + _
    omega
theorem cs_one {b : Nat} : ∀ n, b < n → 1 ≤ cs (fun q => decide (q = b)) n
  | n + 1, h => by
    show 1 ≤ cs _ n + if decide (n = b) = true then 1 else 0
    by_cases e : n = b
    · simp [e]
    · have := cs_one (b := b) n (by omega)
      omega
theorem ic_le (b pl : Nat) : ∀ d q, ic B a s t b pl d q + cs (ins B a s t b pl) q ≤ cs (ins B a s t b pl) (q + d)
  | 0, q => by simp [ic]
  | d + 1, q => by
    have IH := ic_le b pl d (q + 1)
    have e : cs (ins B a s t b pl) (q + 1) = cs (ins B a s t b pl) q + if ins B a s t b pl q = true then 1 else 0 := rfl
    have e2 : ic B a s t b pl (d + 1) q = (if ins B a s t b pl q = true then 1 else 0) + ic B a s t b pl d (q + 1) := rfl
    rw [show q + (d + 1) = q + 1 + d by omega]
    omega
theorem ic_40 {b : Nat} (pl : Nat) (hP : nP B ≤ 40) (hb : b < nP B) : ic B a s t b pl (nP B - (b + 1)) (b + 1) ≤ cs (ins B a s t b pl) 40 := by
  have h1 := ic_le (B := B) (a := a) (s := s) (t := t) b pl (nP B - (b + 1)) (b + 1)
  have h2 := cs_mn (ins B a s t b pl) (n := b + 1 + (nP B - (b + 1))) (40 - nP B)
  rw [show b + 1 + (nP B - (b + 1)) + (40 - nP B) = 40 by omega] at h2
  omega
theorem inr_f {q pl : Nat} (h : rI B 195 q = nI pl) : ∀ d p, pl < p → p + d ≤ 20 → inr B q d p = false
  | 0, p, h1, h2 => by
    unfold inr
    have : ¬ rI B 195 q = nI p := fun z => by
      have := (nI_eq (by omega) (by omega)).1 (h.symm.trans z)
      omega
    simp [this]
  | d + 1, p, h1, h2 => by
    unfold inr
    have : ¬ rI B 195 q = nI p := fun z => by
      have := (nI_eq (by omega) (by omega)).1 (h.symm.trans z)
      omega
    simp [this, inr_f h d (p + 1) (by omega) (by omega)]
theorem wls_sum {b : Nat} (hP : nP B ≤ 40) (hb : b < nP B) : ∀ d pl, pl + d ≤ 12 → wls B a s t b d pl ≤ 12 * cs (fun q => onb B a s t 2 b q && inr B q d pl) 40 + d
  | 0, pl, _ => by
    have := ic_40 (a := a) (s := s) (t := t) pl hP hb
    show 12 * ic B a s t b pl _ _ ≤ 12 * cs (ins B a s t b pl) 40 + 0
    omega
  | d + 1, pl, h => by
    have h1 := ic_40 (a := a) (s := s) (t := t) pl hP hb
    have IH := wls_sum hP hb d (pl + 1) (by omega)
    have h2 := cs_add (f := ins B a s t b pl) (g := fun q => onb B a s t 2 b q && inr B q d (pl + 1)) (k := fun q => onb B a s t 2 b q && inr B q (d + 1) pl) 40 (fun q _ hq => by
      unfold ins at hq
      simp only [Bool.and_eq_true, decide_eq_true_eq] at hq
      rw [inr_f hq.2 d (pl + 1) (by omega) (by omega), Bool.and_false]) (fun q _ hq => by
      show (onb B a s t 2 b q && (decide (rI B 195 q = nI pl) || inr B q d (pl + 1))) = true
      rcases hq with hq | hq
      · unfold ins at hq
        simp only [Bool.and_eq_true, decide_eq_true_eq] at hq
        simp [hq.1, hq.2]
      · simp only [Bool.and_eq_true] at hq
        simp [hq.1, hq.2])
    show 12 * ic B a s t b pl _ _ + 1 + wls B a s t b d (pl + 1) ≤ _
    omega
theorem wls_own {b z : Nat} (hP : nP B ≤ 40) (hb : b < nP B) (hk : ¬ rI B 189 b = 2) (z12 : z ≤ 12) : wls B a s t b z 0 ≤ 12 * cs (own B a s t b) 40 := by
  have h1 := wls_sum (a := a) (s := s) (t := t) hP hb z 0 (by omega)
  have h2 := cs_mono (f := fun q => onb B a s t 2 b q && inr B q z 0) (g := onb B a s t 2 b) 40 (fun q _ hq => by
    simp only [Bool.and_eq_true] at hq
    exact hq.1)
  have h3 := cs_one (b := b) 40 (by omega)
  have h4 := cs_add (f := fun q => decide (q = b)) (g := onb B a s t 2 b) (k := own B a s t b) 40 (fun q _ hq => by
    simp only [decide_eq_true_eq] at hq
    subst hq
    unfold onb
    simp [hk]) (fun q _ hq => by
    unfold own
    rcases hq with hq | hq
    · rw [hq]; rfl
    · rw [hq]; simp)
  omega
theorem own_stg {b j : Nat} (hP : nP B ≤ 40) (hb : b < nP B) (s8 : s < 8) (hs : rI B 190 b = nI s) (hk : ¬ rI B 189 b = 2) (hj : (rI B 189 b = 1 ∧ j = 0) ∨ (¬ rI B 189 b = 1 ∧ ∃ x, x < 8 ∧ rI B 194 b = nI x ∧ j = 1 + x)) {q : Nat} (hq : own B a s t b q = true) : stg B q = 9 * s + j := by
  have key : ∀ o, rI B 190 q = nI s → o = b → 9 * (rI B 190 q).toNatClampNeg + (if rI B 189 o = 1 then 0 else 1 + (rI B 194 o).toNatClampNeg) = 9 * s + j := fun o h1 h2 => by
    rw [h1, nI_clamp (by omega), h2]
    rcases hj with ⟨g1, g2⟩ | ⟨g1, x, x8, g2, g3⟩
    · rw [if_pos g1, g2]
    · rw [if_neg g1, g2, nI_clamp (by omega), g3]
  unfold own at hq
  unfold stg
  by_cases e : q = b
  · rw [e] at key ⊢
    rw [if_neg hk]
    exact key b hs rfl
  · have h2 : onb B a s t 2 b q = true := by simpa [e] using hq
    unfold onb thS at h2
    simp only [Bool.and_eq_true, decide_eq_true_eq] at h2
    obtain ⟨⟨⟨⟨-, h3⟩, -⟩, h4⟩, h5⟩ := h2
    rw [if_pos h4]
    exact key _ h3 (by rw [h5, nI_clamp (by omega)])
/-- room: the words so far, and the next piece's -/
theorem room_add {b z j n : Nat} (hP : nP B ≤ 40) (hb : b < nP B) (s8 : s < 8) (hs : rI B 190 b = nI s) (hk : ¬ rI B 189 b = 2) (hj : (rI B 189 b = 1 ∧ j = 0) ∨ (¬ rI B 189 b = 1 ∧ ∃ x, x < 8 ∧ rI B 194 b = nI x ∧ j = 1 + x)) (z12 : z ≤ 12) (hn : n ≤ 12 * cs (fun q => decide (stg B q < 9 * s + j)) 40) : n + wls B a s t b z 0 ≤ 12 * cs (fun q => decide (stg B q < 9 * s + j + 1)) 40 := by
  have h1 := wls_own (a := a) (s := s) (t := t) hP hb hk z12
  have h2 := cs_add (f := fun q => decide (stg B q < 9 * s + j)) (g := own B a s t b) (k := fun q => decide (stg B q < 9 * s + j + 1)) 40 (fun q _ hq => by
    by_cases z : own B a s t b q = true
    · have := own_stg hP hb s8 hs hk hj z
      simp only [decide_eq_true_eq] at hq
      omega
    · exact Bool.eq_false_iff.2 z) (fun q _ hq => by
    simp only [decide_eq_true_eq] at hq ⊢
    rcases hq with hq | hq
    · omega
    · have := own_stg hP hb s8 hs hk hj hq
      omega)
  omega
theorem room_480 (k : Nat) : 12 * cs (fun q => decide (stg B q < k)) 40 ≤ 480 := by
  have := cs_le (fun q => decide (stg B q < k)) 40
  omega
theorem room_mono {k k' : Nat} (h : k ≤ k') : cs (fun q => decide (stg B q < k)) 40 ≤ cs (fun q => decide (stg B q < k')) 40 := cs_mono 40 (fun q _ hq => by
  simp only [decide_eq_true_eq] at hq ⊢
  omega)
end BND
