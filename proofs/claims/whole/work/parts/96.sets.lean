/-! LAYER 2: worth: sets of pieces, as numbers -/
/-- the sum of f over the bits of s below k -/
def bs (f : Nat → Nat) (s : Nat) : Nat → Nat
  | 0 => 0
  | k + 1 => bs f s k + (if s.testBit k = true then f k else 0)
theorem bs_lo (f : Nat → Nat) {k s : Nat} (h : s < 2 ^ k) : bs f s (k + 1) = bs f s k := by
  show bs f s k + _ = _
  rw [Nat.testBit_lt_two_pow h]
  rfl
theorem bs_cg (f : Nat → Nat) {s s' : Nat} : ∀ k, (∀ i, i < k → s.testBit i = s'.testBit i) → bs f s k = bs f s' k
  | 0, _ => rfl
  | k + 1, h => by
    show bs f s k + _ = bs f s' k + _
    rw [bs_cg f k (fun i hi => h i (by omega)), h k (by omega)]
theorem bs_hi (f : Nat → Nat) {k s : Nat} (h : s < 2 ^ k) : bs f (2 ^ k + s) (k + 1) = bs f s k + f k := by
  show bs f (2 ^ k + s) k + (if (2 ^ k + s).testBit k = true then f k else 0) = _
  rw [Nat.testBit_two_pow_add_eq, Nat.testBit_lt_two_pow h, bs_cg f k (fun i hi => Nat.testBit_two_pow_add_gt hi s)]
  rfl
theorem bs_0 (f : Nat → Nat) : ∀ k, bs f 0 k = 0
  | 0 => rfl
  | k + 1 => by
    show bs f 0 k + _ = 0
    rw [bs_0 f k, Nat.zero_testBit]
    rfl
theorem bs_le {f : Nat → Nat} {c s : Nat} : ∀ k, (∀ i, i < k → f i ≤ c) → bs f s k ≤ c * k
  | 0, _ => Nat.zero_le _
  | k + 1, h => by
    have := bs_le (s := s) k (fun i hi => h i (by omega))
    have hk := h k (by omega)
    show bs f s k + _ ≤ _
    rw [Nat.mul_succ]
    split <;> omega
theorem bs_mono {f : Nat → Nat} {s : Nat} (k : Nat) : ∀ d, bs f s k ≤ bs f s (k + d)
  | 0 => Nat.le_refl _
  | d + 1 => by
    have := bs_mono (f := f) (s := s) k d
    show _ ≤ bs f s (k + d) + _
    omega
/-- with just t words: the greatest gain, the least set with it; of the first k -/
def dp (w g : Nat → Nat) : Nat → Nat → Option (Nat × Nat)
  | 0, t => if t = 0 then some (0, 0) else none
  | k + 1, t => match (if w k ≤ t then dp w g k (t - w k) else none) with
    | none => dp w g k t
    | some q => match dp w g k t with
      | none => some (q.1 + g k, q.2 + 2 ^ k)
      | some o => if o.1 < q.1 + g k then some (q.1 + g k, q.2 + 2 ^ k) else some o
/-- what an entry says of the sets with t words -/
def Dok (w g : Nat → Nat) (k t : Nat) : Option (Nat × Nat) → Prop
  | none => ∀ s, s < 2 ^ k → bs w s k ≠ t
  | some q => q.2 < 2 ^ k ∧ bs w q.2 k = t ∧ bs g q.2 k = q.1 ∧ ∀ s, s < 2 ^ k → bs w s k = t → bs g s k < q.1 ∨ (bs g s k = q.1 ∧ q.2 ≤ s)
theorem half (k s : Nat) (h : s < 2 ^ (k + 1)) : s < 2 ^ k ∨ ∃ s', s' < 2 ^ k ∧ s = 2 ^ k + s' := by
  rw [Nat.pow_succ] at h
  by_cases c : s < 2 ^ k
  · exact Or.inl c
  · exact Or.inr ⟨s - 2 ^ k, by omega, by omega⟩
theorem dp_ok (w g : Nat → Nat) : ∀ k t, Dok w g k t (dp w g k t)
  | 0, t => by
    unfold dp
    by_cases e : t = 0
    · rw [if_pos e]
      refine ⟨by simp, by rw [e]; rfl, rfl, fun s hs _ => Or.inr ⟨rfl, Nat.zero_le s⟩⟩
    · rw [if_neg e]
      intro s _ z
      exact e z.symm
  | k + 1, t => by
    have I0 := dp_ok w g k t
    have I1 := dp_ok w g k (t - w k)
    have p2 : 2 ^ (k + 1) = 2 ^ k + 2 ^ k := by rw [Nat.pow_succ]; omega
    -- no set with the last one
    have noW : (∀ s', s' < 2 ^ k → bs w s' k + w k ≠ t) → Dok w g (k + 1) t (dp w g k t) := fun hno => by
      cases h0 : dp w g k t with
      | none =>
        rw [h0] at I0
        intro s hs z
        rcases half k s hs with c | ⟨s', h1, rfl⟩
        · rw [bs_lo w c] at z; exact I0 s c z
        · rw [bs_hi w h1] at z; exact hno s' h1 z
      | some o =>
        rw [h0] at I0
        obtain ⟨a1, a2, a3, a4⟩ := I0
        refine ⟨by omega, by rw [bs_lo w a1]; exact a2, by rw [bs_lo g a1]; exact a3, fun s hs z => ?_⟩
        rcases half k s hs with c | ⟨s', h1, rfl⟩
        · rw [bs_lo w c] at z; rw [bs_lo g c]; exact a4 s c z
        · rw [bs_hi w h1] at z; exact absurd z (hno s' h1)
    unfold dp
    by_cases c : w k ≤ t
    · rw [if_pos c]
      cases h1 : dp w g k (t - w k) with
      | none =>
        rw [h1] at I1
        exact noW (fun s' hs' z => I1 s' hs' (by omega))
      | some q =>
        rw [h1] at I1
        obtain ⟨b1, b2, b3, b4⟩ := I1
        -- the sets with the last one
        have withW : ∀ s', s' < 2 ^ k → bs w s' k + w k = t → bs g s' k + g k < q.1 + g k ∨ (bs g s' k + g k = q.1 + g k ∧ q.2 + 2 ^ k ≤ 2 ^ k + s') := fun s' hs' z => by
          rcases b4 s' hs' (by omega) with d | ⟨d, e⟩
          · exact Or.inl (by omega)
          · exact Or.inr ⟨by omega, by omega⟩
        have eq2 : q.2 + 2 ^ k = 2 ^ k + q.2 := Nat.add_comm _ _
        cases h0 : dp w g k t with
        | none =>
          rw [h0] at I0
          refine ⟨by show q.2 + 2 ^ k < 2 ^ (k + 1); omega, ?_, ?_, fun s hs z => ?_⟩
          · show bs w (q.2 + 2 ^ k) (k + 1) = t
            rw [eq2, bs_hi w b1]; omega
          · show bs g (q.2 + 2 ^ k) (k + 1) = q.1 + g k
            rw [eq2, bs_hi g b1]; omega
          · rcases half k s hs with e | ⟨s', e1, rfl⟩
            · rw [bs_lo w e] at z; exact absurd z (I0 s e)
            · rw [bs_hi w e1] at z
              rw [bs_hi g e1]
              exact withW s' e1 z
        | some o =>
          rw [h0] at I0
          obtain ⟨a1, a2, a3, a4⟩ := I0
          show Dok w g (k + 1) t (if o.1 < q.1 + g k then some (q.1 + g k, q.2 + 2 ^ k) else some o)
          by_cases cc : o.1 < q.1 + g k
          · rw [if_pos cc]
            refine ⟨by show q.2 + 2 ^ k < 2 ^ (k + 1); omega, ?_, ?_, fun s hs z => ?_⟩
            · show bs w (q.2 + 2 ^ k) (k + 1) = t
              rw [eq2, bs_hi w b1]; omega
            · show bs g (q.2 + 2 ^ k) (k + 1) = q.1 + g k
              rw [eq2, bs_hi g b1]; omega
            · rcases half k s hs with e | ⟨s', e1, rfl⟩
              · rw [bs_lo w e] at z
                rw [bs_lo g e]
                refine Or.inl ?_
                show bs g s k < q.1 + g k
                rcases a4 s e z with d | ⟨d, -⟩ <;> omega
              · rw [bs_hi w e1] at z
                rw [bs_hi g e1]
                exact withW s' e1 z
          · rw [if_neg cc]
            refine ⟨by omega, by rw [bs_lo w a1]; exact a2, by rw [bs_lo g a1]; exact a3, fun s hs z => ?_⟩
            rcases half k s hs with e | ⟨s', e1, rfl⟩
            · rw [bs_lo w e] at z; rw [bs_lo g e]; exact a4 s e z
            · rw [bs_hi w e1] at z
              rw [bs_hi g e1]
              rcases withW s' e1 z with d | ⟨d, d2⟩
              · exact Or.inl (by omega)
              · by_cases d3 : o.1 = q.1 + g k
                · exact Or.inr ⟨by omega, by omega⟩
                · exact Or.inl (by omega)
    · rw [if_neg c]
      exact noW (fun s' hs' z => c (by omega))
/-- the best of the sets of at most room words, among the first sets or those of few words -/
def Bst (w g : Nat → Nat) (m room : Nat) (P : Nat → Prop) (e : Nat) : Prop := e < 2 ^ m ∧ bs w e m ≤ room ∧ ∀ s, s < 2 ^ m → P s → bs w s m ≤ room → bs g s m < bs g e m ∨ (bs g s m = bs g e m ∧ (bs w e m < bs w s m ∨ (bs w e m = bs w s m ∧ e ≤ s)))
theorem Bst_uq {w g : Nat → Nat} {m room e e' : Nat} (h : Bst w g m room (fun _ => True) e) (h' : Bst w g m room (fun _ => True) e') : e = e' := by
  obtain ⟨a1, a2, a3⟩ := h
  obtain ⟨b1, b2, b3⟩ := h'
  have c1 := a3 e' b1 trivial b2
  have c2 := b3 e a1 trivial a2
  omega
/-- picking over the words: one number of words more -/
theorem Bst_t {w g : Nat → Nat} {m room e t : Nat} (h : Bst w g m room (fun s => bs w s m < t) e) (he : e = 0 ∨ bs w e m < t) (ht : t ≤ room) : match dp w g m t with
    | none => Bst w g m room (fun s => bs w s m < t + 1) e
    | some q => if q.1 ≤ bs g e m then Bst w g m room (fun s => bs w s m < t + 1) e else (Bst w g m room (fun s => bs w s m < t + 1) q.2 ∧ bs w q.2 m < t + 1 ∧ bs g q.2 m = q.1 ∧ q.2 < 2 ^ m) := by
  have D := dp_ok w g m t
  obtain ⟨a1, a2, a3⟩ := h
  cases hx : dp w g m t with
  | none =>
    rw [hx] at D
    refine ⟨a1, a2, fun s hs hP hr => ?_⟩
    by_cases c : bs w s m = t
    · exact absurd c (D s hs)
    · exact a3 s hs (by show bs w s m < t; omega) hr
  | some q =>
    rw [hx] at D
    obtain ⟨d1, d2, d3, d4⟩ := D
    show if q.1 ≤ bs g e m then _ else _
    by_cases c : q.1 ≤ bs g e m
    · rw [if_pos c]
      refine ⟨a1, a2, fun s hs hP hr => ?_⟩
      have hP' : bs w s m < t + 1 := hP
      by_cases cc : bs w s m = t
      · rcases d4 s hs cc with x | ⟨x, y⟩
        · exact Or.inl (by omega)
        · by_cases z : q.1 = bs g e m
          · refine Or.inr ⟨by omega, ?_⟩
            rcases he with he | he
            · by_cases z2 : bs w e m < bs w s m
              · exact Or.inl z2
              · refine Or.inr ⟨?_, by omega⟩
                have : bs w e m = 0 := by rw [he]; exact bs_0 w m
                omega
            · exact Or.inl (by omega)
          · exact Or.inl (by omega)
      · exact a3 s hs (by show bs w s m < t; omega) hr
    · rw [if_neg c]
      refine ⟨⟨d1, by omega, fun s hs hP hr => ?_⟩, by omega, d3, d1⟩
      have hP' : bs w s m < t + 1 := hP
      by_cases cc : bs w s m = t
      · rcases d4 s hs cc with x | ⟨x, y⟩
        · exact Or.inl (by omega)
        · exact Or.inr ⟨by omega, Or.inr ⟨by omega, y⟩⟩
      · rcases a3 s hs (by show bs w s m < t; omega) hr with x | ⟨x, -⟩
        · exact Or.inl (by omega)
        · exact Or.inl (by omega)
/-- trying the sets: one set more -/
theorem Bst_s {w g : Nat → Nat} {m room e s0 : Nat} (h : Bst w g m room (fun s => s < s0) e) (he : e = 0 ∨ e < s0) (hs0 : s0 < 2 ^ m) : if room < bs w s0 m ∨ bs g s0 m < bs g e m ∨ (bs g s0 m = bs g e m ∧ bs w e m ≤ bs w s0 m) then Bst w g m room (fun s => s < s0 + 1) e else Bst w g m room (fun s => s < s0 + 1) s0 := by
  obtain ⟨a1, a2, a3⟩ := h
  by_cases c : room < bs w s0 m ∨ bs g s0 m < bs g e m ∨ (bs g s0 m = bs g e m ∧ bs w e m ≤ bs w s0 m)
  · rw [if_pos c]
    refine ⟨a1, a2, fun s hs hP hr => ?_⟩
    have hP' : s < s0 + 1 := hP
    by_cases e1 : s = s0
    · subst e1
      rcases c with c | c | ⟨c1, c2⟩
      · omega
      · exact Or.inl c
      · refine Or.inr ⟨c1, ?_⟩
        by_cases z : bs w e m = bs w s m
        · exact Or.inr ⟨z, by omega⟩
        · exact Or.inl (by omega)
    · exact a3 s hs (by show s < s0; omega) hr
  · rw [if_neg c]
    simp only [not_or, not_and] at c
    obtain ⟨c1, c2, c3⟩ := c
    refine ⟨hs0, by omega, fun s hs hP hr => ?_⟩
    have hP' : s < s0 + 1 := hP
    by_cases e1 : s = s0
    · subst e1
      exact Or.inr ⟨rfl, Or.inr ⟨rfl, Nat.le_refl s⟩⟩
    · rcases a3 s hs (by show s < s0; omega) hr with x | ⟨x, y⟩
      · exact Or.inl (by omega)
      · by_cases z : bs g s0 m = bs g e m
        · have := c3 z
          exact Or.inr ⟨by omega, Or.inl (by omega)⟩
        · exact Or.inl (by omega)
