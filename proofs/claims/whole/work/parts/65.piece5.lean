/-! LAYER 2: piece, what holds then -/
section PCI
variable {c : Nat} {A B : Mm}
theorem Amk_wr (A : Mm) (p n : Nat) (k s b t x y : Int32) : Wr (Spie p) A (Amk A p n k s b t x y) := by
  unfold Amk
  refine Wr.wI ?_ (Or.inl ⟨rfl, rfl⟩)
  refine Wr.wC ?_ (fun t => Or.inr (Or.inr rfl))
  exact (((((((Wr.rf _ _).wI (Or.inr (Or.inl rfl))).wI (Or.inr (Or.inl rfl))).wI (Or.inr (Or.inl rfl))).wI (Or.inr (Or.inl rfl))).wI (Or.inr (Or.inl rfl))).wI (Or.inr (Or.inl rfl))).wI (Or.inr (Or.inl rfl))
theorem Amk_f (A : Mm) (p n : Nat) (k s b t x y : Int32) : rI (Amk A p n k s b t x y) (88 + 2 * p) 1 = k ∧ rI (Amk A p n k s b t x y) (88 + 2 * p) 2 = s ∧ rI (Amk A p n k s b t x y) (88 + 2 * p) 3 = b ∧ rI (Amk A p n k s b t x y) (88 + 2 * p) 4 = t ∧ rI (Amk A p n k s b t x y) (88 + 2 * p) 5 = nI n ∧ rI (Amk A p n k s b t x y) (88 + 2 * p) 6 = x ∧ rI (Amk A p n k s b t x y) (88 + 2 * p) 7 = y := by
  have q1 : ∀ z, rI (Amk A p n k s b t x y) (88 + 2 * p) z = rI (wI (wI (wI (wI (wI (wI (wI A (88 + 2 * p) 1 k) (88 + 2 * p) 2 s) (88 + 2 * p) 3 b) (88 + 2 * p) 4 t) (88 + 2 * p) 6 x) (88 + 2 * p) 7 y) (88 + 2 * p) 5 (nI n)) (88 + 2 * p) z := fun z => by
    unfold Amk
    rw [rI_wI, if_neg (by omega), rI_wC, if_neg (by omega)]
  simp only [q1]
  refine ⟨?_, ?_, ?_, ?_, ?_, ?_, ?_⟩ <;> simp [rI_wI]
theorem Amk_w {A : Mm} {p n : Nat} {k s b t x y : Int32} {j : Nat} (hj : j < n) (hp : p < 40) : rI (Amk A p n k s b t x y) (89 + 2 * p) j = rI A 62 j := by
  unfold Amk
  rw [rI_wI, if_neg (by omega), rI_wC, if_pos (by omega)]
  simp only [rI_wI]
  rw [if_neg (by omega), if_neg (by omega), if_neg (by omega), if_neg (by omega), if_neg (by omega), if_neg (by omega), if_neg (by omega), Nat.zero_add, Nat.sub_zero]
theorem Amk_11 (A : Mm) (p n : Nat) (k s b t x y : Int32) : rI (Amk A p n k s b t x y) 1 11 = nI (p + 1) := by simp [Amk, rI_wI]
theorem Bmk_wr (B : Mm) (p : Nat) (k s b t n x y : Int32) : Wr (fun k s => 189 ≤ k ∧ k ≤ 195 ∧ s = p) B (Bmk B p k s b t n x y) := by
  unfold Bmk
  exact (((((((Wr.rf _ _).wI (by omega)).wI (by omega)).wI (by omega)).wI (by omega)).wI (by omega)).wI (by omega)).wI (by omega)
theorem Bmk_f (B : Mm) (p : Nat) (k s b t n x y : Int32) : rI (Bmk B p k s b t n x y) 189 p = k ∧ rI (Bmk B p k s b t n x y) 190 p = s ∧ rI (Bmk B p k s b t n x y) 191 p = b ∧ rI (Bmk B p k s b t n x y) 192 p = t ∧ rI (Bmk B p k s b t n x y) 193 p = n ∧ rI (Bmk B p k s b t n x y) 194 p = x ∧ rI (Bmk B p k s b t n x y) 195 p = y := by
  unfold Bmk
  refine ⟨?_, ?_, ?_, ?_, ?_, ?_, ?_⟩ <;> simp [rI_wI]
/-- what a piece must be, as numbers -/
def Pnew (B : Mm) (k s n : Nat) (x y : Int32) : Prop :=
  (k = 0 ∨ k = 5 → ∃ a, a < 8 ∧ x = nI a) ∧ (k = 5 → ∃ a, a ≤ 100000 ∧ y = nI a) ∧
  (2 ≤ k ∧ k ≤ 4 → ∃ q kq zq, q < nP B ∧ x = nI q ∧ rI B 190 q = nI s ∧ rI B 189 q = nI kq ∧ rI B 193 q = nI zq ∧ zq ≤ 12 ∧ (k = 4 → kq ≠ 4) ∧ (k = 2 ∨ k = 3 → kq = 0 ∨ kq = 1 ∨ kq = 5) ∧ (k = 2 → ∃ a, a ≤ zq ∧ y = nI a) ∧ (k = 3 → ∃ a, a + n ≤ zq ∧ y = nI a))
theorem At.pie (h : Inv c (mg A B)) (hB : Sh B) {k s b t n : Nat} {x y : Int32} (hp : nP B < 40) (hk : k ≤ 5) (hs : s < 8) (hb : b < 6) (ht : t ≤ 9) (hn1 : 1 ≤ n) (hn : n ≤ 12) (hnn : nI n ≤ rI B 184 15) (hP : Pnew B k s n x y) {B' : Mm} {f g : Mm → Option (Int32 × Mm)} {r : Int32}
    (E1 : f A = some (r, Amk A (nP B) n (nI k) (nI s) (nI b) (nI t) x y)) (E2 : g B = some (r, B'))
    (w' : Wr (fun k s => (k = 196 ∧ 12 * nP B ≤ s ∧ s < 12 * nP B + 12) ∨ (k = 212 ∧ s % 40 = nP B) ∨ (k = 209 ∧ s % 40 = nP B) ∨ (k = 184 ∧ s = 6)) (Bmk B (nP B) (nI k) (nI s) (nI b) (nI t) (nI n) x y) B')
    (b6 : rI B' 184 6 = nI (nP B + 1)) (b9 : ∀ v, v < 6 → rI B' 209 (40 * v + nP B) = -1) (b12 : ∀ v, v < 8 → rI B' 212 (40 * v + nP B) = -1)
    (bw : ∀ j, j < n → rI B' 196 (12 * nP B + j) = rI (Bmk B (nP B) (nI k) (nI s) (nI b) (nI t) (nI n) x y) 197 j) : At c A B f g := by
  generalize ep : nP B = p at hp E1 w' b6 b9 b12 bw
  have hWA := Amk_wr A p n (nI k) (nI s) (nI b) (nI t) x y
  have hW1 := Bmk_wr B p (nI k) (nI s) (nI b) (nI t) (nI n) x y
  obtain ⟨a1, a2, a3, a4, a5, a6, a7⟩ := Amk_f A p n (nI k) (nI s) (nI b) (nI t) x y
  have aw : ∀ j, j < n → rI (Amk A p n (nI k) (nI s) (nI b) (nI t) x y) (89 + 2 * p) j = rI A 62 j := fun j hj => Amk_w hj hp
  have a11 := Amk_11 A p n (nI k) (nI s) (nI b) (nI t) x y
  obtain ⟨c1, c2, c3, c4, c5, c6, c7⟩ := Bmk_f B p (nI k) (nI s) (nI b) (nI t) (nI n) x y
  have hWB : Wr (Tpie p) B B' := (hW1.mono (fun k s q => by unfold Tpie; omega)).tr (w'.mono (fun k s q => by unfold Tpie; omega))
  have g9 : rI B' 189 p = nI k := (w'.2.2 189 p (by omega)).trans c1
  have g10 : rI B' 190 p = nI s := (w'.2.2 190 p (by omega)).trans c2
  have g11 : rI B' 191 p = nI b := (w'.2.2 191 p (by omega)).trans c3
  have g12 : rI B' 192 p = nI t := (w'.2.2 192 p (by omega)).trans c4
  have g13 : rI B' 193 p = nI n := (w'.2.2 193 p (by omega)).trans c5
  have g14 : rI B' 194 p = x := (w'.2.2 194 p (by omega)).trans c6
  have g15 : rI B' 195 p = y := (w'.2.2 195 p (by omega)).trans c7
  generalize Amk A p n (nI k) (nI s) (nI b) (nI t) x y = A' at *
  have ea := hWA.2.2
  have eb := hWB.2.2
  have hM := mg_wr hWA hWB
  have hwle := h.wle
  have np' : nP B' = p + 1 := by unfold nP; rw [b6, nI_clamp (by omega)]
  have nw' : nW B' = nW B := nW_eq (eb 184 2 (by unfold Tpie; omega))
  have nq' : nQ B' = nQ B := nQ_eq (eb 184 17 (by unfold Tpie; omega))
  have nt' : nTk B' = nTk B := nTk_eq (eb 184 31 (by unfold Tpie; omega))
  refine ⟨r, A', B', E1, E2, ?_, hWB.sh hB, hWA.fa (fun k s q => by unfold Spie at q; omega), hWB.fb (fun k s q => by unfold Tpie at q; omega)⟩
  refine h.keep (hWA.sh h.shA) _ hM (Or.inr ?_) (Or.inl ?_) (Or.inl ?_) (Or.inr ?_) (Or.inl ?_) (Or.inl ?_) (Or.inl ?_) (Or.inl ?_) (Or.inr ?_) (Or.inr ?_) (Or.inl ?_)
  · have x1 : rI A' 1 10 = rI B' 184 2 := by rw [ea 1 10 (by unfold Spie; omega), eb 184 2 (by unfold Tpie; omega), h.wc, h.mwc]
    have x2 : rI A' 5 1 = rI B' 184 17 := by rw [ea 5 1 (by unfold Spie; omega), eb 184 17 (by unfold Tpie; omega), h.qc, h.mqc]
    have x3 : rI A' 1 12 = rI B' 184 31 := by rw [ea 1 12 (by unfold Spie; omega), eb 184 31 (by unfold Tpie; omega), h.tt]
    have x4 : rI A' 1 13 = rI B' 184 42 := by rw [ea 1 13 (by unfold Spie; omega), eb 184 42 (by unfold Tpie; omega), h.sc]
    have x5 : rI A' 1 14 = rI B' 184 43 := by rw [ea 1 14 (by unfold Spie; omega), eb 184 43 (by unfold Tpie; omega), h.hc]
    have x6 : rI A' 1 15 = rI B' 184 56 := by rw [ea 1 15 (by unfold Spie; omega), eb 184 56 (by unfold Tpie; omega), h.lc]
    have y1 : rI B' 184 2 = nI (nW B') := by rw [nw', eb 184 2 (by unfold Tpie; omega), h.mwc]
    have y2 : rI B' 184 17 = nI (nQ B') := by rw [nq', eb 184 17 (by unfold Tpie; omega), h.mqc]
    have y3 : rI B' 184 31 = nI (nTk B') := by rw [nt', eb 184 31 (by unfold Tpie; omega), h.mtc]
    have t1 := h.tle
    have t2 := h.qle
    exact ⟨⟨x1, y1, show nW B' ≤ 6 by omega⟩, ⟨a11.trans b6.symm, by rw [← np'] at b6; exact b6, show nP B' ≤ 40 by omega⟩, ⟨x2, y2, show nQ B' ≤ 10 by omega⟩, ⟨x3, y3, show nTk B' ≤ 500 * (c + 1) by omega⟩, x4, x5, x6⟩
  · intro k s; unfold Lref Spie Tpie; omega
  · intro k s; unfold Lwir Spie Tpie; omega
  · intro q hq
    have hq2 : q < p + 1 := by rw [← np']; exact hq
    by_cases e : q = p
    · rw [e]
      obtain ⟨ro1, z, hz, ro2, ro3⟩ := h.ro
      have nz : n ≤ z := by rw [ro2] at hnn; exact (nI_leI (by omega) (by omega)).1 hnn
      unfold Pok
      simp (disch := omega) only [mg_lo, mg_hi]
      refine ⟨⟨a1.trans g9.symm, a2.trans g10.symm, a3.trans g11.symm, a4.trans g12.symm, a5.trans g13.symm, a6.trans g14.symm, a7.trans g15.symm⟩, k, s, b, t, n, g9, hk, g10, hs, g11, hb, g12, ht, g13, hn1, hn, fun j hj => ?_, fun q1 => ?_, fun q1 => ?_, fun q1 => ?_⟩
      · rw [aw j hj, bw j hj, hW1.2.2 197 j (by omega)]
        exact ro3 j (by omega)
      · rw [g14]; exact hP.1 q1
      · rw [g15]; exact hP.2.1 q1
      · obtain ⟨q', kq, zq, u1, u2, u3, u4, u5, u6⟩ := hP.2.2 q1
        rw [g14, g15]
        refine ⟨q', kq, zq, by omega, u2, ?_, ?_, ?_, u6⟩
        · rw [eb 190 q' (by unfold Tpie; omega)]; exact u3
        · rw [eb 189 q' (by unfold Tpie; omega)]; exact u4
        · rw [eb 193 q' (by unfold Tpie; omega)]; exact u5
    · exact (h.2.2.2.2.1 q (show q < nP B by omega)).kp (fun s => (hM _ s (by unfold Spie Tpie; omega)).1) (fun s => (hM _ s (by unfold Spie Tpie; omega)).1) (fun k j _ _ _ => (hM _ _ (by unfold Spie Tpie; omega)).1) (fun j _ => (hM _ _ (by unfold Spie Tpie; omega)).1)
  · intro k s; unfold Lrow Spie Tpie; omega
  · intro k s; unfold Ltap Spie Tpie; omega
  · intro k s; unfold Lrul Spie Tpie; omega
  · intro k s; unfold Lgar Spie Tpie; omega
  · intro a ha
    obtain ⟨s1, s2⟩ := h.sn ha
    simp (disch := omega) only [mg_lo, mg_hi]
    refine ⟨by rw [ea _ _ (by unfold Spie; omega), eb 213 a (by unfold Tpie; omega)]; exact s1, fun q hq => ⟨fun q1 => ?_, fun q1 => ?_⟩⟩
    · have q2 : q < p + 1 := by rw [← np']; exact q1
      by_cases e : q = p
      · rw [e, b12 a ha, ea _ _ (by unfold Spie; omega)]
        exact (s2 p hp).2 (by omega)
      · rw [ea _ _ (by unfold Spie; omega), eb 212 _ (by unfold Tpie; omega)]
        exact (s2 q hq).1 (by omega)
    · have q2 : p + 1 ≤ q := by rw [← np']; exact q1
      rw [ea _ _ (by unfold Spie; omega)]
      exact (s2 q hq).2 (by omega)
  · refine ⟨fun w hw => ?_, fun w q1 q2 => ?_⟩
    · have hw2 : w < nW B := by rw [← nw']; exact hw
      obtain ⟨F, f1, f2, f3, f4, f5, f6, f7, f8⟩ := h.fk hw2
      have m208 : ∀ s, rI B' 208 s = rI B 208 s := fun s => eb 208 s (by unfold Tpie; omega)
      have m210 : ∀ s, rI B' 210 s = rI B 210 s := fun s => eb 210 s (by unfold Tpie; omega)
      have m211 : ∀ s, rI B' 211 s = rI B 211 s := fun s => eb 211 s (by unfold Tpie; omega)
      have m207 : ∀ s, rI B' 207 s = rI B 207 s := fun s => eb 207 s (by unfold Tpie; omega)
      have m209 : ∀ q, q < 40 → q ≠ p → rI B' 209 (40 * w + q) = rI B 209 (40 * w + q) := fun q _ _ => eb 209 _ (by unfold Tpie; omega)
      have m193 : ∀ q, q ≠ p → rI B' 193 q = rI B 193 q := fun q _ => eb 193 _ (by unfold Tpie; omega)
      have n66 : ∀ s, rI A' (66 + 4 * w) s = rI A (66 + 4 * w) s := fun s => ea _ s (by unfold Spie; omega)
      have n67 : ∀ s, rI A' (67 + 4 * w) s = rI A (67 + 4 * w) s := fun s => ea _ s (by unfold Spie; omega)
      have n65 : ∀ s, rI A' (65 + 4 * w) s = rI A (65 + 4 * w) s := fun s => ea _ s (by unfold Spie; omega)
      have n64 : ∀ s, rI A' (64 + 4 * w) s = rI A (64 + 4 * w) s := fun s => ea _ s (by unfold Spie; omega)
      have eQl : Ql (mg A' B') w F = Qm B w F := by
        unfold Ql Qm
        simp (disch := omega) only [mg_hi, m208, m211]
      unfold Fok
      refine ⟨F, show F ≤ nP B' by omega, ?_, fun k hk => ?_, fun q hq => ?_, fun q q1 q2 => ?_, ?_, ?_, fun i hi => ?_⟩
      · simp (disch := omega) only [mg_hi, m207]
        exact f2
      · simp (disch := omega) only [mg_hi, m208]
        obtain ⟨q, p1, p2, p3⟩ := f3 k hk
        exact ⟨q, show q < nP B' by omega, p2, by rw [m209 q (by omega) (by omega)]; exact p3⟩
      · have hq2 : q < p + 1 := by rw [← np']; exact hq
        simp (disch := omega) only [mg_hi, mg_lo, m208, m210, m211, n66, n67]
        by_cases e : q = p
        · rw [e]
          exact Or.inl ⟨b9 w (by omega), f5 p (by omega) hp⟩
        · rw [m209 q (by omega) e, m193 q e]
          exact f4 q (by omega)
      · have q3 : p + 1 ≤ q := by rw [← np']; exact q1
        simp (disch := omega) only [mg_lo, n66, n67]
        exact f5 q (by omega) q2
      · rw [eQl]
        simp (disch := omega) only [mg_lo, n64]
        exact f6
      · rw [eQl]; exact f7
      · rw [eQl] at hi ⊢
        simp (disch := omega) only [mg_lo, n65]
        exact f8 i hi
    · have h3 : nW B ≤ w := by rw [← nw']; exact q1
      obtain ⟨g1, g2⟩ := h.fn h3 q2
      simp (disch := omega) only [mg_lo, mg_hi]
      refine ⟨by rw [ea _ _ (by unfold Spie; omega)]; exact g1, fun q hq => ?_⟩
      have hq2 : q < p + 1 := by rw [← np']; exact hq
      by_cases e : q = p
      · rw [e]; exact b9 w q2
      · rw [eb 209 _ (by unfold Tpie; omega)]
        exact g2 q (by omega)
  · intro k s; unfold Ledi Spie Tpie; omega
end PCI
