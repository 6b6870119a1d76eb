/-! LAYER 2: the law's loop -/
theorem Sim.step2 {c : Nat} {f g : Mm → Option (Int32 × Mm)} (h : Sim c f g) {M : Mm} (hi : Inv c M) : ∃ r M1 M2, f M = some (r, M1) ∧ Sh M1 ∧ g M1 = some (r, M2) ∧ Inv (c + 1) M2 := by
  obtain ⟨r, A1, B1, h1, h2, h3, h4, h5, h6⟩ := h M M (by rw [mg_self]; exact hi) hi.1
  have hs : Sh A1 := h3.1
  obtain ⟨r', M1, M2, g1, g2, g3⟩ := h.step hi
  rw [h1] at g1
  cases g1
  exact ⟨r, A1, M2, h1, hs, g2, g3⟩
theorem zw_i {L k j : Nat} (hL : L ≤ 2560) (hk : 5 * k + 5 ≤ L) (hj : j < 5) : inb (nI (5 * k) + nI j) L = true ∧ (nI (5 * k) + nI j).toNatClampNeg = 5 * k + j := by
  rw [nI_add]
  exact ⟨inb_nI (by omega) (by omega), nI_clamp (by omega)⟩
theorem zw_31 (x : Int32) : ∃ v, v < 32 ∧ x &&& (31 : Int32) = nI v := by
  obtain ⟨j, hj, e⟩ := pk_andE x (m := 31) 5 (by decide)
  exact ⟨j, hj, e⟩
section LAW
variable {L : Nat} {xs : Nat → Int32}
theorem zw_next (k18 : Nat → Nat → Int32 → Mm → Option (Int32 × Mm)) {k : Nat} {M : Mm} (hM : Sh M) : s_law_1145 L xs k18 1 184 (nI (5 * k)) M = k18 1 184 (nI (5 * (k + 1))) M := by
  have e : Nat.beq (mN M) 224 = true := by rw [hM.1]; rfl
  unfold s_law_1145 at224
  rw [if_pos e, show (5 : Int32) = nI 5 from rfl, nI_add, show 5 * (k + 1) = 5 * k + 5 by omega]
theorem zw_go {L k : Nat} (hL : L ≤ 2560) (hk : 5 * k + 5 ≤ L) : ¬ (Int32.ofNat L - (5 : Int32)) < nI (5 * k) := by
  rw [show (Int32.ofNat L : Int32) - 5 = nI (L - 5) from pk_sub (a := L) (b := 5) (by omega)]
  exact nI_nlt (by omega) (by omega)
theorem zw_stop {k : Nat} (hL : L ≤ 2560) (hk : ¬ 5 * k + 5 ≤ L) (hk2 : k ≤ 600) {M : Mm} (hM : Sh M) (n : Nat) : s_law_18 L xs (n + 1) 1 184 (nI (5 * k)) M = some (1, M) := by
  have e : Nat.beq (mN M) 224 = true := by rw [hM.1]; rfl
  have l0 : (Int32.ofNat L - (5 : Int32)) < nI (5 * k) := by
    have s := sub_toInt (a := L) (b := 5) (by omega) (by omega)
    rw [Int32.lt_iff_toInt_lt]
    have s' : ((Int32.ofNat L : Int32) - (5 : Int32)).toInt = (L : Int) - (5 : Nat) := s
    rw [s', nI_toInt (by omega)]
    omega
  simp only [s_law_18, at224, e, if_true, sL, l0]
theorem zw_0 (n : Nat) {c k : Nat} (hc : c < 600) (hL : L ≤ 2560) (hk : 5 * k + 5 ≤ L) {M : Mm} (hi : Inv c M) (hv : xs (5 * k) &&& (31 : Int32) = nI 0) : ∃ M2, s_law_18 L xs (n + 1) 1 184 (nI (5 * k)) M = s_law_18 L xs n 1 184 (nI (5 * (k + 1))) M2 ∧ Inv (c + 1) M2 := by
  have hM := hi.1
  have e : Nat.beq (mN M) 224 = true := by rw [hM.1]; rfl
  have l0 := zw_go hL hk
  have hv' : xs (5 * k) &&& (31 : Int32) = 0 := hv
  have i0 : inb (nI (5 * k)) L = true := inb_nI (by omega) (by omega)
  have c0 := nI_clamp (show 5 * k < 2 ^ 31 by omega)
  have p1 := zw_i (j := 1) hL hk (by omega)
  have i1 : inb (nI (5 * k) + (1 : Int32)) L = true := p1.1
  have c1 : (nI (5 * k) + (1 : Int32)).toNatClampNeg = 5 * k + 1 := p1.2
  have p2 := zw_i (j := 2) hL hk (by omega)
  have i2 : inb (nI (5 * k) + (2 : Int32)) L = true := p2.1
  have c2 : (nI (5 * k) + (2 : Int32)).toNatClampNeg = 5 * k + 2 := p2.2
  have p3 := zw_i (j := 3) hL hk (by omega)
  have i3 : inb (nI (5 * k) + (3 : Int32)) L = true := p3.1
  have c3 : (nI (5 * k) + (3 : Int32)).toNatClampNeg = 5 * k + 3 := p3.2
  obtain ⟨r, M1, M2, f1, hM1, f2, f3⟩ := (sim_wire c (xs (5 * k + 1)) (xs (5 * k + 2)) (xs (5 * k + 3))).step2 hi
  refine ⟨M2, ?_, f3⟩
  rw [← zw_next (L := L) (xs := xs) (s_law_18 L xs n) f3.1]
  simp only [s_law_18, at224, e, if_true, sL, sX, l0, if_false, i0, c0, hv', cl, has_sh hM, has_sh hM1, hs_1, hs_184, i1, c1, i2, c2, i3, c3, f1, f2, Option.bind_some, eq_self]
theorem zw_1 (n : Nat) {c k : Nat} (hc : c < 600) (hL : L ≤ 2560) (hk : 5 * k + 5 ≤ L) {M : Mm} (hi : Inv c M) (hv : xs (5 * k) &&& (31 : Int32) = nI 1) : ∃ M2, s_law_18 L xs (n + 1) 1 184 (nI (5 * k)) M = s_law_18 L xs n 1 184 (nI (5 * (k + 1))) M2 ∧ Inv (c + 1) M2 := by
  have hM := hi.1
  have e : Nat.beq (mN M) 224 = true := by rw [hM.1]; rfl
  have l0 := zw_go hL hk
  have hv' : xs (5 * k) &&& (31 : Int32) = 1 := hv
  have i0 : inb (nI (5 * k)) L = true := inb_nI (by omega) (by omega)
  have c0 := nI_clamp (show 5 * k < 2 ^ 31 by omega)
  have p1 := zw_i (j := 1) hL hk (by omega)
  have i1 : inb (nI (5 * k) + (1 : Int32)) L = true := p1.1
  have c1 : (nI (5 * k) + (1 : Int32)).toNatClampNeg = 5 * k + 1 := p1.2
  have p2 := zw_i (j := 2) hL hk (by omega)
  have i2 : inb (nI (5 * k) + (2 : Int32)) L = true := p2.1
  have c2 : (nI (5 * k) + (2 : Int32)).toNatClampNeg = 5 * k + 2 := p2.2
  have p3 := zw_i (j := 3) hL hk (by omega)
  have i3 : inb (nI (5 * k) + (3 : Int32)) L = true := p3.1
  have c3 : (nI (5 * k) + (3 : Int32)).toNatClampNeg = 5 * k + 3 := p3.2
  have p4 := zw_i (j := 4) hL hk (by omega)
  have i4 : inb (nI (5 * k) + (4 : Int32)) L = true := p4.1
  have c4 : (nI (5 * k) + (4 : Int32)).toNatClampNeg = 5 * k + 4 := p4.2
  obtain ⟨r, M1, M2, f1, hM1, f2, f3⟩ := (sim_piece c (xs (5 * k + 1)) (xs (5 * k + 2)) (xs (5 * k + 3)) (xs (5 * k + 4))).step2 hi
  refine ⟨M2, ?_, f3⟩
  rw [← zw_next (L := L) (xs := xs) (s_law_18 L xs n) f3.1]
  simp only [s_law_18, at224, e, if_true, sL, sX, l0, if_false, i0, c0, hv', show ¬ (1 : Int32) = 0 from by decide, cl, has_sh hM, has_sh hM1, hs_1, hs_184, i1, c1, i2, c2, i3, c3, i4, c4, f1, f2, Option.bind_some, eq_self]
theorem zw_2 (n : Nat) {c k : Nat} (hc : c < 600) (hL : L ≤ 2560) (hk : 5 * k + 5 ≤ L) {M : Mm} (hi : Inv c M) (hv : xs (5 * k) &&& (31 : Int32) = nI 2) : ∃ M2, s_law_18 L xs (n + 1) 1 184 (nI (5 * k)) M = s_law_18 L xs n 1 184 (nI (5 * (k + 1))) M2 ∧ Inv (c + 1) M2 := by
  have hM := hi.1
  have e : Nat.beq (mN M) 224 = true := by rw [hM.1]; rfl
  have l0 := zw_go hL hk
  have hv' : xs (5 * k) &&& (31 : Int32) = 2 := hv
  have i0 : inb (nI (5 * k)) L = true := inb_nI (by omega) (by omega)
  have c0 := nI_clamp (show 5 * k < 2 ^ 31 by omega)
  have p1 := zw_i (j := 1) hL hk (by omega)
  have i1 : inb (nI (5 * k) + (1 : Int32)) L = true := p1.1
  have c1 : (nI (5 * k) + (1 : Int32)).toNatClampNeg = 5 * k + 1 := p1.2
  have p2 := zw_i (j := 2) hL hk (by omega)
  have i2 : inb (nI (5 * k) + (2 : Int32)) L = true := p2.1
  have c2 : (nI (5 * k) + (2 : Int32)).toNatClampNeg = 5 * k + 2 := p2.2
  obtain ⟨r, M1, M2, f1, hM1, f2, f3⟩ := (sim_look c (xs (5 * k + 1)) (xs (5 * k + 2))).step2 hi
  refine ⟨M2, ?_, f3⟩
  rw [← zw_next (L := L) (xs := xs) (s_law_18 L xs n) f3.1]
  simp only [s_law_18, at224, e, if_true, sL, sX, l0, if_false, i0, c0, hv', show ¬ (2 : Int32) = 0 from by decide, show ¬ (2 : Int32) = 1 from by decide, cl, has_sh hM, has_sh hM1, hs_1, hs_184, i1, c1, i2, c2, f1, f2, Option.bind_some, eq_self]
theorem zw_3 (n : Nat) {c k : Nat} (hc : c < 600) (hL : L ≤ 2560) (hk : 5 * k + 5 ≤ L) {M : Mm} (hi : Inv c M) (hv : xs (5 * k) &&& (31 : Int32) = nI 3) : ∃ M2, s_law_18 L xs (n + 1) 1 184 (nI (5 * k)) M = s_law_18 L xs n 1 184 (nI (5 * (k + 1))) M2 ∧ Inv (c + 1) M2 := by
  have hM := hi.1
  have e : Nat.beq (mN M) 224 = true := by rw [hM.1]; rfl
  have l0 := zw_go hL hk
  have hv' : xs (5 * k) &&& (31 : Int32) = 3 := hv
  have i0 : inb (nI (5 * k)) L = true := inb_nI (by omega) (by omega)
  have c0 := nI_clamp (show 5 * k < 2 ^ 31 by omega)
  have p1 := zw_i (j := 1) hL hk (by omega)
  have i1 : inb (nI (5 * k) + (1 : Int32)) L = true := p1.1
  have c1 : (nI (5 * k) + (1 : Int32)).toNatClampNeg = 5 * k + 1 := p1.2
  have p2 := zw_i (j := 2) hL hk (by omega)
  have i2 : inb (nI (5 * k) + (2 : Int32)) L = true := p2.1
  have c2 : (nI (5 * k) + (2 : Int32)).toNatClampNeg = 5 * k + 2 := p2.2
  obtain ⟨r, M1, M2, f1, hM1, f2, f3⟩ := (sim_word c (xs (5 * k + 1)) (xs (5 * k + 2))).step2 hi
  refine ⟨M2, ?_, f3⟩
  rw [← zw_next (L := L) (xs := xs) (s_law_18 L xs n) f3.1]
  simp only [s_law_18, at224, e, if_true, sL, sX, l0, if_false, i0, c0, hv', show ¬ (3 : Int32) = 0 from by decide, show ¬ (3 : Int32) = 1 from by decide, show ¬ (3 : Int32) = 2 from by decide, cl, has_sh hM, has_sh hM1, hs_1, hs_184, i1, c1, i2, c2, f1, f2, Option.bind_some, eq_self]
theorem zw_4 (n : Nat) {c k : Nat} (hc : c < 600) (hL : L ≤ 2560) (hk : 5 * k + 5 ≤ L) {M : Mm} (hi : Inv c M) (hv : xs (5 * k) &&& (31 : Int32) = nI 4) : ∃ M2, s_law_18 L xs (n + 1) 1 184 (nI (5 * k)) M = s_law_18 L xs n 1 184 (nI (5 * (k + 1))) M2 ∧ Inv (c + 1) M2 := by
  have hM := hi.1
  have e : Nat.beq (mN M) 224 = true := by rw [hM.1]; rfl
  have l0 := zw_go hL hk
  have hv' : xs (5 * k) &&& (31 : Int32) = 4 := hv
  have i0 : inb (nI (5 * k)) L = true := inb_nI (by omega) (by omega)
  have c0 := nI_clamp (show 5 * k < 2 ^ 31 by omega)
  have p1 := zw_i (j := 1) hL hk (by omega)
  have i1 : inb (nI (5 * k) + (1 : Int32)) L = true := p1.1
  have c1 : (nI (5 * k) + (1 : Int32)).toNatClampNeg = 5 * k + 1 := p1.2
  have p2 := zw_i (j := 2) hL hk (by omega)
  have i2 : inb (nI (5 * k) + (2 : Int32)) L = true := p2.1
  have c2 : (nI (5 * k) + (2 : Int32)).toNatClampNeg = 5 * k + 2 := p2.2
  obtain ⟨r, M1, M2, f1, hM1, f2, f3⟩ := (sim_feed c (xs (5 * k + 1)) (xs (5 * k + 2))).step2 hi
  refine ⟨M2, ?_, f3⟩
  rw [← zw_next (L := L) (xs := xs) (s_law_18 L xs n) f3.1]
  simp only [s_law_18, at224, e, if_true, sL, sX, l0, if_false, i0, c0, hv', show ¬ (4 : Int32) = 0 from by decide, show ¬ (4 : Int32) = 1 from by decide, show ¬ (4 : Int32) = 2 from by decide, show ¬ (4 : Int32) = 3 from by decide, cl, has_sh hM, has_sh hM1, hs_1, hs_184, i1, c1, i2, c2, f1, f2, Option.bind_some, eq_self]
theorem zw_5 (n : Nat) {c k : Nat} (hc : c < 600) (hL : L ≤ 2560) (hk : 5 * k + 5 ≤ L) {M : Mm} (hi : Inv c M) (hv : xs (5 * k) &&& (31 : Int32) = nI 5) : ∃ M2, s_law_18 L xs (n + 1) 1 184 (nI (5 * k)) M = s_law_18 L xs n 1 184 (nI (5 * (k + 1))) M2 ∧ Inv (c + 1) M2 := by
  have hM := hi.1
  have e : Nat.beq (mN M) 224 = true := by rw [hM.1]; rfl
  have l0 := zw_go hL hk
  have hv' : xs (5 * k) &&& (31 : Int32) = 5 := hv
  have i0 : inb (nI (5 * k)) L = true := inb_nI (by omega) (by omega)
  have c0 := nI_clamp (show 5 * k < 2 ^ 31 by omega)
  obtain ⟨r, M1, M2, f1, hM1, f2, f3⟩ := (sim_wipe c).step2 hi
  refine ⟨M2, ?_, f3⟩
  rw [← zw_next (L := L) (xs := xs) (s_law_18 L xs n) f3.1]
  simp only [s_law_18, at224, e, if_true, sL, sX, l0, if_false, i0, c0, hv', show ¬ (5 : Int32) = 0 from by decide, show ¬ (5 : Int32) = 1 from by decide, show ¬ (5 : Int32) = 2 from by decide, show ¬ (5 : Int32) = 3 from by decide, show ¬ (5 : Int32) = 4 from by decide, cl, has_sh hM, has_sh hM1, hs_1, hs_184, f1, f2, Option.bind_some, eq_self]
theorem zw_6 (n : Nat) {c k : Nat} (hc : c < 600) (hL : L ≤ 2560) (hk : 5 * k + 5 ≤ L) {M : Mm} (hi : Inv c M) (hv : xs (5 * k) &&& (31 : Int32) = nI 6) : ∃ M2, s_law_18 L xs (n + 1) 1 184 (nI (5 * k)) M = s_law_18 L xs n 1 184 (nI (5 * (k + 1))) M2 ∧ Inv (c + 1) M2 := by
  have hM := hi.1
  have e : Nat.beq (mN M) 224 = true := by rw [hM.1]; rfl
  have l0 := zw_go hL hk
  have hv' : xs (5 * k) &&& (31 : Int32) = 6 := hv
  have i0 : inb (nI (5 * k)) L = true := inb_nI (by omega) (by omega)
  have c0 := nI_clamp (show 5 * k < 2 ^ 31 by omega)
  have p1 := zw_i (j := 1) hL hk (by omega)
  have i1 : inb (nI (5 * k) + (1 : Int32)) L = true := p1.1
  have c1 : (nI (5 * k) + (1 : Int32)).toNatClampNeg = 5 * k + 1 := p1.2
  have p2 := zw_i (j := 2) hL hk (by omega)
  have i2 : inb (nI (5 * k) + (2 : Int32)) L = true := p2.1
  have c2 : (nI (5 * k) + (2 : Int32)).toNatClampNeg = 5 * k + 2 := p2.2
  obtain ⟨r, M1, M2, f1, hM1, f2, f3⟩ := (sim_rule c (xs (5 * k + 1)) (xs (5 * k + 2))).step2 hi
  refine ⟨M2, ?_, f3⟩
  rw [← zw_next (L := L) (xs := xs) (s_law_18 L xs n) f3.1]
  simp only [s_law_18, at224, e, if_true, sL, sX, l0, if_false, i0, c0, hv', show ¬ (6 : Int32) = 0 from by decide, show ¬ (6 : Int32) = 1 from by decide, show ¬ (6 : Int32) = 2 from by decide, show ¬ (6 : Int32) = 3 from by decide, show ¬ (6 : Int32) = 4 from by decide, show ¬ (6 : Int32) = 5 from by decide, cl, has_sh hM, has_sh hM1, hs_1, hs_184, i1, c1, i2, c2, f1, f2, Option.bind_some, eq_self]
theorem zw_7 (n : Nat) {c k : Nat} (hc : c < 600) (hL : L ≤ 2560) (hk : 5 * k + 5 ≤ L) {M : Mm} (hi : Inv c M) (hv : xs (5 * k) &&& (31 : Int32) = nI 7) : ∃ M2, s_law_18 L xs (n + 1) 1 184 (nI (5 * k)) M = s_law_18 L xs n 1 184 (nI (5 * (k + 1))) M2 ∧ Inv (c + 1) M2 := by
  have hM := hi.1
  have e : Nat.beq (mN M) 224 = true := by rw [hM.1]; rfl
  have l0 := zw_go hL hk
  have hv' : xs (5 * k) &&& (31 : Int32) = 7 := hv
  have i0 : inb (nI (5 * k)) L = true := inb_nI (by omega) (by omega)
  have c0 := nI_clamp (show 5 * k < 2 ^ 31 by omega)
  have p1 := zw_i (j := 1) hL hk (by omega)
  have i1 : inb (nI (5 * k) + (1 : Int32)) L = true := p1.1
  have c1 : (nI (5 * k) + (1 : Int32)).toNatClampNeg = 5 * k + 1 := p1.2
  have p2 := zw_i (j := 2) hL hk (by omega)
  have i2 : inb (nI (5 * k) + (2 : Int32)) L = true := p2.1
  have c2 : (nI (5 * k) + (2 : Int32)).toNatClampNeg = 5 * k + 2 := p2.2
  have p3 := zw_i (j := 3) hL hk (by omega)
  have i3 : inb (nI (5 * k) + (3 : Int32)) L = true := p3.1
  have c3 : (nI (5 * k) + (3 : Int32)).toNatClampNeg = 5 * k + 3 := p3.2
  obtain ⟨r, M1, M2, f1, hM1, f2, f3⟩ := (sim_holds c (xs (5 * k + 1)) (xs (5 * k + 2)) (xs (5 * k + 3))).step2 hi
  refine ⟨M2, ?_, f3⟩
  rw [← zw_next (L := L) (xs := xs) (s_law_18 L xs n) f3.1]
  simp only [s_law_18, at224, e, if_true, sL, sX, l0, if_false, i0, c0, hv', show ¬ (7 : Int32) = 0 from by decide, show ¬ (7 : Int32) = 1 from by decide, show ¬ (7 : Int32) = 2 from by decide, show ¬ (7 : Int32) = 3 from by decide, show ¬ (7 : Int32) = 4 from by decide, show ¬ (7 : Int32) = 5 from by decide, show ¬ (7 : Int32) = 6 from by decide, cl, has_sh hM, has_sh hM1, hs_1, hs_184, i1, c1, i2, c2, i3, c3, f1, f2, Option.bind_some, eq_self]
theorem zw_8 (n : Nat) {c k : Nat} (hc : c < 600) (hL : L ≤ 2560) (hk : 5 * k + 5 ≤ L) {M : Mm} (hi : Inv c M) (hv : xs (5 * k) &&& (31 : Int32) = nI 8) : ∃ M2, s_law_18 L xs (n + 1) 1 184 (nI (5 * k)) M = s_law_18 L xs n 1 184 (nI (5 * (k + 1))) M2 ∧ Inv (c + 1) M2 := by
  have hM := hi.1
  have e : Nat.beq (mN M) 224 = true := by rw [hM.1]; rfl
  have l0 := zw_go hL hk
  have hv' : xs (5 * k) &&& (31 : Int32) = 8 := hv
  have i0 : inb (nI (5 * k)) L = true := inb_nI (by omega) (by omega)
  have c0 := nI_clamp (show 5 * k < 2 ^ 31 by omega)
  have p1 := zw_i (j := 1) hL hk (by omega)
  have i1 : inb (nI (5 * k) + (1 : Int32)) L = true := p1.1
  have c1 : (nI (5 * k) + (1 : Int32)).toNatClampNeg = 5 * k + 1 := p1.2
  obtain ⟨r, M1, M2, f1, hM1, f2, f3⟩ := (sim_rank c (xs (5 * k + 1))).step2 hi
  refine ⟨M2, ?_, f3⟩
  rw [← zw_next (L := L) (xs := xs) (s_law_18 L xs n) f3.1]
  simp only [s_law_18, at224, e, if_true, sL, sX, l0, if_false, i0, c0, hv', show ¬ (8 : Int32) = 0 from by decide, show ¬ (8 : Int32) = 1 from by decide, show ¬ (8 : Int32) = 2 from by decide, show ¬ (8 : Int32) = 3 from by decide, show ¬ (8 : Int32) = 4 from by decide, show ¬ (8 : Int32) = 5 from by decide, show ¬ (8 : Int32) = 6 from by decide, show ¬ (8 : Int32) = 7 from by decide, cl, has_sh hM, has_sh hM1, hs_1, hs_184, i1, c1, f1, f2, Option.bind_some, eq_self]
theorem zw_9 (n : Nat) {c k : Nat} (hc : c < 600) (hL : L ≤ 2560) (hk : 5 * k + 5 ≤ L) {M : Mm} (hi : Inv c M) (hv : xs (5 * k) &&& (31 : Int32) = nI 9) : ∃ M2, s_law_18 L xs (n + 1) 1 184 (nI (5 * k)) M = s_law_18 L xs n 1 184 (nI (5 * (k + 1))) M2 ∧ Inv (c + 1) M2 := by
  have hM := hi.1
  have e : Nat.beq (mN M) 224 = true := by rw [hM.1]; rfl
  have l0 := zw_go hL hk
  have hv' : xs (5 * k) &&& (31 : Int32) = 9 := hv
  have i0 : inb (nI (5 * k)) L = true := inb_nI (by omega) (by omega)
  have c0 := nI_clamp (show 5 * k < 2 ^ 31 by omega)
  have p1 := zw_i (j := 1) hL hk (by omega)
  have i1 : inb (nI (5 * k) + (1 : Int32)) L = true := p1.1
  have c1 : (nI (5 * k) + (1 : Int32)).toNatClampNeg = 5 * k + 1 := p1.2
  have p2 := zw_i (j := 2) hL hk (by omega)
  have i2 : inb (nI (5 * k) + (2 : Int32)) L = true := p2.1
  have c2 : (nI (5 * k) + (2 : Int32)).toNatClampNeg = 5 * k + 2 := p2.2
  obtain ⟨r, M1, M2, f1, hM1, f2, f3⟩ := (sim_barred c (xs (5 * k + 1)) (xs (5 * k + 2))).step2 hi
  refine ⟨M2, ?_, f3⟩
  rw [← zw_next (L := L) (xs := xs) (s_law_18 L xs n) f3.1]
  simp only [s_law_18, at224, e, if_true, sL, sX, l0, if_false, i0, c0, hv', show ¬ (9 : Int32) = 0 from by decide, show ¬ (9 : Int32) = 1 from by decide, show ¬ (9 : Int32) = 2 from by decide, show ¬ (9 : Int32) = 3 from by decide, show ¬ (9 : Int32) = 4 from by decide, show ¬ (9 : Int32) = 5 from by decide, show ¬ (9 : Int32) = 6 from by decide, show ¬ (9 : Int32) = 7 from by decide, show ¬ (9 : Int32) = 8 from by decide, cl, has_sh hM, has_sh hM1, hs_1, hs_184, i1, c1, i2, c2, f1, f2, Option.bind_some, eq_self]
theorem zw_10 (n : Nat) {c k : Nat} (hc : c < 600) (hL : L ≤ 2560) (hk : 5 * k + 5 ≤ L) {M : Mm} (hi : Inv c M) (hv : xs (5 * k) &&& (31 : Int32) = nI 10) : ∃ M2, s_law_18 L xs (n + 1) 1 184 (nI (5 * k)) M = s_law_18 L xs n 1 184 (nI (5 * (k + 1))) M2 ∧ Inv (c + 1) M2 := by
  have hM := hi.1
  have e : Nat.beq (mN M) 224 = true := by rw [hM.1]; rfl
  have l0 := zw_go hL hk
  have hv' : xs (5 * k) &&& (31 : Int32) = 10 := hv
  have i0 : inb (nI (5 * k)) L = true := inb_nI (by omega) (by omega)
  have c0 := nI_clamp (show 5 * k < 2 ^ 31 by omega)
  have p1 := zw_i (j := 1) hL hk (by omega)
  have i1 : inb (nI (5 * k) + (1 : Int32)) L = true := p1.1
  have c1 : (nI (5 * k) + (1 : Int32)).toNatClampNeg = 5 * k + 1 := p1.2
  have p2 := zw_i (j := 2) hL hk (by omega)
  have i2 : inb (nI (5 * k) + (2 : Int32)) L = true := p2.1
  have c2 : (nI (5 * k) + (2 : Int32)).toNatClampNeg = 5 * k + 2 := p2.2
  obtain ⟨r, M1, M2, f1, hM1, f2, f3⟩ := (sim_file c (xs (5 * k + 1)) (xs (5 * k + 2))).step2 hi
  refine ⟨M2, ?_, f3⟩
  rw [← zw_next (L := L) (xs := xs) (s_law_18 L xs n) f3.1]
  simp only [s_law_18, at224, e, if_true, sL, sX, l0, if_false, i0, c0, hv', show ¬ (10 : Int32) = 0 from by decide, show ¬ (10 : Int32) = 1 from by decide, show ¬ (10 : Int32) = 2 from by decide, show ¬ (10 : Int32) = 3 from by decide, show ¬ (10 : Int32) = 4 from by decide, show ¬ (10 : Int32) = 5 from by decide, show ¬ (10 : Int32) = 6 from by decide, show ¬ (10 : Int32) = 7 from by decide, show ¬ (10 : Int32) = 8 from by decide, show ¬ (10 : Int32) = 9 from by decide, cl, has_sh hM, has_sh hM1, hs_1, hs_184, i1, c1, i2, c2, f1, f2, Option.bind_some, eq_self]
theorem zw_11 (n : Nat) {c k : Nat} (hc : c < 600) (hL : L ≤ 2560) (hk : 5 * k + 5 ≤ L) {M : Mm} (hi : Inv c M) (hv : xs (5 * k) &&& (31 : Int32) = nI 11) : ∃ M2, s_law_18 L xs (n + 1) 1 184 (nI (5 * k)) M = s_law_18 L xs n 1 184 (nI (5 * (k + 1))) M2 ∧ Inv (c + 1) M2 := by
  have hM := hi.1
  have e : Nat.beq (mN M) 224 = true := by rw [hM.1]; rfl
  have l0 := zw_go hL hk
  have hv' : xs (5 * k) &&& (31 : Int32) = 11 := hv
  have i0 : inb (nI (5 * k)) L = true := inb_nI (by omega) (by omega)
  have c0 := nI_clamp (show 5 * k < 2 ^ 31 by omega)
  have p1 := zw_i (j := 1) hL hk (by omega)
  have i1 : inb (nI (5 * k) + (1 : Int32)) L = true := p1.1
  have c1 : (nI (5 * k) + (1 : Int32)).toNatClampNeg = 5 * k + 1 := p1.2
  have p2 := zw_i (j := 2) hL hk (by omega)
  have i2 : inb (nI (5 * k) + (2 : Int32)) L = true := p2.1
  have c2 : (nI (5 * k) + (2 : Int32)).toNatClampNeg = 5 * k + 2 := p2.2
  obtain ⟨r, M1, M2, f1, hM1, f2, f3⟩ := (sim_garble c (xs (5 * k + 1)) (xs (5 * k + 2))).step2 hi
  refine ⟨M2, ?_, f3⟩
  rw [← zw_next (L := L) (xs := xs) (s_law_18 L xs n) f3.1]
  simp only [s_law_18, at224, e, if_true, sL, sX, l0, if_false, i0, c0, hv', show ¬ (11 : Int32) = 0 from by decide, show ¬ (11 : Int32) = 1 from by decide, show ¬ (11 : Int32) = 2 from by decide, show ¬ (11 : Int32) = 3 from by decide, show ¬ (11 : Int32) = 4 from by decide, show ¬ (11 : Int32) = 5 from by decide, show ¬ (11 : Int32) = 6 from by decide, show ¬ (11 : Int32) = 7 from by decide, show ¬ (11 : Int32) = 8 from by decide, show ¬ (11 : Int32) = 9 from by decide, show ¬ (11 : Int32) = 10 from by decide, cl, has_sh hM, has_sh hM1, hs_1, hs_184, i1, c1, i2, c2, f1, f2, Option.bind_some, eq_self]
theorem zw_12 (n : Nat) {c k : Nat} (hc : c < 600) (hL : L ≤ 2560) (hk : 5 * k + 5 ≤ L) {M : Mm} (hi : Inv c M) (hv : xs (5 * k) &&& (31 : Int32) = nI 12) : ∃ M2, s_law_18 L xs (n + 1) 1 184 (nI (5 * k)) M = s_law_18 L xs n 1 184 (nI (5 * (k + 1))) M2 ∧ Inv (c + 1) M2 := by
  have hM := hi.1
  have e : Nat.beq (mN M) 224 = true := by rw [hM.1]; rfl
  have l0 := zw_go hL hk
  have hv' : xs (5 * k) &&& (31 : Int32) = 12 := hv
  have i0 : inb (nI (5 * k)) L = true := inb_nI (by omega) (by omega)
  have c0 := nI_clamp (show 5 * k < 2 ^ 31 by omega)
  have p1 := zw_i (j := 1) hL hk (by omega)
  have i1 : inb (nI (5 * k) + (1 : Int32)) L = true := p1.1
  have c1 : (nI (5 * k) + (1 : Int32)).toNatClampNeg = 5 * k + 1 := p1.2
  obtain ⟨r, M1, M2, f1, hM1, f2, f3⟩ := (sim_run c hc (xs (5 * k + 1))).step2 hi
  refine ⟨M2, ?_, f3⟩
  rw [← zw_next (L := L) (xs := xs) (s_law_18 L xs n) f3.1]
  simp only [s_law_18, at224, e, if_true, sL, sX, l0, if_false, i0, c0, hv', show ¬ (12 : Int32) = 0 from by decide, show ¬ (12 : Int32) = 1 from by decide, show ¬ (12 : Int32) = 2 from by decide, show ¬ (12 : Int32) = 3 from by decide, show ¬ (12 : Int32) = 4 from by decide, show ¬ (12 : Int32) = 5 from by decide, show ¬ (12 : Int32) = 6 from by decide, show ¬ (12 : Int32) = 7 from by decide, show ¬ (12 : Int32) = 8 from by decide, show ¬ (12 : Int32) = 9 from by decide, show ¬ (12 : Int32) = 10 from by decide, show ¬ (12 : Int32) = 11 from by decide, cl, has_sh hM, has_sh hM1, hs_1, hs_184, i1, c1, f1, f2, Option.bind_some, eq_self]
theorem zw_13 (n : Nat) {c k : Nat} (hc : c < 600) (hL : L ≤ 2560) (hk : 5 * k + 5 ≤ L) {M : Mm} (hi : Inv c M) (hv : xs (5 * k) &&& (31 : Int32) = nI 13) : ∃ M2, s_law_18 L xs (n + 1) 1 184 (nI (5 * k)) M = s_law_18 L xs n 1 184 (nI (5 * (k + 1))) M2 ∧ Inv (c + 1) M2 := by
  have hM := hi.1
  have e : Nat.beq (mN M) 224 = true := by rw [hM.1]; rfl
  have l0 := zw_go hL hk
  have hv' : xs (5 * k) &&& (31 : Int32) = 13 := hv
  have i0 : inb (nI (5 * k)) L = true := inb_nI (by omega) (by omega)
  have c0 := nI_clamp (show 5 * k < 2 ^ 31 by omega)
  have p1 := zw_i (j := 1) hL hk (by omega)
  have i1 : inb (nI (5 * k) + (1 : Int32)) L = true := p1.1
  have c1 : (nI (5 * k) + (1 : Int32)).toNatClampNeg = 5 * k + 1 := p1.2
  have p2 := zw_i (j := 2) hL hk (by omega)
  have i2 : inb (nI (5 * k) + (2 : Int32)) L = true := p2.1
  have c2 : (nI (5 * k) + (2 : Int32)).toNatClampNeg = 5 * k + 2 := p2.2
  have p3 := zw_i (j := 3) hL hk (by omega)
  have i3 : inb (nI (5 * k) + (3 : Int32)) L = true := p3.1
  have c3 : (nI (5 * k) + (3 : Int32)).toNatClampNeg = 5 * k + 3 := p3.2
  obtain ⟨r, M1, M2, f1, hM1, f2, f3⟩ := (sim_sent c (xs (5 * k + 1)) (xs (5 * k + 2)) (xs (5 * k + 3))).step2 hi
  refine ⟨M2, ?_, f3⟩
  rw [← zw_next (L := L) (xs := xs) (s_law_18 L xs n) f3.1]
  simp only [s_law_18, at224, e, if_true, sL, sX, l0, if_false, i0, c0, hv', show ¬ (13 : Int32) = 0 from by decide, show ¬ (13 : Int32) = 1 from by decide, show ¬ (13 : Int32) = 2 from by decide, show ¬ (13 : Int32) = 3 from by decide, show ¬ (13 : Int32) = 4 from by decide, show ¬ (13 : Int32) = 5 from by decide, show ¬ (13 : Int32) = 6 from by decide, show ¬ (13 : Int32) = 7 from by decide, show ¬ (13 : Int32) = 8 from by decide, show ¬ (13 : Int32) = 9 from by decide, show ¬ (13 : Int32) = 10 from by decide, show ¬ (13 : Int32) = 11 from by decide, show ¬ (13 : Int32) = 12 from by decide, cl, has_sh hM, has_sh hM1, hs_1, hs_184, i1, c1, i2, c2, i3, c3, f1, f2, Option.bind_some, eq_self]
theorem zw_14 (n : Nat) {c k : Nat} (hc : c < 600) (hL : L ≤ 2560) (hk : 5 * k + 5 ≤ L) {M : Mm} (hi : Inv c M) (hv : xs (5 * k) &&& (31 : Int32) = nI 14) : ∃ M2, s_law_18 L xs (n + 1) 1 184 (nI (5 * k)) M = s_law_18 L xs n 1 184 (nI (5 * (k + 1))) M2 ∧ Inv (c + 1) M2 := by
  have hM := hi.1
  have e : Nat.beq (mN M) 224 = true := by rw [hM.1]; rfl
  have l0 := zw_go hL hk
  have hv' : xs (5 * k) &&& (31 : Int32) = 14 := hv
  have i0 : inb (nI (5 * k)) L = true := inb_nI (by omega) (by omega)
  have c0 := nI_clamp (show 5 * k < 2 ^ 31 by omega)
  have p1 := zw_i (j := 1) hL hk (by omega)
  have i1 : inb (nI (5 * k) + (1 : Int32)) L = true := p1.1
  have c1 : (nI (5 * k) + (1 : Int32)).toNatClampNeg = 5 * k + 1 := p1.2
  have p2 := zw_i (j := 2) hL hk (by omega)
  have i2 : inb (nI (5 * k) + (2 : Int32)) L = true := p2.1
  have c2 : (nI (5 * k) + (2 : Int32)).toNatClampNeg = 5 * k + 2 := p2.2
  obtain ⟨r, M1, M2, f1, hM1, f2, f3⟩ := (sim_since c (xs (5 * k + 1)) (xs (5 * k + 2))).step2 hi
  refine ⟨M2, ?_, f3⟩
  rw [← zw_next (L := L) (xs := xs) (s_law_18 L xs n) f3.1]
  simp only [s_law_18, at224, e, if_true, sL, sX, l0, if_false, i0, c0, hv', show ¬ (14 : Int32) = 0 from by decide, show ¬ (14 : Int32) = 1 from by decide, show ¬ (14 : Int32) = 2 from by decide, show ¬ (14 : Int32) = 3 from by decide, show ¬ (14 : Int32) = 4 from by decide, show ¬ (14 : Int32) = 5 from by decide, show ¬ (14 : Int32) = 6 from by decide, show ¬ (14 : Int32) = 7 from by decide, show ¬ (14 : Int32) = 8 from by decide, show ¬ (14 : Int32) = 9 from by decide, show ¬ (14 : Int32) = 10 from by decide, show ¬ (14 : Int32) = 11 from by decide, show ¬ (14 : Int32) = 12 from by decide, show ¬ (14 : Int32) = 13 from by decide, cl, has_sh hM, has_sh hM1, hs_1, hs_184, i1, c1, i2, c2, f1, f2, Option.bind_some, eq_self]
theorem zw_15 (n : Nat) {c k : Nat} (hc : c < 600) (hL : L ≤ 2560) (hk : 5 * k + 5 ≤ L) {M : Mm} (hi : Inv c M) (hv : xs (5 * k) &&& (31 : Int32) = nI 15) : ∃ M2, s_law_18 L xs (n + 1) 1 184 (nI (5 * k)) M = s_law_18 L xs n 1 184 (nI (5 * (k + 1))) M2 ∧ Inv (c + 1) M2 := by
  have hM := hi.1
  have e : Nat.beq (mN M) 224 = true := by rw [hM.1]; rfl
  have l0 := zw_go hL hk
  have hv' : xs (5 * k) &&& (31 : Int32) = 15 := hv
  have i0 : inb (nI (5 * k)) L = true := inb_nI (by omega) (by omega)
  have c0 := nI_clamp (show 5 * k < 2 ^ 31 by omega)
  have p1 := zw_i (j := 1) hL hk (by omega)
  have i1 : inb (nI (5 * k) + (1 : Int32)) L = true := p1.1
  have c1 : (nI (5 * k) + (1 : Int32)).toNatClampNeg = 5 * k + 1 := p1.2
  obtain ⟨r, M1, M2, f1, hM1, f2, f3⟩ := (sim_cost c (xs (5 * k + 1))).step2 hi
  refine ⟨M2, ?_, f3⟩
  rw [← zw_next (L := L) (xs := xs) (s_law_18 L xs n) f3.1]
  simp only [s_law_18, at224, e, if_true, sL, sX, l0, if_false, i0, c0, hv', show ¬ (15 : Int32) = 0 from by decide, show ¬ (15 : Int32) = 1 from by decide, show ¬ (15 : Int32) = 2 from by decide, show ¬ (15 : Int32) = 3 from by decide, show ¬ (15 : Int32) = 4 from by decide, show ¬ (15 : Int32) = 5 from by decide, show ¬ (15 : Int32) = 6 from by decide, show ¬ (15 : Int32) = 7 from by decide, show ¬ (15 : Int32) = 8 from by decide, show ¬ (15 : Int32) = 9 from by decide, show ¬ (15 : Int32) = 10 from by decide, show ¬ (15 : Int32) = 11 from by decide, show ¬ (15 : Int32) = 12 from by decide, show ¬ (15 : Int32) = 13 from by decide, show ¬ (15 : Int32) = 14 from by decide, cl, has_sh hM, has_sh hM1, hs_1, hs_184, i1, c1, f1, f2, Option.bind_some, eq_self]
theorem zw_16 (n : Nat) {c k : Nat} (hc : c < 600) (hL : L ≤ 2560) (hk : 5 * k + 5 ≤ L) {M : Mm} (hi : Inv c M) (hv : xs (5 * k) &&& (31 : Int32) = nI 16) : ∃ M2, s_law_18 L xs (n + 1) 1 184 (nI (5 * k)) M = s_law_18 L xs n 1 184 (nI (5 * (k + 1))) M2 ∧ Inv (c + 1) M2 := by
  have hM := hi.1
  have e : Nat.beq (mN M) 224 = true := by rw [hM.1]; rfl
  have l0 := zw_go hL hk
  have hv' : xs (5 * k) &&& (31 : Int32) = 16 := hv
  have i0 : inb (nI (5 * k)) L = true := inb_nI (by omega) (by omega)
  have c0 := nI_clamp (show 5 * k < 2 ^ 31 by omega)
  have p1 := zw_i (j := 1) hL hk (by omega)
  have i1 : inb (nI (5 * k) + (1 : Int32)) L = true := p1.1
  have c1 : (nI (5 * k) + (1 : Int32)).toNatClampNeg = 5 * k + 1 := p1.2
  have p2 := zw_i (j := 2) hL hk (by omega)
  have i2 : inb (nI (5 * k) + (2 : Int32)) L = true := p2.1
  have c2 : (nI (5 * k) + (2 : Int32)).toNatClampNeg = 5 * k + 2 := p2.2
  obtain ⟨r, M1, M2, f1, hM1, f2, f3⟩ := (sim_first c (xs (5 * k + 1)) (xs (5 * k + 2))).step2 hi
  refine ⟨M2, ?_, f3⟩
  rw [← zw_next (L := L) (xs := xs) (s_law_18 L xs n) f3.1]
  simp only [s_law_18, at224, e, if_true, sL, sX, l0, if_false, i0, c0, hv', show ¬ (16 : Int32) = 0 from by decide, show ¬ (16 : Int32) = 1 from by decide, show ¬ (16 : Int32) = 2 from by decide, show ¬ (16 : Int32) = 3 from by decide, show ¬ (16 : Int32) = 4 from by decide, show ¬ (16 : Int32) = 5 from by decide, show ¬ (16 : Int32) = 6 from by decide, show ¬ (16 : Int32) = 7 from by decide, show ¬ (16 : Int32) = 8 from by decide, show ¬ (16 : Int32) = 9 from by decide, show ¬ (16 : Int32) = 10 from by decide, show ¬ (16 : Int32) = 11 from by decide, show ¬ (16 : Int32) = 12 from by decide, show ¬ (16 : Int32) = 13 from by decide, show ¬ (16 : Int32) = 14 from by decide, show ¬ (16 : Int32) = 15 from by decide, cl, has_sh hM, has_sh hM1, hs_1, hs_184, i1, c1, i2, c2, f1, f2, Option.bind_some, eq_self]
theorem zw_17 (n : Nat) {c k : Nat} (hc : c < 600) (hL : L ≤ 2560) (hk : 5 * k + 5 ≤ L) {M : Mm} (hi : Inv c M) (hv : xs (5 * k) &&& (31 : Int32) = nI 17) : ∃ M2, s_law_18 L xs (n + 1) 1 184 (nI (5 * k)) M = s_law_18 L xs n 1 184 (nI (5 * (k + 1))) M2 ∧ Inv (c + 1) M2 := by
  have hM := hi.1
  have e : Nat.beq (mN M) 224 = true := by rw [hM.1]; rfl
  have l0 := zw_go hL hk
  have hv' : xs (5 * k) &&& (31 : Int32) = 17 := hv
  have i0 : inb (nI (5 * k)) L = true := inb_nI (by omega) (by omega)
  have c0 := nI_clamp (show 5 * k < 2 ^ 31 by omega)
  have p1 := zw_i (j := 1) hL hk (by omega)
  have i1 : inb (nI (5 * k) + (1 : Int32)) L = true := p1.1
  have c1 : (nI (5 * k) + (1 : Int32)).toNatClampNeg = 5 * k + 1 := p1.2
  have p2 := zw_i (j := 2) hL hk (by omega)
  have i2 : inb (nI (5 * k) + (2 : Int32)) L = true := p2.1
  have c2 : (nI (5 * k) + (2 : Int32)).toNatClampNeg = 5 * k + 2 := p2.2
  have p3 := zw_i (j := 3) hL hk (by omega)
  have i3 : inb (nI (5 * k) + (3 : Int32)) L = true := p3.1
  have c3 : (nI (5 * k) + (3 : Int32)).toNatClampNeg = 5 * k + 3 := p3.2
  obtain ⟨r, M1, M2, f1, hM1, f2, f3⟩ := (sim_text c (xs (5 * k + 1)) (xs (5 * k + 2)) (xs (5 * k + 3))).step2 hi
  refine ⟨M2, ?_, f3⟩
  rw [← zw_next (L := L) (xs := xs) (s_law_18 L xs n) f3.1]
  simp only [s_law_18, at224, e, if_true, sL, sX, l0, if_false, i0, c0, hv', show ¬ (17 : Int32) = 0 from by decide, show ¬ (17 : Int32) = 1 from by decide, show ¬ (17 : Int32) = 2 from by decide, show ¬ (17 : Int32) = 3 from by decide, show ¬ (17 : Int32) = 4 from by decide, show ¬ (17 : Int32) = 5 from by decide, show ¬ (17 : Int32) = 6 from by decide, show ¬ (17 : Int32) = 7 from by decide, show ¬ (17 : Int32) = 8 from by decide, show ¬ (17 : Int32) = 9 from by decide, show ¬ (17 : Int32) = 10 from by decide, show ¬ (17 : Int32) = 11 from by decide, show ¬ (17 : Int32) = 12 from by decide, show ¬ (17 : Int32) = 13 from by decide, show ¬ (17 : Int32) = 14 from by decide, show ¬ (17 : Int32) = 15 from by decide, show ¬ (17 : Int32) = 16 from by decide, cl, has_sh hM, has_sh hM1, hs_1, hs_184, i1, c1, i2, c2, i3, c3, f1, f2, Option.bind_some, eq_self]
theorem zw_18 (n : Nat) {c k : Nat} (hc : c < 600) (hL : L ≤ 2560) (hk : 5 * k + 5 ≤ L) {M : Mm} (hi : Inv c M) (hv : xs (5 * k) &&& (31 : Int32) = nI 18) : ∃ M2, s_law_18 L xs (n + 1) 1 184 (nI (5 * k)) M = s_law_18 L xs n 1 184 (nI (5 * (k + 1))) M2 ∧ Inv (c + 1) M2 := by
  have hM := hi.1
  have e : Nat.beq (mN M) 224 = true := by rw [hM.1]; rfl
  have l0 := zw_go hL hk
  have hv' : xs (5 * k) &&& (31 : Int32) = 18 := hv
  have i0 : inb (nI (5 * k)) L = true := inb_nI (by omega) (by omega)
  have c0 := nI_clamp (show 5 * k < 2 ^ 31 by omega)
  have p1 := zw_i (j := 1) hL hk (by omega)
  have i1 : inb (nI (5 * k) + (1 : Int32)) L = true := p1.1
  have c1 : (nI (5 * k) + (1 : Int32)).toNatClampNeg = 5 * k + 1 := p1.2
  have p2 := zw_i (j := 2) hL hk (by omega)
  have i2 : inb (nI (5 * k) + (2 : Int32)) L = true := p2.1
  have c2 : (nI (5 * k) + (2 : Int32)).toNatClampNeg = 5 * k + 2 := p2.2
  have p3 := zw_i (j := 3) hL hk (by omega)
  have i3 : inb (nI (5 * k) + (3 : Int32)) L = true := p3.1
  have c3 : (nI (5 * k) + (3 : Int32)).toNatClampNeg = 5 * k + 3 := p3.2
  obtain ⟨r, M1, M2, f1, hM1, f2, f3⟩ := (sim_read c (xs (5 * k + 1)) (xs (5 * k + 2)) (xs (5 * k + 3))).step2 hi
  refine ⟨M2, ?_, f3⟩
  rw [← zw_next (L := L) (xs := xs) (s_law_18 L xs n) f3.1]
  simp only [s_law_18, at224, e, if_true, sL, sX, l0, if_false, i0, c0, hv', show ¬ (18 : Int32) = 0 from by decide, show ¬ (18 : Int32) = 1 from by decide, show ¬ (18 : Int32) = 2 from by decide, show ¬ (18 : Int32) = 3 from by decide, show ¬ (18 : Int32) = 4 from by decide, show ¬ (18 : Int32) = 5 from by decide, show ¬ (18 : Int32) = 6 from by decide, show ¬ (18 : Int32) = 7 from by decide, show ¬ (18 : Int32) = 8 from by decide, show ¬ (18 : Int32) = 9 from by decide, show ¬ (18 : Int32) = 10 from by decide, show ¬ (18 : Int32) = 11 from by decide, show ¬ (18 : Int32) = 12 from by decide, show ¬ (18 : Int32) = 13 from by decide, show ¬ (18 : Int32) = 14 from by decide, show ¬ (18 : Int32) = 15 from by decide, show ¬ (18 : Int32) = 16 from by decide, show ¬ (18 : Int32) = 17 from by decide, cl, has_sh hM, has_sh hM1, hs_1, hs_184, i1, c1, i2, c2, i3, c3, f1, f2, Option.bind_some, eq_self]
theorem zw_19 (n : Nat) {c k : Nat} (hc : c < 600) (hL : L ≤ 2560) (hk : 5 * k + 5 ≤ L) {M : Mm} (hi : Inv c M) (hv : xs (5 * k) &&& (31 : Int32) = nI 19) : ∃ M2, s_law_18 L xs (n + 1) 1 184 (nI (5 * k)) M = s_law_18 L xs n 1 184 (nI (5 * (k + 1))) M2 ∧ Inv (c + 1) M2 := by
  have hM := hi.1
  have e : Nat.beq (mN M) 224 = true := by rw [hM.1]; rfl
  have l0 := zw_go hL hk
  have hv' : xs (5 * k) &&& (31 : Int32) = 19 := hv
  have i0 : inb (nI (5 * k)) L = true := inb_nI (by omega) (by omega)
  have c0 := nI_clamp (show 5 * k < 2 ^ 31 by omega)
  have p1 := zw_i (j := 1) hL hk (by omega)
  have i1 : inb (nI (5 * k) + (1 : Int32)) L = true := p1.1
  have c1 : (nI (5 * k) + (1 : Int32)).toNatClampNeg = 5 * k + 1 := p1.2
  have p2 := zw_i (j := 2) hL hk (by omega)
  have i2 : inb (nI (5 * k) + (2 : Int32)) L = true := p2.1
  have c2 : (nI (5 * k) + (2 : Int32)).toNatClampNeg = 5 * k + 2 := p2.2
  have p3 := zw_i (j := 3) hL hk (by omega)
  have i3 : inb (nI (5 * k) + (3 : Int32)) L = true := p3.1
  have c3 : (nI (5 * k) + (3 : Int32)).toNatClampNeg = 5 * k + 3 := p3.2
  obtain ⟨r, M1, M2, f1, hM1, f2, f3⟩ := (sim_from c (xs (5 * k + 1)) (xs (5 * k + 2)) (xs (5 * k + 3))).step2 hi
  refine ⟨M2, ?_, f3⟩
  rw [← zw_next (L := L) (xs := xs) (s_law_18 L xs n) f3.1]
  simp only [s_law_18, at224, e, if_true, sL, sX, l0, if_false, i0, c0, hv', show ¬ (19 : Int32) = 0 from by decide, show ¬ (19 : Int32) = 1 from by decide, show ¬ (19 : Int32) = 2 from by decide, show ¬ (19 : Int32) = 3 from by decide, show ¬ (19 : Int32) = 4 from by decide, show ¬ (19 : Int32) = 5 from by decide, show ¬ (19 : Int32) = 6 from by decide, show ¬ (19 : Int32) = 7 from by decide, show ¬ (19 : Int32) = 8 from by decide, show ¬ (19 : Int32) = 9 from by decide, show ¬ (19 : Int32) = 10 from by decide, show ¬ (19 : Int32) = 11 from by decide, show ¬ (19 : Int32) = 12 from by decide, show ¬ (19 : Int32) = 13 from by decide, show ¬ (19 : Int32) = 14 from by decide, show ¬ (19 : Int32) = 15 from by decide, show ¬ (19 : Int32) = 16 from by decide, show ¬ (19 : Int32) = 17 from by decide, show ¬ (19 : Int32) = 18 from by decide, cl, has_sh hM, has_sh hM1, hs_1, hs_184, i1, c1, i2, c2, i3, c3, f1, f2, Option.bind_some, eq_self]
theorem zw_20 (n : Nat) {c k : Nat} (hc : c < 600) (hL : L ≤ 2560) (hk : 5 * k + 5 ≤ L) {M : Mm} (hi : Inv c M) (hv : xs (5 * k) &&& (31 : Int32) = nI 20) : ∃ M2, s_law_18 L xs (n + 1) 1 184 (nI (5 * k)) M = s_law_18 L xs n 1 184 (nI (5 * (k + 1))) M2 ∧ Inv (c + 1) M2 := by
  have hM := hi.1
  have e : Nat.beq (mN M) 224 = true := by rw [hM.1]; rfl
  have l0 := zw_go hL hk
  have hv' : xs (5 * k) &&& (31 : Int32) = 20 := hv
  have i0 : inb (nI (5 * k)) L = true := inb_nI (by omega) (by omega)
  have c0 := nI_clamp (show 5 * k < 2 ^ 31 by omega)
  have p1 := zw_i (j := 1) hL hk (by omega)
  have i1 : inb (nI (5 * k) + (1 : Int32)) L = true := p1.1
  have c1 : (nI (5 * k) + (1 : Int32)).toNatClampNeg = 5 * k + 1 := p1.2
  obtain ⟨r, M1, M2, f1, hM1, f2, f3⟩ := (sim_edition c (xs (5 * k + 1))).step2 hi
  refine ⟨M2, ?_, f3⟩
  rw [← zw_next (L := L) (xs := xs) (s_law_18 L xs n) f3.1]
  simp only [s_law_18, at224, e, if_true, sL, sX, l0, if_false, i0, c0, hv', show ¬ (20 : Int32) = 0 from by decide, show ¬ (20 : Int32) = 1 from by decide, show ¬ (20 : Int32) = 2 from by decide, show ¬ (20 : Int32) = 3 from by decide, show ¬ (20 : Int32) = 4 from by decide, show ¬ (20 : Int32) = 5 from by decide, show ¬ (20 : Int32) = 6 from by decide, show ¬ (20 : Int32) = 7 from by decide, show ¬ (20 : Int32) = 8 from by decide, show ¬ (20 : Int32) = 9 from by decide, show ¬ (20 : Int32) = 10 from by decide, show ¬ (20 : Int32) = 11 from by decide, show ¬ (20 : Int32) = 12 from by decide, show ¬ (20 : Int32) = 13 from by decide, show ¬ (20 : Int32) = 14 from by decide, show ¬ (20 : Int32) = 15 from by decide, show ¬ (20 : Int32) = 16 from by decide, show ¬ (20 : Int32) = 17 from by decide, show ¬ (20 : Int32) = 18 from by decide, show ¬ (20 : Int32) = 19 from by decide, cl, has_sh hM, has_sh hM1, hs_1, hs_184, i1, c1, f1, f2, Option.bind_some, eq_self]
theorem zw_21 (n : Nat) {c k : Nat} (hc : c < 600) (hL : L ≤ 2560) (hk : 5 * k + 5 ≤ L) {M : Mm} (hi : Inv c M) (hv : xs (5 * k) &&& (31 : Int32) = nI 21) : ∃ M2, s_law_18 L xs (n + 1) 1 184 (nI (5 * k)) M = s_law_18 L xs n 1 184 (nI (5 * (k + 1))) M2 ∧ Inv (c + 1) M2 := by
  have hM := hi.1
  have e : Nat.beq (mN M) 224 = true := by rw [hM.1]; rfl
  have l0 := zw_go hL hk
  have hv' : xs (5 * k) &&& (31 : Int32) = 21 := hv
  have i0 : inb (nI (5 * k)) L = true := inb_nI (by omega) (by omega)
  have c0 := nI_clamp (show 5 * k < 2 ^ 31 by omega)
  have p1 := zw_i (j := 1) hL hk (by omega)
  have i1 : inb (nI (5 * k) + (1 : Int32)) L = true := p1.1
  have c1 : (nI (5 * k) + (1 : Int32)).toNatClampNeg = 5 * k + 1 := p1.2
  have p2 := zw_i (j := 2) hL hk (by omega)
  have i2 : inb (nI (5 * k) + (2 : Int32)) L = true := p2.1
  have c2 : (nI (5 * k) + (2 : Int32)).toNatClampNeg = 5 * k + 2 := p2.2
  obtain ⟨r, M1, M2, f1, hM1, f2, f3⟩ := (sim_printed c (xs (5 * k + 1)) (xs (5 * k + 2))).step2 hi
  refine ⟨M2, ?_, f3⟩
  rw [← zw_next (L := L) (xs := xs) (s_law_18 L xs n) f3.1]
  simp only [s_law_18, at224, e, if_true, sL, sX, l0, if_false, i0, c0, hv', show ¬ (21 : Int32) = 0 from by decide, show ¬ (21 : Int32) = 1 from by decide, show ¬ (21 : Int32) = 2 from by decide, show ¬ (21 : Int32) = 3 from by decide, show ¬ (21 : Int32) = 4 from by decide, show ¬ (21 : Int32) = 5 from by decide, show ¬ (21 : Int32) = 6 from by decide, show ¬ (21 : Int32) = 7 from by decide, show ¬ (21 : Int32) = 8 from by decide, show ¬ (21 : Int32) = 9 from by decide, show ¬ (21 : Int32) = 10 from by decide, show ¬ (21 : Int32) = 11 from by decide, show ¬ (21 : Int32) = 12 from by decide, show ¬ (21 : Int32) = 13 from by decide, show ¬ (21 : Int32) = 14 from by decide, show ¬ (21 : Int32) = 15 from by decide, show ¬ (21 : Int32) = 16 from by decide, show ¬ (21 : Int32) = 17 from by decide, show ¬ (21 : Int32) = 18 from by decide, show ¬ (21 : Int32) = 19 from by decide, show ¬ (21 : Int32) = 20 from by decide, cl, has_sh hM, has_sh hM1, hs_1, hs_184, i1, c1, i2, c2, f1, f2, Option.bind_some, eq_self]
theorem zw_22 (n : Nat) {c k : Nat} (hc : c < 600) (hL : L ≤ 2560) (hk : 5 * k + 5 ≤ L) {M : Mm} (hi : Inv c M) (hv : xs (5 * k) &&& (31 : Int32) = nI 22) : ∃ M2, s_law_18 L xs (n + 1) 1 184 (nI (5 * k)) M = s_law_18 L xs n 1 184 (nI (5 * (k + 1))) M2 ∧ Inv (c + 1) M2 := by
  have hM := hi.1
  have e : Nat.beq (mN M) 224 = true := by rw [hM.1]; rfl
  have l0 := zw_go hL hk
  have hv' : xs (5 * k) &&& (31 : Int32) = 22 := hv
  have i0 : inb (nI (5 * k)) L = true := inb_nI (by omega) (by omega)
  have c0 := nI_clamp (show 5 * k < 2 ^ 31 by omega)
  have p1 := zw_i (j := 1) hL hk (by omega)
  have i1 : inb (nI (5 * k) + (1 : Int32)) L = true := p1.1
  have c1 : (nI (5 * k) + (1 : Int32)).toNatClampNeg = 5 * k + 1 := p1.2
  have p2 := zw_i (j := 2) hL hk (by omega)
  have i2 : inb (nI (5 * k) + (2 : Int32)) L = true := p2.1
  have c2 : (nI (5 * k) + (2 : Int32)).toNatClampNeg = 5 * k + 2 := p2.2
  obtain ⟨r, M1, M2, f1, hM1, f2, f3⟩ := (sim_worth c (xs (5 * k + 1)) (xs (5 * k + 2))).step2 hi
  refine ⟨M2, ?_, f3⟩
  rw [← zw_next (L := L) (xs := xs) (s_law_18 L xs n) f3.1]
  simp only [s_law_18, at224, e, if_true, sL, sX, l0, if_false, i0, c0, hv', show ¬ (22 : Int32) = 0 from by decide, show ¬ (22 : Int32) = 1 from by decide, show ¬ (22 : Int32) = 2 from by decide, show ¬ (22 : Int32) = 3 from by decide, show ¬ (22 : Int32) = 4 from by decide, show ¬ (22 : Int32) = 5 from by decide, show ¬ (22 : Int32) = 6 from by decide, show ¬ (22 : Int32) = 7 from by decide, show ¬ (22 : Int32) = 8 from by decide, show ¬ (22 : Int32) = 9 from by decide, show ¬ (22 : Int32) = 10 from by decide, show ¬ (22 : Int32) = 11 from by decide, show ¬ (22 : Int32) = 12 from by decide, show ¬ (22 : Int32) = 13 from by decide, show ¬ (22 : Int32) = 14 from by decide, show ¬ (22 : Int32) = 15 from by decide, show ¬ (22 : Int32) = 16 from by decide, show ¬ (22 : Int32) = 17 from by decide, show ¬ (22 : Int32) = 18 from by decide, show ¬ (22 : Int32) = 19 from by decide, show ¬ (22 : Int32) = 20 from by decide, show ¬ (22 : Int32) = 21 from by decide, cl, has_sh hM, has_sh hM1, hs_1, hs_184, i1, c1, i2, c2, f1, f2, Option.bind_some, eq_self]
theorem zw_23 (n : Nat) {c k : Nat} (hc : c < 600) (hL : L ≤ 2560) (hk : 5 * k + 5 ≤ L) {M : Mm} (hi : Inv c M) (hv : xs (5 * k) &&& (31 : Int32) = nI 23) : ∃ M2, s_law_18 L xs (n + 1) 1 184 (nI (5 * k)) M = s_law_18 L xs n 1 184 (nI (5 * (k + 1))) M2 ∧ Inv (c + 1) M2 := by
  have hM := hi.1
  have e : Nat.beq (mN M) 224 = true := by rw [hM.1]; rfl
  have l0 := zw_go hL hk
  have hv' : xs (5 * k) &&& (31 : Int32) = 23 := hv
  have i0 : inb (nI (5 * k)) L = true := inb_nI (by omega) (by omega)
  have c0 := nI_clamp (show 5 * k < 2 ^ 31 by omega)
  obtain ⟨r, M1, M2, f1, hM1, f2, f3⟩ := (sim_plan c).step2 hi
  refine ⟨M2, ?_, f3⟩
  rw [← zw_next (L := L) (xs := xs) (s_law_18 L xs n) f3.1]
  simp only [s_law_18, at224, e, if_true, sL, sX, l0, if_false, i0, c0, hv', show ¬ (23 : Int32) = 0 from by decide, show ¬ (23 : Int32) = 1 from by decide, show ¬ (23 : Int32) = 2 from by decide, show ¬ (23 : Int32) = 3 from by decide, show ¬ (23 : Int32) = 4 from by decide, show ¬ (23 : Int32) = 5 from by decide, show ¬ (23 : Int32) = 6 from by decide, show ¬ (23 : Int32) = 7 from by decide, show ¬ (23 : Int32) = 8 from by decide, show ¬ (23 : Int32) = 9 from by decide, show ¬ (23 : Int32) = 10 from by decide, show ¬ (23 : Int32) = 11 from by decide, show ¬ (23 : Int32) = 12 from by decide, show ¬ (23 : Int32) = 13 from by decide, show ¬ (23 : Int32) = 14 from by decide, show ¬ (23 : Int32) = 15 from by decide, show ¬ (23 : Int32) = 16 from by decide, show ¬ (23 : Int32) = 17 from by decide, show ¬ (23 : Int32) = 18 from by decide, show ¬ (23 : Int32) = 19 from by decide, show ¬ (23 : Int32) = 20 from by decide, show ¬ (23 : Int32) = 21 from by decide, show ¬ (23 : Int32) = 22 from by decide, cl, has_sh hM, has_sh hM1, hs_1, hs_184, f1, f2, Option.bind_some, eq_self]
theorem zw_24 (n : Nat) {c k : Nat} (hc : c < 600) (hL : L ≤ 2560) (hk : 5 * k + 5 ≤ L) {M : Mm} (hi : Inv c M) (hv : xs (5 * k) &&& (31 : Int32) = nI 24) : ∃ M2, s_law_18 L xs (n + 1) 1 184 (nI (5 * k)) M = s_law_18 L xs n 1 184 (nI (5 * (k + 1))) M2 ∧ Inv (c + 1) M2 := by
  have hM := hi.1
  have e : Nat.beq (mN M) 224 = true := by rw [hM.1]; rfl
  have l0 := zw_go hL hk
  have hv' : xs (5 * k) &&& (31 : Int32) = 24 := hv
  have i0 : inb (nI (5 * k)) L = true := inb_nI (by omega) (by omega)
  have c0 := nI_clamp (show 5 * k < 2 ^ 31 by omega)
  have p1 := zw_i (j := 1) hL hk (by omega)
  have i1 : inb (nI (5 * k) + (1 : Int32)) L = true := p1.1
  have c1 : (nI (5 * k) + (1 : Int32)).toNatClampNeg = 5 * k + 1 := p1.2
  obtain ⟨r, M1, M2, f1, hM1, f2, f3⟩ := (sim_count c (xs (5 * k + 1))).step2 hi
  refine ⟨M2, ?_, f3⟩
  rw [← zw_next (L := L) (xs := xs) (s_law_18 L xs n) f3.1]
  simp only [s_law_18, at224, e, if_true, sL, sX, l0, if_false, i0, c0, hv', show ¬ (24 : Int32) = 0 from by decide, show ¬ (24 : Int32) = 1 from by decide, show ¬ (24 : Int32) = 2 from by decide, show ¬ (24 : Int32) = 3 from by decide, show ¬ (24 : Int32) = 4 from by decide, show ¬ (24 : Int32) = 5 from by decide, show ¬ (24 : Int32) = 6 from by decide, show ¬ (24 : Int32) = 7 from by decide, show ¬ (24 : Int32) = 8 from by decide, show ¬ (24 : Int32) = 9 from by decide, show ¬ (24 : Int32) = 10 from by decide, show ¬ (24 : Int32) = 11 from by decide, show ¬ (24 : Int32) = 12 from by decide, show ¬ (24 : Int32) = 13 from by decide, show ¬ (24 : Int32) = 14 from by decide, show ¬ (24 : Int32) = 15 from by decide, show ¬ (24 : Int32) = 16 from by decide, show ¬ (24 : Int32) = 17 from by decide, show ¬ (24 : Int32) = 18 from by decide, show ¬ (24 : Int32) = 19 from by decide, show ¬ (24 : Int32) = 20 from by decide, show ¬ (24 : Int32) = 21 from by decide, show ¬ (24 : Int32) = 22 from by decide, show ¬ (24 : Int32) = 23 from by decide, cl, has_sh hM, has_sh hM1, hs_1, hs_184, i1, c1, f1, f2, Option.bind_some, eq_self]
theorem zw_25 (n : Nat) {c k : Nat} (hc : c < 600) (hL : L ≤ 2560) (hk : 5 * k + 5 ≤ L) {M : Mm} (hi : Inv c M) (hv : xs (5 * k) &&& (31 : Int32) = nI 25) : ∃ M2, s_law_18 L xs (n + 1) 1 184 (nI (5 * k)) M = s_law_18 L xs n 1 184 (nI (5 * (k + 1))) M2 ∧ Inv (c + 1) M2 := by
  have hM := hi.1
  have e : Nat.beq (mN M) 224 = true := by rw [hM.1]; rfl
  have l0 := zw_go hL hk
  have hv' : xs (5 * k) &&& (31 : Int32) = 25 := hv
  have i0 : inb (nI (5 * k)) L = true := inb_nI (by omega) (by omega)
  have c0 := nI_clamp (show 5 * k < 2 ^ 31 by omega)
  have p1 := zw_i (j := 1) hL hk (by omega)
  have i1 : inb (nI (5 * k) + (1 : Int32)) L = true := p1.1
  have c1 : (nI (5 * k) + (1 : Int32)).toNatClampNeg = 5 * k + 1 := p1.2
  have p2 := zw_i (j := 2) hL hk (by omega)
  have i2 : inb (nI (5 * k) + (2 : Int32)) L = true := p2.1
  have c2 : (nI (5 * k) + (2 : Int32)).toNatClampNeg = 5 * k + 2 := p2.2
  obtain ⟨r, M1, M2, f1, hM1, f2, f3⟩ := (sim_tell c (xs (5 * k + 1)) (xs (5 * k + 2))).step2 hi
  refine ⟨M2, ?_, f3⟩
  rw [← zw_next (L := L) (xs := xs) (s_law_18 L xs n) f3.1]
  simp only [s_law_18, at224, e, if_true, sL, sX, l0, if_false, i0, c0, hv', show ¬ (25 : Int32) = 0 from by decide, show ¬ (25 : Int32) = 1 from by decide, show ¬ (25 : Int32) = 2 from by decide, show ¬ (25 : Int32) = 3 from by decide, show ¬ (25 : Int32) = 4 from by decide, show ¬ (25 : Int32) = 5 from by decide, show ¬ (25 : Int32) = 6 from by decide, show ¬ (25 : Int32) = 7 from by decide, show ¬ (25 : Int32) = 8 from by decide, show ¬ (25 : Int32) = 9 from by decide, show ¬ (25 : Int32) = 10 from by decide, show ¬ (25 : Int32) = 11 from by decide, show ¬ (25 : Int32) = 12 from by decide, show ¬ (25 : Int32) = 13 from by decide, show ¬ (25 : Int32) = 14 from by decide, show ¬ (25 : Int32) = 15 from by decide, show ¬ (25 : Int32) = 16 from by decide, show ¬ (25 : Int32) = 17 from by decide, show ¬ (25 : Int32) = 18 from by decide, show ¬ (25 : Int32) = 19 from by decide, show ¬ (25 : Int32) = 20 from by decide, show ¬ (25 : Int32) = 21 from by decide, show ¬ (25 : Int32) = 22 from by decide, show ¬ (25 : Int32) = 23 from by decide, show ¬ (25 : Int32) = 24 from by decide, cl, has_sh hM, has_sh hM1, hs_1, hs_184, i1, c1, i2, c2, f1, f2, Option.bind_some, eq_self]
theorem zw_26 (n : Nat) {c k : Nat} (hc : c < 600) (hL : L ≤ 2560) (hk : 5 * k + 5 ≤ L) {M : Mm} (hi : Inv c M) (hv : xs (5 * k) &&& (31 : Int32) = nI 26) : ∃ M2, s_law_18 L xs (n + 1) 1 184 (nI (5 * k)) M = s_law_18 L xs n 1 184 (nI (5 * (k + 1))) M2 ∧ Inv (c + 1) M2 := by
  have hM := hi.1
  have e : Nat.beq (mN M) 224 = true := by rw [hM.1]; rfl
  have l0 := zw_go hL hk
  have hv' : xs (5 * k) &&& (31 : Int32) = 26 := hv
  have i0 : inb (nI (5 * k)) L = true := inb_nI (by omega) (by omega)
  have c0 := nI_clamp (show 5 * k < 2 ^ 31 by omega)
  have p1 := zw_i (j := 1) hL hk (by omega)
  have i1 : inb (nI (5 * k) + (1 : Int32)) L = true := p1.1
  have c1 : (nI (5 * k) + (1 : Int32)).toNatClampNeg = 5 * k + 1 := p1.2
  obtain ⟨r, M1, M2, f1, hM1, f2, f3⟩ := (sim_lay c (xs (5 * k + 1))).step2 hi
  refine ⟨M2, ?_, f3⟩
  rw [← zw_next (L := L) (xs := xs) (s_law_18 L xs n) f3.1]
  simp only [s_law_18, at224, e, if_true, sL, sX, l0, if_false, i0, c0, hv', show ¬ (26 : Int32) = 0 from by decide, show ¬ (26 : Int32) = 1 from by decide, show ¬ (26 : Int32) = 2 from by decide, show ¬ (26 : Int32) = 3 from by decide, show ¬ (26 : Int32) = 4 from by decide, show ¬ (26 : Int32) = 5 from by decide, show ¬ (26 : Int32) = 6 from by decide, show ¬ (26 : Int32) = 7 from by decide, show ¬ (26 : Int32) = 8 from by decide, show ¬ (26 : Int32) = 9 from by decide, show ¬ (26 : Int32) = 10 from by decide, show ¬ (26 : Int32) = 11 from by decide, show ¬ (26 : Int32) = 12 from by decide, show ¬ (26 : Int32) = 13 from by decide, show ¬ (26 : Int32) = 14 from by decide, show ¬ (26 : Int32) = 15 from by decide, show ¬ (26 : Int32) = 16 from by decide, show ¬ (26 : Int32) = 17 from by decide, show ¬ (26 : Int32) = 18 from by decide, show ¬ (26 : Int32) = 19 from by decide, show ¬ (26 : Int32) = 20 from by decide, show ¬ (26 : Int32) = 21 from by decide, show ¬ (26 : Int32) = 22 from by decide, show ¬ (26 : Int32) = 23 from by decide, show ¬ (26 : Int32) = 24 from by decide, show ¬ (26 : Int32) = 25 from by decide, cl, has_sh hM, has_sh hM1, hs_1, hs_184, i1, c1, f1, f2, Option.bind_some, eq_self]
theorem zw_27 (n : Nat) {c k : Nat} (hc : c < 600) (hL : L ≤ 2560) (hk : 5 * k + 5 ≤ L) {M : Mm} (hi : Inv c M) (hv : xs (5 * k) &&& (31 : Int32) = nI 27) : ∃ M2, s_law_18 L xs (n + 1) 1 184 (nI (5 * k)) M = s_law_18 L xs n 1 184 (nI (5 * (k + 1))) M2 ∧ Inv (c + 1) M2 := by
  have hM := hi.1
  have e : Nat.beq (mN M) 224 = true := by rw [hM.1]; rfl
  have l0 := zw_go hL hk
  have hv' : xs (5 * k) &&& (31 : Int32) = 27 := hv
  have i0 : inb (nI (5 * k)) L = true := inb_nI (by omega) (by omega)
  have c0 := nI_clamp (show 5 * k < 2 ^ 31 by omega)
  obtain ⟨r, M1, M2, f1, hM1, f2, f3⟩ := (sim_tear c).step2 hi
  refine ⟨M2, ?_, f3⟩
  rw [← zw_next (L := L) (xs := xs) (s_law_18 L xs n) f3.1]
  simp only [s_law_18, at224, e, if_true, sL, sX, l0, if_false, i0, c0, hv', show ¬ (27 : Int32) = 0 from by decide, show ¬ (27 : Int32) = 1 from by decide, show ¬ (27 : Int32) = 2 from by decide, show ¬ (27 : Int32) = 3 from by decide, show ¬ (27 : Int32) = 4 from by decide, show ¬ (27 : Int32) = 5 from by decide, show ¬ (27 : Int32) = 6 from by decide, show ¬ (27 : Int32) = 7 from by decide, show ¬ (27 : Int32) = 8 from by decide, show ¬ (27 : Int32) = 9 from by decide, show ¬ (27 : Int32) = 10 from by decide, show ¬ (27 : Int32) = 11 from by decide, show ¬ (27 : Int32) = 12 from by decide, show ¬ (27 : Int32) = 13 from by decide, show ¬ (27 : Int32) = 14 from by decide, show ¬ (27 : Int32) = 15 from by decide, show ¬ (27 : Int32) = 16 from by decide, show ¬ (27 : Int32) = 17 from by decide, show ¬ (27 : Int32) = 18 from by decide, show ¬ (27 : Int32) = 19 from by decide, show ¬ (27 : Int32) = 20 from by decide, show ¬ (27 : Int32) = 21 from by decide, show ¬ (27 : Int32) = 22 from by decide, show ¬ (27 : Int32) = 23 from by decide, show ¬ (27 : Int32) = 24 from by decide, show ¬ (27 : Int32) = 25 from by decide, show ¬ (27 : Int32) = 26 from by decide, cl, has_sh hM, has_sh hM1, hs_1, hs_184, f1, f2, Option.bind_some, eq_self]
theorem zw_28 (n : Nat) {c k : Nat} (hc : c < 600) (hL : L ≤ 2560) (hk : 5 * k + 5 ≤ L) {M : Mm} (hi : Inv c M) (hv : xs (5 * k) &&& (31 : Int32) = nI 28) : ∃ M2, s_law_18 L xs (n + 1) 1 184 (nI (5 * k)) M = s_law_18 L xs n 1 184 (nI (5 * (k + 1))) M2 ∧ Inv (c + 1) M2 := by
  have hM := hi.1
  have e : Nat.beq (mN M) 224 = true := by rw [hM.1]; rfl
  have l0 := zw_go hL hk
  have hv' : xs (5 * k) &&& (31 : Int32) = 28 := hv
  have i0 : inb (nI (5 * k)) L = true := inb_nI (by omega) (by omega)
  have c0 := nI_clamp (show 5 * k < 2 ^ 31 by omega)
  have p1 := zw_i (j := 1) hL hk (by omega)
  have i1 : inb (nI (5 * k) + (1 : Int32)) L = true := p1.1
  have c1 : (nI (5 * k) + (1 : Int32)).toNatClampNeg = 5 * k + 1 := p1.2
  obtain ⟨r, M1, M2, f1, hM1, f2, f3⟩ := (sim_row c (xs (5 * k + 1))).step2 hi
  refine ⟨M2, ?_, f3⟩
  rw [← zw_next (L := L) (xs := xs) (s_law_18 L xs n) f3.1]
  simp only [s_law_18, at224, e, if_true, sL, sX, l0, if_false, i0, c0, hv', show ¬ (28 : Int32) = 0 from by decide, show ¬ (28 : Int32) = 1 from by decide, show ¬ (28 : Int32) = 2 from by decide, show ¬ (28 : Int32) = 3 from by decide, show ¬ (28 : Int32) = 4 from by decide, show ¬ (28 : Int32) = 5 from by decide, show ¬ (28 : Int32) = 6 from by decide, show ¬ (28 : Int32) = 7 from by decide, show ¬ (28 : Int32) = 8 from by decide, show ¬ (28 : Int32) = 9 from by decide, show ¬ (28 : Int32) = 10 from by decide, show ¬ (28 : Int32) = 11 from by decide, show ¬ (28 : Int32) = 12 from by decide, show ¬ (28 : Int32) = 13 from by decide, show ¬ (28 : Int32) = 14 from by decide, show ¬ (28 : Int32) = 15 from by decide, show ¬ (28 : Int32) = 16 from by decide, show ¬ (28 : Int32) = 17 from by decide, show ¬ (28 : Int32) = 18 from by decide, show ¬ (28 : Int32) = 19 from by decide, show ¬ (28 : Int32) = 20 from by decide, show ¬ (28 : Int32) = 21 from by decide, show ¬ (28 : Int32) = 22 from by decide, show ¬ (28 : Int32) = 23 from by decide, show ¬ (28 : Int32) = 24 from by decide, show ¬ (28 : Int32) = 25 from by decide, show ¬ (28 : Int32) = 26 from by decide, show ¬ (28 : Int32) = 27 from by decide, cl, has_sh hM, has_sh hM1, hs_1, hs_184, i1, c1, f1, f2, Option.bind_some, eq_self]
theorem zw_29 (n : Nat) {c k : Nat} (hc : c < 600) (hL : L ≤ 2560) (hk : 5 * k + 5 ≤ L) {M : Mm} (hi : Inv c M) (hv : xs (5 * k) &&& (31 : Int32) = nI 29) : ∃ M2, s_law_18 L xs (n + 1) 1 184 (nI (5 * k)) M = s_law_18 L xs n 1 184 (nI (5 * (k + 1))) M2 ∧ Inv (c + 1) M2 := by
  have hM := hi.1
  have e : Nat.beq (mN M) 224 = true := by rw [hM.1]; rfl
  have l0 := zw_go hL hk
  have hv' : xs (5 * k) &&& (31 : Int32) = 29 := hv
  have i0 : inb (nI (5 * k)) L = true := inb_nI (by omega) (by omega)
  have c0 := nI_clamp (show 5 * k < 2 ^ 31 by omega)
  have p1 := zw_i (j := 1) hL hk (by omega)
  have i1 : inb (nI (5 * k) + (1 : Int32)) L = true := p1.1
  have c1 : (nI (5 * k) + (1 : Int32)).toNatClampNeg = 5 * k + 1 := p1.2
  have p2 := zw_i (j := 2) hL hk (by omega)
  have i2 : inb (nI (5 * k) + (2 : Int32)) L = true := p2.1
  have c2 : (nI (5 * k) + (2 : Int32)).toNatClampNeg = 5 * k + 2 := p2.2
  have p3 := zw_i (j := 3) hL hk (by omega)
  have i3 : inb (nI (5 * k) + (3 : Int32)) L = true := p3.1
  have c3 : (nI (5 * k) + (3 : Int32)).toNatClampNeg = 5 * k + 3 := p3.2
  obtain ⟨r, M1, M2, f1, hM1, f2, f3⟩ := (sim_copy c (xs (5 * k + 1)) (xs (5 * k + 2)) (xs (5 * k + 3))).step2 hi
  refine ⟨M2, ?_, f3⟩
  rw [← zw_next (L := L) (xs := xs) (s_law_18 L xs n) f3.1]
  simp only [s_law_18, at224, e, if_true, sL, sX, l0, if_false, i0, c0, hv', show ¬ (29 : Int32) = 0 from by decide, show ¬ (29 : Int32) = 1 from by decide, show ¬ (29 : Int32) = 2 from by decide, show ¬ (29 : Int32) = 3 from by decide, show ¬ (29 : Int32) = 4 from by decide, show ¬ (29 : Int32) = 5 from by decide, show ¬ (29 : Int32) = 6 from by decide, show ¬ (29 : Int32) = 7 from by decide, show ¬ (29 : Int32) = 8 from by decide, show ¬ (29 : Int32) = 9 from by decide, show ¬ (29 : Int32) = 10 from by decide, show ¬ (29 : Int32) = 11 from by decide, show ¬ (29 : Int32) = 12 from by decide, show ¬ (29 : Int32) = 13 from by decide, show ¬ (29 : Int32) = 14 from by decide, show ¬ (29 : Int32) = 15 from by decide, show ¬ (29 : Int32) = 16 from by decide, show ¬ (29 : Int32) = 17 from by decide, show ¬ (29 : Int32) = 18 from by decide, show ¬ (29 : Int32) = 19 from by decide, show ¬ (29 : Int32) = 20 from by decide, show ¬ (29 : Int32) = 21 from by decide, show ¬ (29 : Int32) = 22 from by decide, show ¬ (29 : Int32) = 23 from by decide, show ¬ (29 : Int32) = 24 from by decide, show ¬ (29 : Int32) = 25 from by decide, show ¬ (29 : Int32) = 26 from by decide, show ¬ (29 : Int32) = 27 from by decide, show ¬ (29 : Int32) = 28 from by decide, cl, has_sh hM, has_sh hM1, hs_1, hs_184, i1, c1, i2, c2, i3, c3, f1, f2, Option.bind_some, eq_self]
theorem zw_30 (n : Nat) {c k : Nat} (hc : c < 600) (hL : L ≤ 2560) (hk : 5 * k + 5 ≤ L) {M : Mm} (hi : Inv c M) (hv : xs (5 * k) &&& (31 : Int32) = nI 30) : ∃ M2, s_law_18 L xs (n + 1) 1 184 (nI (5 * k)) M = s_law_18 L xs n 1 184 (nI (5 * (k + 1))) M2 ∧ Inv (c + 1) M2 := by
  have hM := hi.1
  have e : Nat.beq (mN M) 224 = true := by rw [hM.1]; rfl
  have l0 := zw_go hL hk
  have hv' : xs (5 * k) &&& (31 : Int32) = 30 := hv
  have i0 : inb (nI (5 * k)) L = true := inb_nI (by omega) (by omega)
  have c0 := nI_clamp (show 5 * k < 2 ^ 31 by omega)
  have p1 := zw_i (j := 1) hL hk (by omega)
  have i1 : inb (nI (5 * k) + (1 : Int32)) L = true := p1.1
  have c1 : (nI (5 * k) + (1 : Int32)).toNatClampNeg = 5 * k + 1 := p1.2
  obtain ⟨r, M1, M2, f1, hM1, f2, f3⟩ := (sim_status c (xs (5 * k + 1))).step2 hi
  refine ⟨M2, ?_, f3⟩
  rw [← zw_next (L := L) (xs := xs) (s_law_18 L xs n) f3.1]
  simp only [s_law_18, at224, e, if_true, sL, sX, l0, if_false, i0, c0, hv', show ¬ (30 : Int32) = 0 from by decide, show ¬ (30 : Int32) = 1 from by decide, show ¬ (30 : Int32) = 2 from by decide, show ¬ (30 : Int32) = 3 from by decide, show ¬ (30 : Int32) = 4 from by decide, show ¬ (30 : Int32) = 5 from by decide, show ¬ (30 : Int32) = 6 from by decide, show ¬ (30 : Int32) = 7 from by decide, show ¬ (30 : Int32) = 8 from by decide, show ¬ (30 : Int32) = 9 from by decide, show ¬ (30 : Int32) = 10 from by decide, show ¬ (30 : Int32) = 11 from by decide, show ¬ (30 : Int32) = 12 from by decide, show ¬ (30 : Int32) = 13 from by decide, show ¬ (30 : Int32) = 14 from by decide, show ¬ (30 : Int32) = 15 from by decide, show ¬ (30 : Int32) = 16 from by decide, show ¬ (30 : Int32) = 17 from by decide, show ¬ (30 : Int32) = 18 from by decide, show ¬ (30 : Int32) = 19 from by decide, show ¬ (30 : Int32) = 20 from by decide, show ¬ (30 : Int32) = 21 from by decide, show ¬ (30 : Int32) = 22 from by decide, show ¬ (30 : Int32) = 23 from by decide, show ¬ (30 : Int32) = 24 from by decide, show ¬ (30 : Int32) = 25 from by decide, show ¬ (30 : Int32) = 26 from by decide, show ¬ (30 : Int32) = 27 from by decide, show ¬ (30 : Int32) = 28 from by decide, show ¬ (30 : Int32) = 29 from by decide, cl, has_sh hM, has_sh hM1, hs_1, hs_184, i1, c1, f1, f2, Option.bind_some, eq_self]
theorem zw_d (n : Nat) {c k : Nat} (hL : L ≤ 2560) (hk : 5 * k + 5 ≤ L) {M : Mm} (hi : Inv c M) (hv : xs (5 * k) &&& (31 : Int32) = nI 31) : ∃ M2, s_law_18 L xs (n + 1) 1 184 (nI (5 * k)) M = s_law_18 L xs n 1 184 (nI (5 * (k + 1))) M2 ∧ Inv (c + 1) M2 := by
  have hM := hi.1
  have e : Nat.beq (mN M) 224 = true := by rw [hM.1]; rfl
  have l0 := zw_go hL hk
  have hv' : xs (5 * k) &&& (31 : Int32) = 31 := hv
  have i0 : inb (nI (5 * k)) L = true := inb_nI (by omega) (by omega)
  have c0 := nI_clamp (show 5 * k < 2 ^ 31 by omega)
  refine ⟨M, ?_, hi.same⟩
  rw [← zw_next (L := L) (xs := xs) (s_law_18 L xs n) hM]
  simp only [s_law_18, at224, e, if_true, sL, sX, l0, if_false, i0, c0, hv', show ¬ (31 : Int32) = 0 from by decide, show ¬ (31 : Int32) = 1 from by decide, show ¬ (31 : Int32) = 2 from by decide, show ¬ (31 : Int32) = 3 from by decide, show ¬ (31 : Int32) = 4 from by decide, show ¬ (31 : Int32) = 5 from by decide, show ¬ (31 : Int32) = 6 from by decide, show ¬ (31 : Int32) = 7 from by decide, show ¬ (31 : Int32) = 8 from by decide, show ¬ (31 : Int32) = 9 from by decide, show ¬ (31 : Int32) = 10 from by decide, show ¬ (31 : Int32) = 11 from by decide, show ¬ (31 : Int32) = 12 from by decide, show ¬ (31 : Int32) = 13 from by decide, show ¬ (31 : Int32) = 14 from by decide, show ¬ (31 : Int32) = 15 from by decide, show ¬ (31 : Int32) = 16 from by decide, show ¬ (31 : Int32) = 17 from by decide, show ¬ (31 : Int32) = 18 from by decide, show ¬ (31 : Int32) = 19 from by decide, show ¬ (31 : Int32) = 20 from by decide, show ¬ (31 : Int32) = 21 from by decide, show ¬ (31 : Int32) = 22 from by decide, show ¬ (31 : Int32) = 23 from by decide, show ¬ (31 : Int32) = 24 from by decide, show ¬ (31 : Int32) = 25 from by decide, show ¬ (31 : Int32) = 26 from by decide, show ¬ (31 : Int32) = 27 from by decide, show ¬ (31 : Int32) = 28 from by decide, show ¬ (31 : Int32) = 29 from by decide, show ¬ (31 : Int32) = 30 from by decide]
theorem zw_run (hL : L ≤ 2560) : ∀ (d k n : Nat) (M : Mm), L < 5 * (k + d) + 5 → d < n → k + d ≤ 512 → Inv k M → ∃ M', s_law_18 L xs n 1 184 (nI (5 * k)) M = some (1, M')
  | 0, k, n + 1, M, h1, _, h3, hi => ⟨M, zw_stop hL (by omega) (by omega) hi.1 n⟩
  | d + 1, k, n + 1, M, h1, h2, h3, hi => by
    by_cases hk : 5 * k + 5 ≤ L
    · have st : ∃ M2, s_law_18 L xs (n + 1) 1 184 (nI (5 * k)) M = s_law_18 L xs n 1 184 (nI (5 * (k + 1))) M2 ∧ Inv (k + 1) M2 := by
        obtain ⟨v, hv, e⟩ := zw_31 (xs (5 * k))
        have hc : k < 600 := by omega
        rcases (show v = 0 ∨ v = 1 ∨ v = 2 ∨ v = 3 ∨ v = 4 ∨ v = 5 ∨ v = 6 ∨ v = 7 ∨ v = 8 ∨ v = 9 ∨ v = 10 ∨ v = 11 ∨ v = 12 ∨ v = 13 ∨ v = 14 ∨ v = 15 ∨ v = 16 ∨ v = 17 ∨ v = 18 ∨ v = 19 ∨ v = 20 ∨ v = 21 ∨ v = 22 ∨ v = 23 ∨ v = 24 ∨ v = 25 ∨ v = 26 ∨ v = 27 ∨ v = 28 ∨ v = 29 ∨ v = 30 ∨ v = 31 by omega) with rfl | rfl | rfl | rfl | rfl | rfl | rfl | rfl | rfl | rfl | rfl | rfl | rfl | rfl | rfl | rfl | rfl | rfl | rfl | rfl | rfl | rfl | rfl | rfl | rfl | rfl | rfl | rfl | rfl | rfl | rfl | rfl
        · exact zw_0 n hc hL hk hi e
        · exact zw_1 n hc hL hk hi e
        · exact zw_2 n hc hL hk hi e
        · exact zw_3 n hc hL hk hi e
        · exact zw_4 n hc hL hk hi e
        · exact zw_5 n hc hL hk hi e
        · exact zw_6 n hc hL hk hi e
        · exact zw_7 n hc hL hk hi e
        · exact zw_8 n hc hL hk hi e
        · exact zw_9 n hc hL hk hi e
        · exact zw_10 n hc hL hk hi e
        · exact zw_11 n hc hL hk hi e
        · exact zw_12 n hc hL hk hi e
        · exact zw_13 n hc hL hk hi e
        · exact zw_14 n hc hL hk hi e
        · exact zw_15 n hc hL hk hi e
        · exact zw_16 n hc hL hk hi e
        · exact zw_17 n hc hL hk hi e
        · exact zw_18 n hc hL hk hi e
        · exact zw_19 n hc hL hk hi e
        · exact zw_20 n hc hL hk hi e
        · exact zw_21 n hc hL hk hi e
        · exact zw_22 n hc hL hk hi e
        · exact zw_23 n hc hL hk hi e
        · exact zw_24 n hc hL hk hi e
        · exact zw_25 n hc hL hk hi e
        · exact zw_26 n hc hL hk hi e
        · exact zw_27 n hc hL hk hi e
        · exact zw_28 n hc hL hk hi e
        · exact zw_29 n hc hL hk hi e
        · exact zw_30 n hc hL hk hi e
        · exact zw_d n hL hk hi e
      obtain ⟨M2, e1, e2⟩ := st
      obtain ⟨M', e3⟩ := zw_run hL d (k + 1) n M2 (by omega) (by omega) (by omega) e2
      exact ⟨M', e1.trans e3⟩
    · exact ⟨M, zw_stop hL hk (by omega) hi.1 n⟩
end LAW
/-- LAYER 2's end: the functions' law -/
theorem law_ok (L : Nat) (hL : L ≤ 2560) (xs : Nat → Int32) : ∃ M' : Mm, s_law L xs Mm0 = some (1, M') := by
  obtain ⟨M, e, hM⟩ := law_pre L xs
  obtain ⟨M', e'⟩ := zw_run (xs := xs) hL (L / 5) 0 FU M (by omega) (by have : FU = 5000 := rfl; omega) (by omega) (Inv_0 hM)
  exact ⟨M', e.trans e'⟩
