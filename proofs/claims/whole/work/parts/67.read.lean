/-! LAYER 2: rule, what is read: the signs, one by one -/
/-- a place, and whether there is a fault -/
def st1 (nx : Nat → Int32) (c : Int32) (q : Nat × Bool) : Nat × Bool := if q.2 = true then q else if nx q.1 = c then (q.1 + 1, false) else (q.1, true)
def stw (nx : Nat → Int32) : List Int32 → Nat × Bool → Nat × Bool
  | [], q => q
  | c :: l, q => stw nx l (st1 nx c q)
theorem stw_t (nx : Nat → Int32) : ∀ (l : List Int32) (q : Nat × Bool), q.2 = true → stw nx l q = q
  | [], q, _ => rfl
  | c :: l, q, h => by
    show stw nx l (st1 nx c q) = q
    unfold st1
    rw [if_pos h]
    exact stw_t nx l q h
def nmb (nx : Nat → Int32) : Nat → Nat → Nat → Nat × Nat
  | 0, m, a => (m, a)
  | k + 1, m, a => if nx a < 48 then (m, a) else if 57 < nx a then (m, a) else nmb nx k (10 * m + (nx a).toNatClampNeg - 48) (a + 1)
/-- a number: what it says, and where it ends -/
def nmv (nx : Nat → Int32) (q : Nat × Bool) : Nat × (Nat × Bool) := if q.2 = true then (0, q) else ((nmb nx 4 0 q.1).1, ((nmb nx 4 0 q.1).2, decide ((nmb nx 4 0 q.1).2 = q.1)))
section LE
variable {nx : Nat → Int32} {L : Nat}
theorem st1_le (hn : ∀ i, L ≤ i → nx i = -1) {c : Int32} (hc : ¬ c = -1) {q : Nat × Bool} (hq : q.1 ≤ L) : (st1 nx c q).1 ≤ L := by
  unfold st1
  by_cases h1 : q.2 = true
  · rw [if_pos h1]; exact hq
  · rw [if_neg h1]
    by_cases h2 : nx q.1 = c
    · rw [if_pos h2]
      show q.1 + 1 ≤ L
      by_cases h3 : L ≤ q.1
      · exact absurd (h2.symm.trans (hn _ h3)) hc
      · omega
    · rw [if_neg h2]; exact hq
theorem stw_le (hn : ∀ i, L ≤ i → nx i = -1) : ∀ (l : List Int32) (q : Nat × Bool), (∀ c ∈ l, ¬ c = -1) → q.1 ≤ L → (stw nx l q).1 ≤ L
  | [], q, _, hq => hq
  | c :: l, q, hl, hq => stw_le hn l _ (fun c' h => hl c' (List.mem_cons_of_mem _ h)) (st1_le hn (hl c (List.mem_cons_self ..)) hq)
theorem nmb_le (hn : ∀ i, L ≤ i → nx i = -1) : ∀ (k m a : Nat), a ≤ L → (nmb nx k m a).2 ≤ L ∧ a ≤ (nmb nx k m a).2
  | 0, m, a, ha => ⟨ha, Nat.le_refl a⟩
  | k + 1, m, a, ha => by
    unfold nmb
    by_cases h1 : nx a < 48
    · rw [if_pos h1]; exact ⟨ha, Nat.le_refl a⟩
    · rw [if_neg h1]
      by_cases h2 : 57 < nx a
      · rw [if_pos h2]; exact ⟨ha, Nat.le_refl a⟩
      · rw [if_neg h2]
        have h3 : a < L := by
          by_cases h3 : L ≤ a
          · rw [hn a h3] at h1
            exact absurd (by decide) h1
          · omega
        have := nmb_le hn k (10 * m + (nx a).toNatClampNeg - 48) (a + 1) h3
        exact ⟨this.1, by omega⟩
theorem dig_of {x : Int32} (h1 : ¬ x < 48) (h2 : ¬ 57 < x) : ∃ e, 48 ≤ e ∧ e ≤ 57 ∧ x = nI e := by
  have h0 : ¬ x < 0 := fun z => h1 (Int32.lt_trans z (by decide))
  obtain ⟨e, he, rfl⟩ := nI_of h0
  exact ⟨e, (nI_leI (a := 48) (by omega) he).1 (Int32.not_lt.1 h1), (nI_leI (b := 57) he (by omega)).1 (Int32.not_lt.1 h2), rfl⟩
theorem nmb_b : ∀ (k m a : Nat), (nmb nx k m a).1 + 1 ≤ (m + 1) * 10 ^ k
  | 0, m, a => by simp [nmb]
  | k + 1, m, a => by
    have p0 : 1 ≤ 10 ^ k := Nat.one_le_pow _ _ (by omega)
    have p1 : (m + 1) ≤ (m + 1) * 10 ^ (k + 1) := Nat.le_mul_of_pos_right _ (Nat.pow_pos (by omega))
    unfold nmb
    by_cases h1 : nx a < 48
    · rw [if_pos h1]; exact p1
    · rw [if_neg h1]
      by_cases h2 : 57 < nx a
      · rw [if_pos h2]; exact p1
      · rw [if_neg h2]
        obtain ⟨e, e1, e2, e3⟩ := dig_of h1 h2
        rw [e3, nI_clamp (by omega)]
        refine Nat.le_trans (nmb_b k _ (a + 1)) ?_
        rw [Nat.pow_succ, Nat.mul_comm (10 ^ k) 10, ← Nat.mul_assoc]
        exact Nat.mul_le_mul_right _ (by omega)
theorem nmv_b (q : Nat × Bool) : (nmv nx q).1 ≤ 9999 := by
  unfold nmv
  by_cases h : q.2 = true
  · rw [if_pos h]; exact Nat.zero_le _
  · rw [if_neg h]
    have := nmb_b (nx := nx) 4 0 q.1
    show (nmb nx 4 0 q.1).1 ≤ 9999
    omega
theorem nmv_le (hn : ∀ i, L ≤ i → nx i = -1) (q : Nat × Bool) (hq : q.1 ≤ L) : (nmv nx q).2.1 ≤ L := by
  unfold nmv
  by_cases h : q.2 = true
  · rw [if_pos h]; exact hq
  · rw [if_neg h]; exact (nmb_le hn 4 0 q.1 hq).1
theorem nmv_t (q : Nat × Bool) (h : q.2 = true) : nmv nx q = (0, q) := if_pos h
end LE
theorem getD_lt {l : List Int32} {i : Nat} (h : i < l.length) : l.getD i 0 = l[i] := by simp [List.getD, h]
/-! the class's tape, the model's -/
def TpA (nx : Nat → Int32) (L : Nat) (A : Mm) : Prop := Sh A ∧ L ≤ 80 ∧ rI A 59 1 = nI L ∧ ∀ i, i < L → rI A 60 i = nx i
def TpB (nx : Nat → Int32) (L : Nat) (B : Mm) : Prop := Sh B ∧ L ≤ 80 ∧ rI B 184 26 = nI L ∧ ∀ i, i < L → rI B 206 i = nx i
def TSA (A : Mm) (q : Nat × Bool) : Prop := rI A 59 2 = nI q.1 ∧ rI A 59 3 = if q.2 = true then nI q.1 else -1
def TSB (B : Mm) (q : Nat × Bool) : Prop := rI B 184 28 = nI q.1 ∧ rI B 184 29 = if q.2 = true then 1 else 0
def Sat (k s : Nat) : Prop := k = 59 ∧ 2 ≤ s
def Tat (k s : Nat) : Prop := k = 184 ∧ (s = 28 ∨ s = 29)
theorem TpA.wr {nx : Nat → Int32} {L : Nat} {A A' : Mm} {S : Nat → Nat → Prop} (h : TpA nx L A) (w : Wr S A A') (hS : ∀ k s, S k s → k < 50 ∨ (k = 59 ∧ 2 ≤ s)) : TpA nx L A' := by
  obtain ⟨h1, h2, h3, h4⟩ := h
  refine ⟨w.sh h1, h2, ?_, fun i hi => ?_⟩
  · rw [w.2.2 59 1 (fun z => by have := hS _ _ z; omega)]; exact h3
  · rw [w.2.2 60 i (fun z => by have := hS _ _ z; omega)]; exact h4 i hi
theorem TpB.wr {nx : Nat → Int32} {L : Nat} {A A' : Mm} {S : Nat → Nat → Prop} (h : TpB nx L A) (w : Wr S A A') (hS : ∀ k s, S k s → (k = 184 ∧ 27 ≤ s) ∨ (198 ≤ k ∧ k ≤ 205)) : TpB nx L A' := by
  obtain ⟨h1, h2, h3, h4⟩ := h
  refine ⟨w.sh h1, h2, ?_, fun i hi => ?_⟩
  · rw [w.2.2 184 26 (fun z => by have := hS _ _ z; omega)]; exact h3
  · rw [w.2.2 206 i (fun z => by have := hS _ _ z; omega)]; exact h4 i hi
section TPE
variable {nx : Nat → Int32} {L : Nat} {A B : Mm}
theorem e_next (hA : TpA nx L A) (hn : ∀ i, L ≤ i → nx i = -1) {q : Nat × Bool} (hs : TSA A q) (hq : q.1 ≤ L) : s_m8_next 59 A = some (nx q.1, A) := by
  obtain ⟨h1, h2, h3, h4⟩ := hA
  by_cases c : L ≤ q.1
  · simp only [s_m8_next_33, s_m8_next_32, s_m8_next, gI, gL, gR, pI, pZ, pL, pR, aI, aR, sI, sR, al, dz, rz, cl, cp, tL, tC, has_sh, hs_1, hs_2, hs_3, hs_4, hs_5, hs_6, hs_47, hs_48, hs_49, hs_50, hs_51, hs_52, hs_54, hs_55, hs_56, hs_57, hs_58, hs_59, hs_60, hs_61, hs_62, hs_63, hs_184, hs_185, hs_186, hs_187, hs_188, hs_189, hs_190, hs_191, hs_192, hs_193, hs_194, hs_195, hs_196, hs_197, hs_198, hs_199, hs_200, hs_201, hs_202, hs_203, hs_204, hs_205, hs_206, hs_207, hs_208, hs_209, hs_210, hs_211, hs_212, hs_213, hs_214, hs_215, hs_216, hs_217, hs_218, hs_219, hs_220, hs_221, hs_222, hs_223, hs_224, hs_ru, hs_ru0, hs_ru1, hs_ru2, hs_wi, hs_wi0, hs_wi1, hs_wi2, hs_pi, hs_pi0, hs_pa, hs_pa0, tb_2, tb_3, tb_4, tb_6, tb_48, tb_49, tb_51, tb_52, tb_54, tb_55, tb_57, tb_58, tb_60, tb_62, tb_63, tb_185, tb_186, tb_187, tb_188, tb_189, tb_190, tb_191, tb_192, tb_193, tb_194, tb_195, tb_196, tb_197, tb_198, tb_199, tb_200, tb_201, tb_202, tb_203, tb_204, tb_205, tb_206, tb_207, tb_208, tb_209, tb_210, tb_211, tb_212, tb_213, tb_214, tb_215, tb_216, tb_217, tb_218, tb_219, tb_220, tb_221, tb_222, tb_223, tb_224, tb_ru0, tb_ru1, tb_ru2, tb_wi0, tb_wi1, tb_wi2, tb_pi0, tb_pa0, sr1_0, sr1_1, sr1_2, sr1_3, sr1_4, sr1_5, sr1_6, sr1_7, sr1_8, sr1_9, sr5_0, sr47_0, sr47_1, sr50_0, sr50_1, sr50_3, sr50_4, sr56_0, sr56_1, sr59_0, sr61_0, sr184_1, sr184_3, sr184_4, sr184_5, sr184_7, sr184_8, sr184_9, sr184_10, sr184_11, sr184_12, sr184_13, sr184_14, sr184_16, sr184_18, sr184_19, sr184_20, sr184_21, sr184_22, sr184_23, sr184_24, sr184_25, sr184_27, sr184_32, sr184_33, sr184_34, sr184_35, sr184_36, sr184_37, sr184_38, sr184_40, sr184_41, sr184_44, sr184_45, sr184_50, sr184_51, sr184_52, sr184_53, sr184_54, sr184_55, sr184_57, sr2, sr3, sr4, sr6, srru0, srru1, srru2, srwi0, srwi1, srwi2, srpi0, srpa0, Sh_wI, Sh_wL, Sh_wC, if_true, zb_0, zb_1, Option.bind_some, has_wI, has_wL, has_wC, rR_wI, rR_wL, rR_wC, h1, hs.1, h3, nI_le c (by omega), hn _ c]
  · have i1 : inb (nI q.1) 80 = true := inb_nI (by omega) (by omega)
    have i2 := nI_clamp (show q.1 < 2 ^ 31 by omega)
    simp only [s_m8_next_33, s_m8_next_32, s_m8_next, gI, gL, gR, pI, pZ, pL, pR, aI, aR, sI, sR, al, dz, rz, cl, cp, tL, tC, has_sh, hs_1, hs_2, hs_3, hs_4, hs_5, hs_6, hs_47, hs_48, hs_49, hs_50, hs_51, hs_52, hs_54, hs_55, hs_56, hs_57, hs_58, hs_59, hs_60, hs_61, hs_62, hs_63, hs_184, hs_185, hs_186, hs_187, hs_188, hs_189, hs_190, hs_191, hs_192, hs_193, hs_194, hs_195, hs_196, hs_197, hs_198, hs_199, hs_200, hs_201, hs_202, hs_203, hs_204, hs_205, hs_206, hs_207, hs_208, hs_209, hs_210, hs_211, hs_212, hs_213, hs_214, hs_215, hs_216, hs_217, hs_218, hs_219, hs_220, hs_221, hs_222, hs_223, hs_224, hs_ru, hs_ru0, hs_ru1, hs_ru2, hs_wi, hs_wi0, hs_wi1, hs_wi2, hs_pi, hs_pi0, hs_pa, hs_pa0, tb_2, tb_3, tb_4, tb_6, tb_48, tb_49, tb_51, tb_52, tb_54, tb_55, tb_57, tb_58, tb_60, tb_62, tb_63, tb_185, tb_186, tb_187, tb_188, tb_189, tb_190, tb_191, tb_192, tb_193, tb_194, tb_195, tb_196, tb_197, tb_198, tb_199, tb_200, tb_201, tb_202, tb_203, tb_204, tb_205, tb_206, tb_207, tb_208, tb_209, tb_210, tb_211, tb_212, tb_213, tb_214, tb_215, tb_216, tb_217, tb_218, tb_219, tb_220, tb_221, tb_222, tb_223, tb_224, tb_ru0, tb_ru1, tb_ru2, tb_wi0, tb_wi1, tb_wi2, tb_pi0, tb_pa0, sr1_0, sr1_1, sr1_2, sr1_3, sr1_4, sr1_5, sr1_6, sr1_7, sr1_8, sr1_9, sr5_0, sr47_0, sr47_1, sr50_0, sr50_1, sr50_3, sr50_4, sr56_0, sr56_1, sr59_0, sr61_0, sr184_1, sr184_3, sr184_4, sr184_5, sr184_7, sr184_8, sr184_9, sr184_10, sr184_11, sr184_12, sr184_13, sr184_14, sr184_16, sr184_18, sr184_19, sr184_20, sr184_21, sr184_22, sr184_23, sr184_24, sr184_25, sr184_27, sr184_32, sr184_33, sr184_34, sr184_35, sr184_36, sr184_37, sr184_38, sr184_40, sr184_41, sr184_44, sr184_45, sr184_50, sr184_51, sr184_52, sr184_53, sr184_54, sr184_55, sr184_57, sr2, sr3, sr4, sr6, srru0, srru1, srru2, srwi0, srwi1, srwi2, srpi0, srpa0, Sh_wI, Sh_wL, Sh_wC, if_true, zb_0, zb_1, Option.bind_some, has_wI, has_wL, has_wC, rR_wI, rR_wL, rR_wC, h1, hs.1, h3, nI_ge (show q.1 < L by omega) (by omega), if_false, nI_ge (b := 80) (show q.1 < 80 by omega) (by omega), show ¬ (80 : Int32) ≤ nI q.1 from nI_ge (b := 80) (by omega) (by omega), i1, i2, h4 q.1 (by omega)]
theorem e_here (hB : TpB nx L B) (hn : ∀ i, L ≤ i → nx i = -1) {q : Nat × Bool} (hs : TSB B q) (hq : q.1 ≤ L) : s_m11_here 184 B = some (nx q.1, B) := by
  obtain ⟨h1, h2, h3, h4⟩ := hB
  by_cases c : L ≤ q.1
  · simp only [s_m11_here_24, s_m11_here, gI, gL, gR, pI, pZ, pL, pR, aI, aR, sI, sR, al, dz, rz, cl, cp, tL, tC, has_sh, hs_1, hs_2, hs_3, hs_4, hs_5, hs_6, hs_47, hs_48, hs_49, hs_50, hs_51, hs_52, hs_54, hs_55, hs_56, hs_57, hs_58, hs_59, hs_60, hs_61, hs_62, hs_63, hs_184, hs_185, hs_186, hs_187, hs_188, hs_189, hs_190, hs_191, hs_192, hs_193, hs_194, hs_195, hs_196, hs_197, hs_198, hs_199, hs_200, hs_201, hs_202, hs_203, hs_204, hs_205, hs_206, hs_207, hs_208, hs_209, hs_210, hs_211, hs_212, hs_213, hs_214, hs_215, hs_216, hs_217, hs_218, hs_219, hs_220, hs_221, hs_222, hs_223, hs_224, hs_ru, hs_ru0, hs_ru1, hs_ru2, hs_wi, hs_wi0, hs_wi1, hs_wi2, hs_pi, hs_pi0, hs_pa, hs_pa0, tb_2, tb_3, tb_4, tb_6, tb_48, tb_49, tb_51, tb_52, tb_54, tb_55, tb_57, tb_58, tb_60, tb_62, tb_63, tb_185, tb_186, tb_187, tb_188, tb_189, tb_190, tb_191, tb_192, tb_193, tb_194, tb_195, tb_196, tb_197, tb_198, tb_199, tb_200, tb_201, tb_202, tb_203, tb_204, tb_205, tb_206, tb_207, tb_208, tb_209, tb_210, tb_211, tb_212, tb_213, tb_214, tb_215, tb_216, tb_217, tb_218, tb_219, tb_220, tb_221, tb_222, tb_223, tb_224, tb_ru0, tb_ru1, tb_ru2, tb_wi0, tb_wi1, tb_wi2, tb_pi0, tb_pa0, sr1_0, sr1_1, sr1_2, sr1_3, sr1_4, sr1_5, sr1_6, sr1_7, sr1_8, sr1_9, sr5_0, sr47_0, sr47_1, sr50_0, sr50_1, sr50_3, sr50_4, sr56_0, sr56_1, sr59_0, sr61_0, sr184_1, sr184_3, sr184_4, sr184_5, sr184_7, sr184_8, sr184_9, sr184_10, sr184_11, sr184_12, sr184_13, sr184_14, sr184_16, sr184_18, sr184_19, sr184_20, sr184_21, sr184_22, sr184_23, sr184_24, sr184_25, sr184_27, sr184_32, sr184_33, sr184_34, sr184_35, sr184_36, sr184_37, sr184_38, sr184_40, sr184_41, sr184_44, sr184_45, sr184_50, sr184_51, sr184_52, sr184_53, sr184_54, sr184_55, sr184_57, sr2, sr3, sr4, sr6, srru0, srru1, srru2, srwi0, srwi1, srwi2, srpi0, srpa0, Sh_wI, Sh_wL, Sh_wC, if_true, zb_0, zb_1, Option.bind_some, has_wI, has_wL, has_wC, rR_wI, rR_wL, rR_wC, h1, hs.1, h3, nI_le c (by omega), hn _ c]
  · have i1 : inb (nI q.1) 80 = true := inb_nI (by omega) (by omega)
    have i2 := nI_clamp (show q.1 < 2 ^ 31 by omega)
    simp only [s_m11_here_24, s_m11_here, gI, gL, gR, pI, pZ, pL, pR, aI, aR, sI, sR, al, dz, rz, cl, cp, tL, tC, has_sh, hs_1, hs_2, hs_3, hs_4, hs_5, hs_6, hs_47, hs_48, hs_49, hs_50, hs_51, hs_52, hs_54, hs_55, hs_56, hs_57, hs_58, hs_59, hs_60, hs_61, hs_62, hs_63, hs_184, hs_185, hs_186, hs_187, hs_188, hs_189, hs_190, hs_191, hs_192, hs_193, hs_194, hs_195, hs_196, hs_197, hs_198, hs_199, hs_200, hs_201, hs_202, hs_203, hs_204, hs_205, hs_206, hs_207, hs_208, hs_209, hs_210, hs_211, hs_212, hs_213, hs_214, hs_215, hs_216, hs_217, hs_218, hs_219, hs_220, hs_221, hs_222, hs_223, hs_224, hs_ru, hs_ru0, hs_ru1, hs_ru2, hs_wi, hs_wi0, hs_wi1, hs_wi2, hs_pi, hs_pi0, hs_pa, hs_pa0, tb_2, tb_3, tb_4, tb_6, tb_48, tb_49, tb_51, tb_52, tb_54, tb_55, tb_57, tb_58, tb_60, tb_62, tb_63, tb_185, tb_186, tb_187, tb_188, tb_189, tb_190, tb_191, tb_192, tb_193, tb_194, tb_195, tb_196, tb_197, tb_198, tb_199, tb_200, tb_201, tb_202, tb_203, tb_204, tb_205, tb_206, tb_207, tb_208, tb_209, tb_210, tb_211, tb_212, tb_213, tb_214, tb_215, tb_216, tb_217, tb_218, tb_219, tb_220, tb_221, tb_222, tb_223, tb_224, tb_ru0, tb_ru1, tb_ru2, tb_wi0, tb_wi1, tb_wi2, tb_pi0, tb_pa0, sr1_0, sr1_1, sr1_2, sr1_3, sr1_4, sr1_5, sr1_6, sr1_7, sr1_8, sr1_9, sr5_0, sr47_0, sr47_1, sr50_0, sr50_1, sr50_3, sr50_4, sr56_0, sr56_1, sr59_0, sr61_0, sr184_1, sr184_3, sr184_4, sr184_5, sr184_7, sr184_8, sr184_9, sr184_10, sr184_11, sr184_12, sr184_13, sr184_14, sr184_16, sr184_18, sr184_19, sr184_20, sr184_21, sr184_22, sr184_23, sr184_24, sr184_25, sr184_27, sr184_32, sr184_33, sr184_34, sr184_35, sr184_36, sr184_37, sr184_38, sr184_40, sr184_41, sr184_44, sr184_45, sr184_50, sr184_51, sr184_52, sr184_53, sr184_54, sr184_55, sr184_57, sr2, sr3, sr4, sr6, srru0, srru1, srru2, srwi0, srwi1, srwi2, srpi0, srpa0, Sh_wI, Sh_wL, Sh_wC, if_true, zb_0, zb_1, Option.bind_some, has_wI, has_wL, has_wC, rR_wI, rR_wL, rR_wC, h1, hs.1, h3, nI_ge (show q.1 < L by omega) (by omega), if_false, i1, i2, h4 q.1 (by omega)]
theorem e_exp2 (hn : ∀ i, L ≤ i → nx i = -1) {t : Nat} (ht : t < 14) {m : Nat} (hm : slen.getD t 0 = m) (m9 : m ≤ 9) (hl : (sbyt.getD t []).length = m) (hc : ∀ c ∈ sbyt.getD t [], ¬ c = -1) : ∀ (d i n : Nat) (A : Mm) (q : Nat × Bool), i + d = m → d < n → TpA nx L A → TSA A q → q.1 ≤ L → ∃ A', s_m8_expect_2 n 59 t (nI i) A = some ((), A') ∧ Wr Sat A A' ∧ TSA A' (stw nx ((sbyt.getD t []).drop i) q)
  | 0, i, n + 1, A, q, hi, _, hA, hs, hq => by
    have e : i = m := by omega
    subst e
    refine ⟨A, ?_, Wr.rf _ _, ?_⟩
    · simp only [s_m8_expect_2, s_m8_expect_57, tL, ht, if_true, hm, show Int32.ofNat i ≤ nI i from nI_le (Nat.le_refl i) (by omega)]
    · rw [List.drop_of_length_le (by omega)]; exact hs
  | d + 1, i, n + 1, A, q, hi, hd, hA, hs, hq => by
    have c1 : ¬ Int32.ofNat m ≤ nI i := nI_ge (by omega) (by omega)
    have i1 : inb (nI i) m = true := inb_nI (by omega) (by omega)
    have i2 := nI_clamp (show i < 2 ^ 31 by omega)
    have hlt : i < (sbyt.getD t []).length := by omega
    have hA1 := hA.1
    by_cases f : q.2 = true
    · have hs3 : rI A 59 3 = nI q.1 := by rw [hs.2, if_pos f]
      have hL := hA.2.1
      refine ⟨A, ?_, Wr.rf _ _, by rw [stw_t nx _ q f]; exact hs⟩
      simp only [s_m8_expect_2, s_m8_expect_57, tL, ht, if_true, hm, c1, if_false, gI, gL, gR, pI, pZ, pL, pR, aI, aR, sI, sR, al, dz, rz, cl, cp, tL, tC, has_sh, hs_1, hs_2, hs_3, hs_4, hs_5, hs_6, hs_47, hs_48, hs_49, hs_50, hs_51, hs_52, hs_54, hs_55, hs_56, hs_57, hs_58, hs_59, hs_60, hs_61, hs_62, hs_63, hs_184, hs_185, hs_186, hs_187, hs_188, hs_189, hs_190, hs_191, hs_192, hs_193, hs_194, hs_195, hs_196, hs_197, hs_198, hs_199, hs_200, hs_201, hs_202, hs_203, hs_204, hs_205, hs_206, hs_207, hs_208, hs_209, hs_210, hs_211, hs_212, hs_213, hs_214, hs_215, hs_216, hs_217, hs_218, hs_219, hs_220, hs_221, hs_222, hs_223, hs_224, hs_ru, hs_ru0, hs_ru1, hs_ru2, hs_wi, hs_wi0, hs_wi1, hs_wi2, hs_pi, hs_pi0, hs_pa, hs_pa0, tb_2, tb_3, tb_4, tb_6, tb_48, tb_49, tb_51, tb_52, tb_54, tb_55, tb_57, tb_58, tb_60, tb_62, tb_63, tb_185, tb_186, tb_187, tb_188, tb_189, tb_190, tb_191, tb_192, tb_193, tb_194, tb_195, tb_196, tb_197, tb_198, tb_199, tb_200, tb_201, tb_202, tb_203, tb_204, tb_205, tb_206, tb_207, tb_208, tb_209, tb_210, tb_211, tb_212, tb_213, tb_214, tb_215, tb_216, tb_217, tb_218, tb_219, tb_220, tb_221, tb_222, tb_223, tb_224, tb_ru0, tb_ru1, tb_ru2, tb_wi0, tb_wi1, tb_wi2, tb_pi0, tb_pa0, sr1_0, sr1_1, sr1_2, sr1_3, sr1_4, sr1_5, sr1_6, sr1_7, sr1_8, sr1_9, sr5_0, sr47_0, sr47_1, sr50_0, sr50_1, sr50_3, sr50_4, sr56_0, sr56_1, sr59_0, sr61_0, sr184_1, sr184_3, sr184_4, sr184_5, sr184_7, sr184_8, sr184_9, sr184_10, sr184_11, sr184_12, sr184_13, sr184_14, sr184_16, sr184_18, sr184_19, sr184_20, sr184_21, sr184_22, sr184_23, sr184_24, sr184_25, sr184_27, sr184_32, sr184_33, sr184_34, sr184_35, sr184_36, sr184_37, sr184_38, sr184_40, sr184_41, sr184_44, sr184_45, sr184_50, sr184_51, sr184_52, sr184_53, sr184_54, sr184_55, sr184_57, sr2, sr3, sr4, sr6, srru0, srru1, srru2, srwi0, srwi1, srwi2, srpi0, srpa0, Sh_wI, Sh_wL, Sh_wC, if_true, zb_0, zb_1, Option.bind_some, has_wI, has_wL, has_wC, rR_wI, rR_wL, rR_wC, hA1, hs3, ne_m1 (show q.1 < 2 ^ 31 by omega), not_false_eq_true]
    · have hs3 : rI A 59 3 = -1 := by rw [hs.2, if_neg f]
      have ed : (sbyt.getD t []).drop i = (sbyt.getD t [])[i] :: (sbyt.getD t []).drop (i + 1) := List.drop_eq_getElem_cons hlt
      have ec : (sbyt.getD t []).getD i 0 = (sbyt.getD t [])[i] := getD_lt hlt
      have en := e_next hA hn hs hq
      have hcc : ¬ (sbyt.getD t [])[i] = -1 := hc _ (List.getElem_mem hlt)
      generalize (sbyt.getD t [])[i] = cc at *
      by_cases g : nx q.1 = cc
      · have s1 : st1 nx cc q = (q.1 + 1, false) := by unfold st1; rw [if_neg f, if_pos g]
        have hq' : (st1 nx cc q).1 ≤ L := st1_le hn hcc hq
        rw [s1] at hq'
        have w1 : Wr Sat A (wI A 59 2 (nI (q.1 + 1))) := (Wr.rf _ _).wI ⟨rfl, by omega⟩
        obtain ⟨A', e, w, z⟩ := e_exp2 hn ht hm m9 hl hc d (i + 1) n (wI A 59 2 (nI (q.1 + 1))) (q.1 + 1, false) (by omega) (by omega) (hA.wr w1 (fun k s z => Or.inr z)) ⟨by simp [rI_wI], by rw [rI_wI, if_neg (by omega), hs3]; rfl⟩ hq'
        refine ⟨A', ?_, w1.tr w, ?_⟩
        · simp only [s_m8_expect_2, s_m8_expect_51, tL, tC, ht, if_true, hm, c1, if_false, gI, gL, gR, pI, pZ, pL, pR, aI, aR, sI, sR, al, dz, rz, cl, cp, tL, tC, has_sh, hs_1, hs_2, hs_3, hs_4, hs_5, hs_6, hs_47, hs_48, hs_49, hs_50, hs_51, hs_52, hs_54, hs_55, hs_56, hs_57, hs_58, hs_59, hs_60, hs_61, hs_62, hs_63, hs_184, hs_185, hs_186, hs_187, hs_188, hs_189, hs_190, hs_191, hs_192, hs_193, hs_194, hs_195, hs_196, hs_197, hs_198, hs_199, hs_200, hs_201, hs_202, hs_203, hs_204, hs_205, hs_206, hs_207, hs_208, hs_209, hs_210, hs_211, hs_212, hs_213, hs_214, hs_215, hs_216, hs_217, hs_218, hs_219, hs_220, hs_221, hs_222, hs_223, hs_224, hs_ru, hs_ru0, hs_ru1, hs_ru2, hs_wi, hs_wi0, hs_wi1, hs_wi2, hs_pi, hs_pi0, hs_pa, hs_pa0, tb_2, tb_3, tb_4, tb_6, tb_48, tb_49, tb_51, tb_52, tb_54, tb_55, tb_57, tb_58, tb_60, tb_62, tb_63, tb_185, tb_186, tb_187, tb_188, tb_189, tb_190, tb_191, tb_192, tb_193, tb_194, tb_195, tb_196, tb_197, tb_198, tb_199, tb_200, tb_201, tb_202, tb_203, tb_204, tb_205, tb_206, tb_207, tb_208, tb_209, tb_210, tb_211, tb_212, tb_213, tb_214, tb_215, tb_216, tb_217, tb_218, tb_219, tb_220, tb_221, tb_222, tb_223, tb_224, tb_ru0, tb_ru1, tb_ru2, tb_wi0, tb_wi1, tb_wi2, tb_pi0, tb_pa0, sr1_0, sr1_1, sr1_2, sr1_3, sr1_4, sr1_5, sr1_6, sr1_7, sr1_8, sr1_9, sr5_0, sr47_0, sr47_1, sr50_0, sr50_1, sr50_3, sr50_4, sr56_0, sr56_1, sr59_0, sr61_0, sr184_1, sr184_3, sr184_4, sr184_5, sr184_7, sr184_8, sr184_9, sr184_10, sr184_11, sr184_12, sr184_13, sr184_14, sr184_16, sr184_18, sr184_19, sr184_20, sr184_21, sr184_22, sr184_23, sr184_24, sr184_25, sr184_27, sr184_32, sr184_33, sr184_34, sr184_35, sr184_36, sr184_37, sr184_38, sr184_40, sr184_41, sr184_44, sr184_45, sr184_50, sr184_51, sr184_52, sr184_53, sr184_54, sr184_55, sr184_57, sr2, sr3, sr4, sr6, srru0, srru1, srru2, srwi0, srwi1, srwi2, srpi0, srpa0, Sh_wI, Sh_wL, Sh_wC, if_true, zb_0, zb_1, Option.bind_some, has_wI, has_wL, has_wC, rR_wI, rR_wL, rR_wC, hA1, hs3, eq_self, not_true_eq_false, en, i1, i2, ec, g, hs.1, nI_1, e]
        · rw [ed]
          show TSA A' (stw nx _ (st1 nx cc q))
          rw [s1]; exact z
      · have s1 : st1 nx cc q = (q.1, true) := by unfold st1; rw [if_neg f, if_neg g]
        have w1 : Wr Sat A (wI A 59 3 (nI q.1)) := (Wr.rf _ _).wI ⟨rfl, by omega⟩
        obtain ⟨A', e, w, z⟩ := e_exp2 hn ht hm m9 hl hc d (i + 1) n (wI A 59 3 (nI q.1)) (q.1, true) (by omega) (by omega) (hA.wr w1 (fun k s z => Or.inr z)) ⟨by rw [rI_wI, if_neg (by omega)]; exact hs.1, by simp [rI_wI]⟩ hq
        refine ⟨A', ?_, w1.tr w, ?_⟩
        · simp only [s_m8_expect_2, s_m8_expect_51, tL, tC, ht, if_true, hm, c1, if_false, gI, gL, gR, pI, pZ, pL, pR, aI, aR, sI, sR, al, dz, rz, cl, cp, tL, tC, has_sh, hs_1, hs_2, hs_3, hs_4, hs_5, hs_6, hs_47, hs_48, hs_49, hs_50, hs_51, hs_52, hs_54, hs_55, hs_56, hs_57, hs_58, hs_59, hs_60, hs_61, hs_62, hs_63, hs_184, hs_185, hs_186, hs_187, hs_188, hs_189, hs_190, hs_191, hs_192, hs_193, hs_194, hs_195, hs_196, hs_197, hs_198, hs_199, hs_200, hs_201, hs_202, hs_203, hs_204, hs_205, hs_206, hs_207, hs_208, hs_209, hs_210, hs_211, hs_212, hs_213, hs_214, hs_215, hs_216, hs_217, hs_218, hs_219, hs_220, hs_221, hs_222, hs_223, hs_224, hs_ru, hs_ru0, hs_ru1, hs_ru2, hs_wi, hs_wi0, hs_wi1, hs_wi2, hs_pi, hs_pi0, hs_pa, hs_pa0, tb_2, tb_3, tb_4, tb_6, tb_48, tb_49, tb_51, tb_52, tb_54, tb_55, tb_57, tb_58, tb_60, tb_62, tb_63, tb_185, tb_186, tb_187, tb_188, tb_189, tb_190, tb_191, tb_192, tb_193, tb_194, tb_195, tb_196, tb_197, tb_198, tb_199, tb_200, tb_201, tb_202, tb_203, tb_204, tb_205, tb_206, tb_207, tb_208, tb_209, tb_210, tb_211, tb_212, tb_213, tb_214, tb_215, tb_216, tb_217, tb_218, tb_219, tb_220, tb_221, tb_222, tb_223, tb_224, tb_ru0, tb_ru1, tb_ru2, tb_wi0, tb_wi1, tb_wi2, tb_pi0, tb_pa0, sr1_0, sr1_1, sr1_2, sr1_3, sr1_4, sr1_5, sr1_6, sr1_7, sr1_8, sr1_9, sr5_0, sr47_0, sr47_1, sr50_0, sr50_1, sr50_3, sr50_4, sr56_0, sr56_1, sr59_0, sr61_0, sr184_1, sr184_3, sr184_4, sr184_5, sr184_7, sr184_8, sr184_9, sr184_10, sr184_11, sr184_12, sr184_13, sr184_14, sr184_16, sr184_18, sr184_19, sr184_20, sr184_21, sr184_22, sr184_23, sr184_24, sr184_25, sr184_27, sr184_32, sr184_33, sr184_34, sr184_35, sr184_36, sr184_37, sr184_38, sr184_40, sr184_41, sr184_44, sr184_45, sr184_50, sr184_51, sr184_52, sr184_53, sr184_54, sr184_55, sr184_57, sr2, sr3, sr4, sr6, srru0, srru1, srru2, srwi0, srwi1, srwi2, srpi0, srpa0, Sh_wI, Sh_wL, Sh_wC, if_true, zb_0, zb_1, Option.bind_some, has_wI, has_wL, has_wC, rR_wI, rR_wL, rR_wC, hA1, hs3, eq_self, not_true_eq_false, not_false_eq_true, en, i1, i2, ec, g, hs.1, nI_1, e]
        · rw [ed]
          show TSA A' (stw nx _ (st1 nx cc q))
          rw [s1]; exact z
theorem sl_all : ∀ t, t < 14 → slen.getD t 0 ≤ 9 ∧ (sbyt.getD t []).length = slen.getD t 0 ∧ ∀ c ∈ sbyt.getD t [], ¬ c = -1 := by decide
/-- the class looks for a text -/
theorem e_exp (hA : TpA nx L A) (hn : ∀ i, L ≤ i → nx i = -1) {q : Nat × Bool} (hs : TSA A q) (hq : q.1 ≤ L) {t : Nat} (ht : t < 14) : ∃ A', s_m8_expect 59 t A = some ((), A') ∧ Wr Sat A A' ∧ TSA A' (stw nx (sbyt.getD t []) q) ∧ (stw nx (sbyt.getD t []) q).1 ≤ L := by
  obtain ⟨g1, g2, g3⟩ := sl_all t ht
  obtain ⟨A', e, w, z⟩ := e_exp2 hn ht rfl g1 g2 g3 (slen.getD t 0) 0 FU A q (by omega) (by have : FU = 5000 := rfl; omega) hA hs hq
  rw [nI_0] at e
  exact ⟨A', e, w, z, stw_le hn _ q g3 hq⟩
theorem e_one (hB : TpB nx L B) (hn : ∀ i, L ≤ i → nx i = -1) {q : Nat × Bool} (hs : TSB B q) (hq : q.1 ≤ L) (cc : Int32) : ∃ B', s_m11_one 184 cc B = some ((), B') ∧ Wr Tat B B' ∧ TSB B' (st1 nx cc q) := by
  have hB1 := hB.1
  by_cases f : q.2 = true
  · have hs3 : rI B 184 29 = 1 := by rw [hs.2, if_pos f]
    refine ⟨B, ?_, Wr.rf _ _, by unfold st1; rw [if_pos f]; exact hs⟩
    simp only [s_m11_one_34, s_m11_one, gI, gL, gR, pI, pZ, pL, pR, aI, aR, sI, sR, al, dz, rz, cl, cp, tL, tC, has_sh, hs_1, hs_2, hs_3, hs_4, hs_5, hs_6, hs_47, hs_48, hs_49, hs_50, hs_51, hs_52, hs_54, hs_55, hs_56, hs_57, hs_58, hs_59, hs_60, hs_61, hs_62, hs_63, hs_184, hs_185, hs_186, hs_187, hs_188, hs_189, hs_190, hs_191, hs_192, hs_193, hs_194, hs_195, hs_196, hs_197, hs_198, hs_199, hs_200, hs_201, hs_202, hs_203, hs_204, hs_205, hs_206, hs_207, hs_208, hs_209, hs_210, hs_211, hs_212, hs_213, hs_214, hs_215, hs_216, hs_217, hs_218, hs_219, hs_220, hs_221, hs_222, hs_223, hs_224, hs_ru, hs_ru0, hs_ru1, hs_ru2, hs_wi, hs_wi0, hs_wi1, hs_wi2, hs_pi, hs_pi0, hs_pa, hs_pa0, tb_2, tb_3, tb_4, tb_6, tb_48, tb_49, tb_51, tb_52, tb_54, tb_55, tb_57, tb_58, tb_60, tb_62, tb_63, tb_185, tb_186, tb_187, tb_188, tb_189, tb_190, tb_191, tb_192, tb_193, tb_194, tb_195, tb_196, tb_197, tb_198, tb_199, tb_200, tb_201, tb_202, tb_203, tb_204, tb_205, tb_206, tb_207, tb_208, tb_209, tb_210, tb_211, tb_212, tb_213, tb_214, tb_215, tb_216, tb_217, tb_218, tb_219, tb_220, tb_221, tb_222, tb_223, tb_224, tb_ru0, tb_ru1, tb_ru2, tb_wi0, tb_wi1, tb_wi2, tb_pi0, tb_pa0, sr1_0, sr1_1, sr1_2, sr1_3, sr1_4, sr1_5, sr1_6, sr1_7, sr1_8, sr1_9, sr5_0, sr47_0, sr47_1, sr50_0, sr50_1, sr50_3, sr50_4, sr56_0, sr56_1, sr59_0, sr61_0, sr184_1, sr184_3, sr184_4, sr184_5, sr184_7, sr184_8, sr184_9, sr184_10, sr184_11, sr184_12, sr184_13, sr184_14, sr184_16, sr184_18, sr184_19, sr184_20, sr184_21, sr184_22, sr184_23, sr184_24, sr184_25, sr184_27, sr184_32, sr184_33, sr184_34, sr184_35, sr184_36, sr184_37, sr184_38, sr184_40, sr184_41, sr184_44, sr184_45, sr184_50, sr184_51, sr184_52, sr184_53, sr184_54, sr184_55, sr184_57, sr2, sr3, sr4, sr6, srru0, srru1, srru2, srwi0, srwi1, srwi2, srpi0, srpa0, Sh_wI, Sh_wL, Sh_wC, if_true, zb_0, zb_1, Option.bind_some, has_wI, has_wL, has_wC, rR_wI, rR_wL, rR_wC, hB1, hs3, ne_1, if_false]
  · have hs3 : rI B 184 29 = 0 := by rw [hs.2, if_neg f]
    have en := e_here hB hn hs hq
    by_cases g : nx q.1 = cc
    · refine ⟨wI B 184 28 (nI (q.1 + 1)), ?_, (Wr.rf _ _).wI ⟨rfl, Or.inl rfl⟩, ?_⟩
      · simp only [s_m11_one_34, s_m11_one, gI, gL, gR, pI, pZ, pL, pR, aI, aR, sI, sR, al, dz, rz, cl, cp, tL, tC, has_sh, hs_1, hs_2, hs_3, hs_4, hs_5, hs_6, hs_47, hs_48, hs_49, hs_50, hs_51, hs_52, hs_54, hs_55, hs_56, hs_57, hs_58, hs_59, hs_60, hs_61, hs_62, hs_63, hs_184, hs_185, hs_186, hs_187, hs_188, hs_189, hs_190, hs_191, hs_192, hs_193, hs_194, hs_195, hs_196, hs_197, hs_198, hs_199, hs_200, hs_201, hs_202, hs_203, hs_204, hs_205, hs_206, hs_207, hs_208, hs_209, hs_210, hs_211, hs_212, hs_213, hs_214, hs_215, hs_216, hs_217, hs_218, hs_219, hs_220, hs_221, hs_222, hs_223, hs_224, hs_ru, hs_ru0, hs_ru1, hs_ru2, hs_wi, hs_wi0, hs_wi1, hs_wi2, hs_pi, hs_pi0, hs_pa, hs_pa0, tb_2, tb_3, tb_4, tb_6, tb_48, tb_49, tb_51, tb_52, tb_54, tb_55, tb_57, tb_58, tb_60, tb_62, tb_63, tb_185, tb_186, tb_187, tb_188, tb_189, tb_190, tb_191, tb_192, tb_193, tb_194, tb_195, tb_196, tb_197, tb_198, tb_199, tb_200, tb_201, tb_202, tb_203, tb_204, tb_205, tb_206, tb_207, tb_208, tb_209, tb_210, tb_211, tb_212, tb_213, tb_214, tb_215, tb_216, tb_217, tb_218, tb_219, tb_220, tb_221, tb_222, tb_223, tb_224, tb_ru0, tb_ru1, tb_ru2, tb_wi0, tb_wi1, tb_wi2, tb_pi0, tb_pa0, sr1_0, sr1_1, sr1_2, sr1_3, sr1_4, sr1_5, sr1_6, sr1_7, sr1_8, sr1_9, sr5_0, sr47_0, sr47_1, sr50_0, sr50_1, sr50_3, sr50_4, sr56_0, sr56_1, sr59_0, sr61_0, sr184_1, sr184_3, sr184_4, sr184_5, sr184_7, sr184_8, sr184_9, sr184_10, sr184_11, sr184_12, sr184_13, sr184_14, sr184_16, sr184_18, sr184_19, sr184_20, sr184_21, sr184_22, sr184_23, sr184_24, sr184_25, sr184_27, sr184_32, sr184_33, sr184_34, sr184_35, sr184_36, sr184_37, sr184_38, sr184_40, sr184_41, sr184_44, sr184_45, sr184_50, sr184_51, sr184_52, sr184_53, sr184_54, sr184_55, sr184_57, sr2, sr3, sr4, sr6, srru0, srru1, srru2, srwi0, srwi1, srwi2, srpi0, srpa0, Sh_wI, Sh_wL, Sh_wC, if_true, zb_0, zb_1, Option.bind_some, has_wI, has_wL, has_wC, rR_wI, rR_wL, rR_wC, hB1, hs3, eq_self, en, g, not_true_eq_false, if_false, hs.1, nI_1]
      · unfold st1
        rw [if_neg f, if_pos g]
        exact ⟨by simp [rI_wI], by rw [rI_wI, if_neg (by omega), hs3]; rfl⟩
    · refine ⟨wI B 184 29 1, ?_, (Wr.rf _ _).wI ⟨rfl, Or.inr rfl⟩, ?_⟩
      · simp only [s_m11_one_34, s_m11_one, gI, gL, gR, pI, pZ, pL, pR, aI, aR, sI, sR, al, dz, rz, cl, cp, tL, tC, has_sh, hs_1, hs_2, hs_3, hs_4, hs_5, hs_6, hs_47, hs_48, hs_49, hs_50, hs_51, hs_52, hs_54, hs_55, hs_56, hs_57, hs_58, hs_59, hs_60, hs_61, hs_62, hs_63, hs_184, hs_185, hs_186, hs_187, hs_188, hs_189, hs_190, hs_191, hs_192, hs_193, hs_194, hs_195, hs_196, hs_197, hs_198, hs_199, hs_200, hs_201, hs_202, hs_203, hs_204, hs_205, hs_206, hs_207, hs_208, hs_209, hs_210, hs_211, hs_212, hs_213, hs_214, hs_215, hs_216, hs_217, hs_218, hs_219, hs_220, hs_221, hs_222, hs_223, hs_224, hs_ru, hs_ru0, hs_ru1, hs_ru2, hs_wi, hs_wi0, hs_wi1, hs_wi2, hs_pi, hs_pi0, hs_pa, hs_pa0, tb_2, tb_3, tb_4, tb_6, tb_48, tb_49, tb_51, tb_52, tb_54, tb_55, tb_57, tb_58, tb_60, tb_62, tb_63, tb_185, tb_186, tb_187, tb_188, tb_189, tb_190, tb_191, tb_192, tb_193, tb_194, tb_195, tb_196, tb_197, tb_198, tb_199, tb_200, tb_201, tb_202, tb_203, tb_204, tb_205, tb_206, tb_207, tb_208, tb_209, tb_210, tb_211, tb_212, tb_213, tb_214, tb_215, tb_216, tb_217, tb_218, tb_219, tb_220, tb_221, tb_222, tb_223, tb_224, tb_ru0, tb_ru1, tb_ru2, tb_wi0, tb_wi1, tb_wi2, tb_pi0, tb_pa0, sr1_0, sr1_1, sr1_2, sr1_3, sr1_4, sr1_5, sr1_6, sr1_7, sr1_8, sr1_9, sr5_0, sr47_0, sr47_1, sr50_0, sr50_1, sr50_3, sr50_4, sr56_0, sr56_1, sr59_0, sr61_0, sr184_1, sr184_3, sr184_4, sr184_5, sr184_7, sr184_8, sr184_9, sr184_10, sr184_11, sr184_12, sr184_13, sr184_14, sr184_16, sr184_18, sr184_19, sr184_20, sr184_21, sr184_22, sr184_23, sr184_24, sr184_25, sr184_27, sr184_32, sr184_33, sr184_34, sr184_35, sr184_36, sr184_37, sr184_38, sr184_40, sr184_41, sr184_44, sr184_45, sr184_50, sr184_51, sr184_52, sr184_53, sr184_54, sr184_55, sr184_57, sr2, sr3, sr4, sr6, srru0, srru1, srru2, srwi0, srwi1, srwi2, srpi0, srpa0, Sh_wI, Sh_wL, Sh_wC, if_true, zb_0, zb_1, Option.bind_some, has_wI, has_wL, has_wC, rR_wI, rR_wL, rR_wC, hB1, hs3, eq_self, en, g, not_false_eq_true]
      · unfold st1
        rw [if_neg f, if_neg g]
        exact ⟨by rw [rI_wI, if_neg (by omega)]; exact hs.1, by simp [rI_wI]⟩
end TPE
