/-! LAYER 2: piece, the target; the places -/
section PCG
variable {c : Nat} {A B : Mm}
theorem e_isOf11 (hB : Sh B) {q : Nat} (hq : q < 40) (k s : Int32) : s_m11_isOfPiece 184 k s (nI q) B = some (if ¬ rI B 190 q = s then 0 else if k = 4 then (if rI B 189 q = 4 then 0 else 1) else (if rI B 189 q = 0 ∨ rI B 189 q = 5 ∨ rI B 189 q = 1 then 1 else 0), B) := by
  have i1 : inb (nI q) 40 = true := inb_nI hq (by omega)
  have i2 := nI_clamp (show q < 2 ^ 31 by omega)
  simp only [s_m11_isOfPiece_69, s_m11_isOfPiece_64, s_m11_isOfPiece, gI, gL, gR, pI, pZ, pL, pR, aI, aR, sI, sR, al, dz, rz, cl, cp, tL, tC, has_sh, hs_1, hs_2, hs_3, hs_4, hs_5, hs_6, hs_47, hs_48, hs_49, hs_50, hs_51, hs_52, hs_54, hs_55, hs_56, hs_57, hs_58, hs_59, hs_60, hs_61, hs_62, hs_63, hs_184, hs_185, hs_186, hs_187, hs_188, hs_189, hs_190, hs_191, hs_192, hs_193, hs_194, hs_195, hs_196, hs_197, hs_198, hs_199, hs_200, hs_201, hs_202, hs_203, hs_204, hs_205, hs_206, hs_207, hs_208, hs_209, hs_210, hs_211, hs_212, hs_213, hs_214, hs_215, hs_216, hs_217, hs_218, hs_219, hs_220, hs_221, hs_222, hs_223, hs_224, hs_ru, hs_ru0, hs_ru1, hs_ru2, hs_wi, hs_wi0, hs_wi1, hs_wi2, hs_pi, hs_pi0, hs_pa, hs_pa0, tb_2, tb_3, tb_4, tb_6, tb_48, tb_49, tb_51, tb_52, tb_54, tb_55, tb_57, tb_58, tb_60, tb_62, tb_63, tb_185, tb_186, tb_187, tb_188, tb_189, tb_190, tb_191, tb_192, tb_193, tb_194, tb_195, tb_196, tb_197, tb_198, tb_199, tb_200, tb_201, tb_202, tb_203, tb_204, tb_205, tb_206, tb_207, tb_208, tb_209, tb_210, tb_211, tb_212, tb_213, tb_214, tb_215, tb_216, tb_217, tb_218, tb_219, tb_220, tb_221, tb_222, tb_223, tb_224, tb_ru0, tb_ru1, tb_ru2, tb_wi0, tb_wi1, tb_wi2, tb_pi0, tb_pa0, sr1_0, sr1_1, sr1_2, sr1_3, sr1_4, sr1_5, sr1_6, sr1_7, sr1_8, sr1_9, sr5_0, sr47_0, sr47_1, sr50_0, sr50_1, sr50_3, sr50_4, sr56_0, sr56_1, sr59_0, sr61_0, sr184_1, sr184_3, sr184_4, sr184_5, sr184_7, sr184_8, sr184_9, sr184_10, sr184_11, sr184_12, sr184_13, sr184_14, sr184_16, sr184_18, sr184_19, sr184_20, sr184_21, sr184_22, sr184_23, sr184_24, sr184_25, sr184_27, sr184_32, sr184_33, sr184_34, sr184_35, sr184_36, sr184_37, sr184_38, sr184_40, sr184_41, sr184_44, sr184_45, sr184_50, sr184_51, sr184_52, sr184_53, sr184_54, sr184_55, sr184_57, sr2, sr3, sr4, sr6, srru0, srru1, srru2, srwi0, srwi1, srwi2, srpi0, srpa0, Sh_wI, Sh_wL, Sh_wC, if_true, zb_0, zb_1, Option.bind_some, has_wI, has_wL, has_wC, rR_wI, rR_wL, rR_wC, hB, i1, i2]
  by_cases b1 : rI B 190 q = s
  · by_cases b2 : k = 4
    · by_cases c1 : rI B 189 q = 4 <;> simp [b1, b2, c1]
    · by_cases c1 : rI B 189 q = 0 <;> by_cases c2 : rI B 189 q = 5 <;> by_cases c3 : rI B 189 q = 1 <;> simp [b1, b2, c1, c2, c3]
  · simp [b1]
/-- what both say of the target: the class a number, the model a way -/
theorem tgt_3 (hB : Sh B) {k s n q : Nat} (hk : k = 2 ∨ k = 3 ∨ k = 4) (hq : q < 40) (T R y : Int32) :
    (rTgt B k s n q y = 0 ∧ s_m11_piece_166 184 T R (nI q) y (nI k) (nI s) 1 (nI n) B = s_m11_piece_242 184 T R (nI q) y (nI k) (nI s) (nI n) B ∧ rI B 190 q = nI s ∧ (k = 4 → ¬ rI B 189 q = 4) ∧ (k = 2 ∨ k = 3 → rI B 189 q = 0 ∨ rI B 189 q = 5 ∨ rI B 189 q = 1) ∧ (k = 2 → ¬ y < 0 ∧ y ≤ rI B 193 q) ∧ (k = 3 → ¬ y < 0 ∧ y ≤ rI B 193 q - nI n)) ∨
    (rTgt B k s n q y = -5 ∧ s_m11_piece_166 184 T R (nI q) y (nI k) (nI s) 1 (nI n) B = some (-5, wI B 185 5 (rI B 185 5 + 1))) ∨
    (rTgt B k s n q y = -7 ∧ s_m11_piece_166 184 T R (nI q) y (nI k) (nI s) 1 (nI n) B = some (-7, wI B 185 7 (rI B 185 7 + 1))) := by
  have i1 : inb (nI q) 40 = true := inb_nI hq (by omega)
  have i2 := nI_clamp (show q < 2 ^ 31 by omega)
  have ne5 : ¬ (-5 : Int32) = 0 := by decide
  have ne7 : ¬ (-7 : Int32) = 0 := by decide
  have n10' : ¬ (1 : Int32) = 0 := by decide
  simp only [s_m11_piece_166, s_m11_piece_190, s_m11_piece_211, s_m11_piece_235, e_isOf11 hB hq, gI, gL, gR, pI, pZ, pL, pR, aI, aR, sI, sR, al, dz, rz, cl, cp, tL, tC, has_sh, hs_1, hs_2, hs_3, hs_4, hs_5, hs_6, hs_47, hs_48, hs_49, hs_50, hs_51, hs_52, hs_54, hs_55, hs_56, hs_57, hs_58, hs_59, hs_60, hs_61, hs_62, hs_63, hs_184, hs_185, hs_186, hs_187, hs_188, hs_189, hs_190, hs_191, hs_192, hs_193, hs_194, hs_195, hs_196, hs_197, hs_198, hs_199, hs_200, hs_201, hs_202, hs_203, hs_204, hs_205, hs_206, hs_207, hs_208, hs_209, hs_210, hs_211, hs_212, hs_213, hs_214, hs_215, hs_216, hs_217, hs_218, hs_219, hs_220, hs_221, hs_222, hs_223, hs_224, hs_ru, hs_ru0, hs_ru1, hs_ru2, hs_wi, hs_wi0, hs_wi1, hs_wi2, hs_pi, hs_pi0, hs_pa, hs_pa0, tb_2, tb_3, tb_4, tb_6, tb_48, tb_49, tb_51, tb_52, tb_54, tb_55, tb_57, tb_58, tb_60, tb_62, tb_63, tb_185, tb_186, tb_187, tb_188, tb_189, tb_190, tb_191, tb_192, tb_193, tb_194, tb_195, tb_196, tb_197, tb_198, tb_199, tb_200, tb_201, tb_202, tb_203, tb_204, tb_205, tb_206, tb_207, tb_208, tb_209, tb_210, tb_211, tb_212, tb_213, tb_214, tb_215, tb_216, tb_217, tb_218, tb_219, tb_220, tb_221, tb_222, tb_223, tb_224, tb_ru0, tb_ru1, tb_ru2, tb_wi0, tb_wi1, tb_wi2, tb_pi0, tb_pa0, sr1_0, sr1_1, sr1_2, sr1_3, sr1_4, sr1_5, sr1_6, sr1_7, sr1_8, sr1_9, sr5_0, sr47_0, sr47_1, sr50_0, sr50_1, sr50_3, sr50_4, sr56_0, sr56_1, sr59_0, sr61_0, sr184_1, sr184_3, sr184_4, sr184_5, sr184_7, sr184_8, sr184_9, sr184_10, sr184_11, sr184_12, sr184_13, sr184_14, sr184_16, sr184_18, sr184_19, sr184_20, sr184_21, sr184_22, sr184_23, sr184_24, sr184_25, sr184_27, sr184_32, sr184_33, sr184_34, sr184_35, sr184_36, sr184_37, sr184_38, sr184_40, sr184_41, sr184_44, sr184_45, sr184_50, sr184_51, sr184_52, sr184_53, sr184_54, sr184_55, sr184_57, sr2, sr3, sr4, sr6, srru0, srru1, srru2, srwi0, srwi1, srwi2, srpi0, srpa0, Sh_wI, Sh_wL, Sh_wC, if_true, zb_0, zb_1, Option.bind_some, has_wI, has_wL, has_wC, rR_wI, rR_wL, rR_wC, hB, i1, i2, in_c, n10', if_false, rTgt]
  by_cases b1 : rI B 190 q = nI s
  · rcases hk with rfl | rfl | rfl
    · have e1 : ¬ nI 2 = 4 := by decide
      have e2 : ¬ nI 2 = 3 := by decide
      have e3 : nI 2 = 2 := by decide
      by_cases d : rI B 189 q = 0 ∨ rI B 189 q = 5 ∨ rI B 189 q = 1
      · by_cases f : ¬ y < 0 ∧ y ≤ rI B 193 q
        · have f2 : ¬ y < 0 ∧ ¬ rI B 193 q < y := ⟨f.1, Int32.not_lt.2 f.2⟩
          refine Or.inl ?_
          simp [b1, e1, e2, e3, d, f, f2]
        · have f2 : ¬ (¬ y < 0 ∧ ¬ rI B 193 q < y) := fun z => f ⟨z.1, Int32.not_lt.1 z.2⟩
          refine Or.inr (Or.inr ?_)
          simp only [b1, e1, e2, e3, d, f, f2, not_true_eq_false, not_false_eq_true, if_true, if_false, n10', rd7 hB, Option.bind_some, show ¬ (2 : Nat) = 4 by omega, show ¬ (2 : Nat) = 3 by omega, and_self, eq_self, show ¬ (2 : Int32) = 4 from by decide, show ¬ (2 : Int32) = 3 from by decide]
      · refine Or.inr (Or.inl ?_)
        simp only [b1, e1, d, not_true_eq_false, not_false_eq_true, if_true, if_false, rd5 hB, Option.bind_some, show ¬ (2 : Nat) = 4 by omega, and_self]
    · have e1 : ¬ nI 3 = 4 := by decide
      have e2 : nI 3 = 3 := by decide
      have e3 : ¬ nI 3 = 2 := by decide
      by_cases d : rI B 189 q = 0 ∨ rI B 189 q = 5 ∨ rI B 189 q = 1
      · by_cases f : ¬ y < 0 ∧ y ≤ rI B 193 q - nI n
        · have f2 : ¬ y < 0 ∧ ¬ rI B 193 q - nI n < y := ⟨f.1, Int32.not_lt.2 f.2⟩
          refine Or.inl ?_
          simp [b1, e1, e2, e3, d, f, f2]
        · have f2 : ¬ (¬ y < 0 ∧ ¬ rI B 193 q - nI n < y) := fun z => f ⟨z.1, Int32.not_lt.1 z.2⟩
          refine Or.inr (Or.inr ?_)
          simp only [b1, e1, e2, e3, d, f, f2, not_true_eq_false, not_false_eq_true, if_true, if_false, n10', rd7 hB, Option.bind_some, show ¬ (3 : Nat) = 4 by omega, and_self, eq_self, show ¬ (3 : Int32) = 4 from by decide, show ¬ (3 : Int32) = 2 from by decide]
      · refine Or.inr (Or.inl ?_)
        simp only [b1, e1, d, not_true_eq_false, not_false_eq_true, if_true, if_false, rd5 hB, Option.bind_some, show ¬ (3 : Nat) = 4 by omega, and_self]
    · have e1 : nI 4 = 4 := by decide
      have e2 : ¬ nI 4 = 3 := by decide
      have e3 : ¬ nI 4 = 2 := by decide
      have e2' : ¬ (4 : Int32) = 3 := by decide
      have e3' : ¬ (4 : Int32) = 2 := by decide
      by_cases d : rI B 189 q = 4
      · refine Or.inr (Or.inl ?_)
        simp only [b1, e1, d, not_true_eq_false, not_false_eq_true, if_true, if_false, rd5 hB, Option.bind_some, and_self]
      · refine Or.inl ?_
        simp [b1, e1, e2', e3', d]
  · refine Or.inr (Or.inl ?_)
    simp only [b1, not_true_eq_false, not_false_eq_true, if_true, if_false, rd5 hB, Option.bind_some, and_self]
/-- what a piece is made of, the places' bookkeeping -/
def Tpie (p k s : Nat) : Prop := (k = 184 ∧ s = 6) ∨ (189 ≤ k ∧ k ≤ 195 ∧ s = p) ∨ (k = 196 ∧ 12 * p ≤ s ∧ s < 12 * p + 12) ∨ (k = 212 ∧ s % 40 = p) ∨ (k = 209 ∧ s % 40 = p)
def Spie (p k s : Nat) : Prop := (k = 1 ∧ s = 11) ∨ k = 88 + 2 * p ∨ k = 89 + 2 * p
theorem e_p443 {p : Nat} (hp : p < 40) : ∀ (d w n : Nat) (B : Mm), w + d = 6 → d < n → Sh B → rI B 184 6 = nI p → ∃ B', s_m11_piece_443 n 184 (nI w) B = some (nI p, B') ∧ Wr (fun k s => (k = 209 ∧ s % 40 = p) ∨ (k = 184 ∧ s = 6)) B B' ∧ rI B' 184 6 = nI (p + 1) ∧ ∀ v, v < 6 → rI B' 209 (40 * v + p) = if w ≤ v then -1 else rI B 209 (40 * v + p)
  | 0, w, n + 1, B, hw, _, hB, h6 => by
    have e : w = 6 := by omega
    subst e
    refine ⟨wI B 184 6 (nI (p + 1)), ?_, (Wr.rf _ _).wI (Or.inr ⟨rfl, rfl⟩), by simp [rI_wI], fun v h1 => ?_⟩
    · have r1 : rI (wI B 184 6 (nI (p + 1))) 184 6 = nI (p + 1) := by simp [rI_wI]
      simp only [s_m11_piece_443, gI, gL, gR, pI, pZ, pL, pR, aI, aR, sI, sR, al, dz, rz, cl, cp, tL, tC, has_sh, hs_1, hs_2, hs_3, hs_4, hs_5, hs_6, hs_47, hs_48, hs_49, hs_50, hs_51, hs_52, hs_54, hs_55, hs_56, hs_57, hs_58, hs_59, hs_60, hs_61, hs_62, hs_63, hs_184, hs_185, hs_186, hs_187, hs_188, hs_189, hs_190, hs_191, hs_192, hs_193, hs_194, hs_195, hs_196, hs_197, hs_198, hs_199, hs_200, hs_201, hs_202, hs_203, hs_204, hs_205, hs_206, hs_207, hs_208, hs_209, hs_210, hs_211, hs_212, hs_213, hs_214, hs_215, hs_216, hs_217, hs_218, hs_219, hs_220, hs_221, hs_222, hs_223, hs_224, hs_ru, hs_ru0, hs_ru1, hs_ru2, hs_wi, hs_wi0, hs_wi1, hs_wi2, hs_pi, hs_pi0, hs_pa, hs_pa0, tb_2, tb_3, tb_4, tb_6, tb_48, tb_49, tb_51, tb_52, tb_54, tb_55, tb_57, tb_58, tb_60, tb_62, tb_63, tb_185, tb_186, tb_187, tb_188, tb_189, tb_190, tb_191, tb_192, tb_193, tb_194, tb_195, tb_196, tb_197, tb_198, tb_199, tb_200, tb_201, tb_202, tb_203, tb_204, tb_205, tb_206, tb_207, tb_208, tb_209, tb_210, tb_211, tb_212, tb_213, tb_214, tb_215, tb_216, tb_217, tb_218, tb_219, tb_220, tb_221, tb_222, tb_223, tb_224, tb_ru0, tb_ru1, tb_ru2, tb_wi0, tb_wi1, tb_wi2, tb_pi0, tb_pa0, sr1_0, sr1_1, sr1_2, sr1_3, sr1_4, sr1_5, sr1_6, sr1_7, sr1_8, sr1_9, sr5_0, sr47_0, sr47_1, sr50_0, sr50_1, sr50_3, sr50_4, sr56_0, sr56_1, sr59_0, sr61_0, sr184_1, sr184_3, sr184_4, sr184_5, sr184_7, sr184_8, sr184_9, sr184_10, sr184_11, sr184_12, sr184_13, sr184_14, sr184_16, sr184_18, sr184_19, sr184_20, sr184_21, sr184_22, sr184_23, sr184_24, sr184_25, sr184_27, sr184_32, sr184_33, sr184_34, sr184_35, sr184_36, sr184_37, sr184_38, sr184_40, sr184_41, sr184_44, sr184_45, sr184_50, sr184_51, sr184_52, sr184_53, sr184_54, sr184_55, sr184_57, sr2, sr3, sr4, sr6, srru0, srru1, srru2, srwi0, srwi1, srwi2, srpi0, srpa0, Sh_wI, Sh_wL, Sh_wC, if_true, zb_0, zb_1, Option.bind_some, has_wI, has_wL, has_wC, rR_wI, rR_wL, rR_wC, hB, show (6 : Int32) ≤ nI 6 from by decide, h6, nI_1, r1, nI_pred]
    · rw [if_neg (by omega), rI_wI, if_neg (by omega)]
  | d + 1, w, n + 1, B, hw, hd, hB, h6 => by
    have q : ¬ (6 : Int32) ≤ nI w := nI_ge (b := 6) (by omega) (by omega)
    have i0 : (40 : Int32) * nI w + nI p = nI (40 * w + p) := by rw [show (40 : Int32) = nI 40 from rfl, pk_mul, nI_add]
    have i1 : inb (nI (40 * w + p)) 240 = true := inb_nI (by omega) (by omega)
    have i2 := nI_clamp (show 40 * w + p < 2 ^ 31 by omega)
    obtain ⟨B', e, w', f, g⟩ := e_p443 hp d (w + 1) n (wI B 209 (40 * w + p) (-1)) (by omega) (by omega) hB (by rw [rI_wI, if_neg (by omega)]; exact h6)
    refine ⟨B', ?_, ((Wr.rf _ _).wI (Or.inl ⟨rfl, by omega⟩)).tr w', f, fun v h1 => ?_⟩
    · simp only [s_m11_piece_443, gI, gL, gR, pI, pZ, pL, pR, aI, aR, sI, sR, al, dz, rz, cl, cp, tL, tC, has_sh, hs_1, hs_2, hs_3, hs_4, hs_5, hs_6, hs_47, hs_48, hs_49, hs_50, hs_51, hs_52, hs_54, hs_55, hs_56, hs_57, hs_58, hs_59, hs_60, hs_61, hs_62, hs_63, hs_184, hs_185, hs_186, hs_187, hs_188, hs_189, hs_190, hs_191, hs_192, hs_193, hs_194, hs_195, hs_196, hs_197, hs_198, hs_199, hs_200, hs_201, hs_202, hs_203, hs_204, hs_205, hs_206, hs_207, hs_208, hs_209, hs_210, hs_211, hs_212, hs_213, hs_214, hs_215, hs_216, hs_217, hs_218, hs_219, hs_220, hs_221, hs_222, hs_223, hs_224, hs_ru, hs_ru0, hs_ru1, hs_ru2, hs_wi, hs_wi0, hs_wi1, hs_wi2, hs_pi, hs_pi0, hs_pa, hs_pa0, tb_2, tb_3, tb_4, tb_6, tb_48, tb_49, tb_51, tb_52, tb_54, tb_55, tb_57, tb_58, tb_60, tb_62, tb_63, tb_185, tb_186, tb_187, tb_188, tb_189, tb_190, tb_191, tb_192, tb_193, tb_194, tb_195, tb_196, tb_197, tb_198, tb_199, tb_200, tb_201, tb_202, tb_203, tb_204, tb_205, tb_206, tb_207, tb_208, tb_209, tb_210, tb_211, tb_212, tb_213, tb_214, tb_215, tb_216, tb_217, tb_218, tb_219, tb_220, tb_221, tb_222, tb_223, tb_224, tb_ru0, tb_ru1, tb_ru2, tb_wi0, tb_wi1, tb_wi2, tb_pi0, tb_pa0, sr1_0, sr1_1, sr1_2, sr1_3, sr1_4, sr1_5, sr1_6, sr1_7, sr1_8, sr1_9, sr5_0, sr47_0, sr47_1, sr50_0, sr50_1, sr50_3, sr50_4, sr56_0, sr56_1, sr59_0, sr61_0, sr184_1, sr184_3, sr184_4, sr184_5, sr184_7, sr184_8, sr184_9, sr184_10, sr184_11, sr184_12, sr184_13, sr184_14, sr184_16, sr184_18, sr184_19, sr184_20, sr184_21, sr184_22, sr184_23, sr184_24, sr184_25, sr184_27, sr184_32, sr184_33, sr184_34, sr184_35, sr184_36, sr184_37, sr184_38, sr184_40, sr184_41, sr184_44, sr184_45, sr184_50, sr184_51, sr184_52, sr184_53, sr184_54, sr184_55, sr184_57, sr2, sr3, sr4, sr6, srru0, srru1, srru2, srwi0, srwi1, srwi2, srpi0, srpa0, Sh_wI, Sh_wL, Sh_wC, if_true, zb_0, zb_1, Option.bind_some, has_wI, has_wL, has_wC, rR_wI, rR_wL, rR_wC, hB, q, if_false, h6, i0, i1, i2, nI_1, e]
    · rw [g v h1, rI_wI]
      by_cases e1 : v = w
      · subst e1
        rw [if_neg (by omega), if_pos ⟨rfl, rfl⟩, if_pos (Nat.le_refl _)]
      · by_cases e2 : w ≤ v
        · rw [if_pos (by omega), if_pos e2]
        · rw [if_neg (by omega), if_neg e2, if_neg (by omega)]
theorem e_p411 {p : Nat} (hp : p < 40) : ∀ (d a n : Nat) (B : Mm), a + d = 8 → d < n → Sh B → rI B 184 6 = nI p → ∃ B', s_m11_piece_411 n 184 (nI a) B = some (nI p, B') ∧ Wr (fun k s => (k = 212 ∧ s % 40 = p) ∨ (k = 209 ∧ s % 40 = p) ∨ (k = 184 ∧ s = 6)) B B' ∧ rI B' 184 6 = nI (p + 1) ∧ (∀ v, v < 6 → rI B' 209 (40 * v + p) = -1) ∧ ∀ v, v < 8 → rI B' 212 (40 * v + p) = if a ≤ v then -1 else rI B 212 (40 * v + p)
  | 0, a, n + 1, B, hw, _, hB, h6 => by
    have e : a = 8 := by omega
    subst e
    obtain ⟨B', e, w', f, g⟩ := e_p443 hp 6 0 FU B (by omega) (by have : FU = 5000 := rfl; omega) hB h6
    rw [nI_0] at e
    refine ⟨B', ?_, w'.mono (fun k s q => by omega), f, fun v h1 => ?_, fun v h1 => ?_⟩
    · simp only [s_m11_piece_411, show (8 : Int32) ≤ nI 8 from by decide, if_true, e]
    · rw [g v h1, if_pos (by omega)]
    · rw [if_neg (by omega), w'.2.2 212 _ (by omega)]
  | d + 1, a, n + 1, B, hw, hd, hB, h6 => by
    have q : ¬ (8 : Int32) ≤ nI a := nI_ge (b := 8) (by omega) (by omega)
    have i0 : (40 : Int32) * nI a + nI p = nI (40 * a + p) := by rw [show (40 : Int32) = nI 40 from rfl, pk_mul, nI_add]
    have i1 : inb (nI (40 * a + p)) 320 = true := inb_nI (by omega) (by omega)
    have i2 := nI_clamp (show 40 * a + p < 2 ^ 31 by omega)
    obtain ⟨B', e, w', f, f2, g⟩ := e_p411 hp d (a + 1) n (wI B 212 (40 * a + p) (-1)) (by omega) (by omega) hB (by rw [rI_wI, if_neg (by omega)]; exact h6)
    refine ⟨B', ?_, ((Wr.rf _ _).wI (Or.inl ⟨rfl, by omega⟩)).tr w', f, f2, fun v h1 => ?_⟩
    · simp only [s_m11_piece_411, gI, gL, gR, pI, pZ, pL, pR, aI, aR, sI, sR, al, dz, rz, cl, cp, tL, tC, has_sh, hs_1, hs_2, hs_3, hs_4, hs_5, hs_6, hs_47, hs_48, hs_49, hs_50, hs_51, hs_52, hs_54, hs_55, hs_56, hs_57, hs_58, hs_59, hs_60, hs_61, hs_62, hs_63, hs_184, hs_185, hs_186, hs_187, hs_188, hs_189, hs_190, hs_191, hs_192, hs_193, hs_194, hs_195, hs_196, hs_197, hs_198, hs_199, hs_200, hs_201, hs_202, hs_203, hs_204, hs_205, hs_206, hs_207, hs_208, hs_209, hs_210, hs_211, hs_212, hs_213, hs_214, hs_215, hs_216, hs_217, hs_218, hs_219, hs_220, hs_221, hs_222, hs_223, hs_224, hs_ru, hs_ru0, hs_ru1, hs_ru2, hs_wi, hs_wi0, hs_wi1, hs_wi2, hs_pi, hs_pi0, hs_pa, hs_pa0, tb_2, tb_3, tb_4, tb_6, tb_48, tb_49, tb_51, tb_52, tb_54, tb_55, tb_57, tb_58, tb_60, tb_62, tb_63, tb_185, tb_186, tb_187, tb_188, tb_189, tb_190, tb_191, tb_192, tb_193, tb_194, tb_195, tb_196, tb_197, tb_198, tb_199, tb_200, tb_201, tb_202, tb_203, tb_204, tb_205, tb_206, tb_207, tb_208, tb_209, tb_210, tb_211, tb_212, tb_213, tb_214, tb_215, tb_216, tb_217, tb_218, tb_219, tb_220, tb_221, tb_222, tb_223, tb_224, tb_ru0, tb_ru1, tb_ru2, tb_wi0, tb_wi1, tb_wi2, tb_pi0, tb_pa0, sr1_0, sr1_1, sr1_2, sr1_3, sr1_4, sr1_5, sr1_6, sr1_7, sr1_8, sr1_9, sr5_0, sr47_0, sr47_1, sr50_0, sr50_1, sr50_3, sr50_4, sr56_0, sr56_1, sr59_0, sr61_0, sr184_1, sr184_3, sr184_4, sr184_5, sr184_7, sr184_8, sr184_9, sr184_10, sr184_11, sr184_12, sr184_13, sr184_14, sr184_16, sr184_18, sr184_19, sr184_20, sr184_21, sr184_22, sr184_23, sr184_24, sr184_25, sr184_27, sr184_32, sr184_33, sr184_34, sr184_35, sr184_36, sr184_37, sr184_38, sr184_40, sr184_41, sr184_44, sr184_45, sr184_50, sr184_51, sr184_52, sr184_53, sr184_54, sr184_55, sr184_57, sr2, sr3, sr4, sr6, srru0, srru1, srru2, srwi0, srwi1, srwi2, srpi0, srpa0, Sh_wI, Sh_wL, Sh_wC, if_true, zb_0, zb_1, Option.bind_some, has_wI, has_wL, has_wC, rR_wI, rR_wL, rR_wC, hB, q, if_false, h6, i0, i1, i2, nI_1, e]
    · rw [g v h1, rI_wI]
      by_cases e1 : v = a
      · subst e1
        rw [if_neg (by omega), if_pos ⟨rfl, rfl⟩, if_pos (Nat.le_refl _)]
      · by_cases e2 : a ≤ v
        · rw [if_pos (by omega), if_pos e2]
        · rw [if_neg (by omega), if_neg e2, if_neg (by omega)]
theorem e_p373 {p z : Nat} (hp : p < 40) (hz : z ≤ 12) : ∀ (d i n : Nat) (B : Mm), i + d = z → d < n → Sh B → rI B 184 6 = nI p → ∃ B', s_m11_piece_373 n 184 (nI z) (nI i) B = some (nI p, B') ∧ Wr (fun k s => (k = 196 ∧ 12 * p ≤ s ∧ s < 12 * p + 12) ∨ (k = 212 ∧ s % 40 = p) ∨ (k = 209 ∧ s % 40 = p) ∨ (k = 184 ∧ s = 6)) B B' ∧ rI B' 184 6 = nI (p + 1) ∧ (∀ v, v < 6 → rI B' 209 (40 * v + p) = -1) ∧ (∀ v, v < 8 → rI B' 212 (40 * v + p) = -1) ∧ ∀ j, j < z → rI B' 196 (12 * p + j) = if i ≤ j then rI B 197 j else rI B 196 (12 * p + j)
  | 0, i, n + 1, B, hw, _, hB, h6 => by
    have e : i = z := by omega
    subst e
    obtain ⟨B', e, w', f, f2, g⟩ := e_p411 hp 8 0 FU B (by omega) (by have : FU = 5000 := rfl; omega) hB h6
    rw [nI_0] at e
    refine ⟨B', ?_, w'.mono (fun k s q => by omega), f, f2, fun v h1 => ?_, fun v h1 => ?_⟩
    · simp only [s_m11_piece_373, show nI i ≤ nI i from nI_le (Nat.le_refl i) (by omega), if_true, e]
    · rw [g v h1, if_pos (by omega)]
    · rw [if_neg (by omega), w'.2.2 196 _ (by omega)]
  | d + 1, i, n + 1, B, hw, hd, hB, h6 => by
    have q : ¬ nI z ≤ nI i := nI_ge (by omega) (by omega)
    have i0 : (12 : Int32) * nI p + nI i = nI (12 * p + i) := by rw [show (12 : Int32) = nI 12 from rfl, pk_mul, nI_add]
    have i1 : inb (nI (12 * p + i)) 480 = true := inb_nI (by omega) (by omega)
    have i2 := nI_clamp (show 12 * p + i < 2 ^ 31 by omega)
    have i3 : inb (nI i) 16 = true := inb_nI (by omega) (by omega)
    have i4 := nI_clamp (show i < 2 ^ 31 by omega)
    obtain ⟨B', e, w', f, f2, f3, g⟩ := e_p373 hp hz d (i + 1) n (wI B 196 (12 * p + i) (rI B 197 i)) (by omega) (by omega) hB (by rw [rI_wI, if_neg (by omega)]; exact h6)
    refine ⟨B', ?_, ((Wr.rf _ _).wI (Or.inl ⟨rfl, by omega, by omega⟩)).tr w', f, f2, f3, fun v h1 => ?_⟩
    · simp only [s_m11_piece_373, gI, gL, gR, pI, pZ, pL, pR, aI, aR, sI, sR, al, dz, rz, cl, cp, tL, tC, has_sh, hs_1, hs_2, hs_3, hs_4, hs_5, hs_6, hs_47, hs_48, hs_49, hs_50, hs_51, hs_52, hs_54, hs_55, hs_56, hs_57, hs_58, hs_59, hs_60, hs_61, hs_62, hs_63, hs_184, hs_185, hs_186, hs_187, hs_188, hs_189, hs_190, hs_191, hs_192, hs_193, hs_194, hs_195, hs_196, hs_197, hs_198, hs_199, hs_200, hs_201, hs_202, hs_203, hs_204, hs_205, hs_206, hs_207, hs_208, hs_209, hs_210, hs_211, hs_212, hs_213, hs_214, hs_215, hs_216, hs_217, hs_218, hs_219, hs_220, hs_221, hs_222, hs_223, hs_224, hs_ru, hs_ru0, hs_ru1, hs_ru2, hs_wi, hs_wi0, hs_wi1, hs_wi2, hs_pi, hs_pi0, hs_pa, hs_pa0, tb_2, tb_3, tb_4, tb_6, tb_48, tb_49, tb_51, tb_52, tb_54, tb_55, tb_57, tb_58, tb_60, tb_62, tb_63, tb_185, tb_186, tb_187, tb_188, tb_189, tb_190, tb_191, tb_192, tb_193, tb_194, tb_195, tb_196, tb_197, tb_198, tb_199, tb_200, tb_201, tb_202, tb_203, tb_204, tb_205, tb_206, tb_207, tb_208, tb_209, tb_210, tb_211, tb_212, tb_213, tb_214, tb_215, tb_216, tb_217, tb_218, tb_219, tb_220, tb_221, tb_222, tb_223, tb_224, tb_ru0, tb_ru1, tb_ru2, tb_wi0, tb_wi1, tb_wi2, tb_pi0, tb_pa0, sr1_0, sr1_1, sr1_2, sr1_3, sr1_4, sr1_5, sr1_6, sr1_7, sr1_8, sr1_9, sr5_0, sr47_0, sr47_1, sr50_0, sr50_1, sr50_3, sr50_4, sr56_0, sr56_1, sr59_0, sr61_0, sr184_1, sr184_3, sr184_4, sr184_5, sr184_7, sr184_8, sr184_9, sr184_10, sr184_11, sr184_12, sr184_13, sr184_14, sr184_16, sr184_18, sr184_19, sr184_20, sr184_21, sr184_22, sr184_23, sr184_24, sr184_25, sr184_27, sr184_32, sr184_33, sr184_34, sr184_35, sr184_36, sr184_37, sr184_38, sr184_40, sr184_41, sr184_44, sr184_45, sr184_50, sr184_51, sr184_52, sr184_53, sr184_54, sr184_55, sr184_57, sr2, sr3, sr4, sr6, srru0, srru1, srru2, srwi0, srwi1, srwi2, srpi0, srpa0, Sh_wI, Sh_wL, Sh_wC, if_true, zb_0, zb_1, Option.bind_some, has_wI, has_wL, has_wC, rR_wI, rR_wL, rR_wC, hB, q, if_false, h6, i0, i1, i2, i3, i4, nI_1, e]
    · rw [g v h1, rI_wI, rI_wI]
      by_cases e1 : v = i
      · subst e1
        rw [if_neg (by omega), if_pos ⟨rfl, rfl⟩, if_pos (Nat.le_refl _)]
      · by_cases e2 : i ≤ v
        · rw [if_pos (by omega), if_pos e2, if_neg (by omega)]
        · rw [if_neg (by omega), if_neg e2, if_neg (by omega)]
end PCG
