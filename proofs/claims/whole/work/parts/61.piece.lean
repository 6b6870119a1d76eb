/-! LAYER 2: piece, what is refused -/
theorem n10 : ¬ (10 : Int32) = 0 := by decide
theorem n100 : ¬ (100 : Int32) = 0 := by decide
section PCE
variable {c : Nat} {A B : Mm}
/-- what the class says of a piece's target, before the places run out -/
def rTgt (B : Mm) (k s n q : Nat) (y : Int32) : Int32 :=
  if ¬ rI B 190 q = nI s then -5
  else if k = 4 then (if rI B 189 q = 4 then -5 else 0)
  else if ¬ (rI B 189 q = 0 ∨ rI B 189 q = 5 ∨ rI B 189 q = 1) then -5
  else if k = 3 then (if ¬ y < 0 ∧ y ≤ rI B 193 q - nI n then 0 else -7)
  else (if ¬ y < 0 ∧ y ≤ rI B 193 q then 0 else -7)
theorem e_ofText (h : Inv c (mg A B)) {q : Nat} (hq : q < nP B) : s_m3_isOfText (88 + 2 * q) A = some (if rI B 189 q = 0 ∨ rI B 189 q = 5 ∨ rI B 189 q = 1 then 1 else 0, A) := by
  have h1 := h.ple
  have hq40 : q < 40 := by omega
  obtain ⟨k1, -⟩ := h.pk hq
  simp only [s_m3_isOfText_28, s_m3_isOfText_23, s_m3_isOfText, gI, gL, gR, pI, pZ, pL, pR, aI, aR, sI, sR, al, dz, rz, cl, cp, tL, tC, has_sh, hs_1, hs_2, hs_3, hs_4, hs_5, hs_6, hs_47, hs_48, hs_49, hs_50, hs_51, hs_52, hs_54, hs_55, hs_56, hs_57, hs_58, hs_59, hs_60, hs_61, hs_62, hs_63, hs_184, hs_185, hs_186, hs_187, hs_188, hs_189, hs_190, hs_191, hs_192, hs_193, hs_194, hs_195, hs_196, hs_197, hs_198, hs_199, hs_200, hs_201, hs_202, hs_203, hs_204, hs_205, hs_206, hs_207, hs_208, hs_209, hs_210, hs_211, hs_212, hs_213, hs_214, hs_215, hs_216, hs_217, hs_218, hs_219, hs_220, hs_221, hs_222, hs_223, hs_224, hs_ru, hs_ru0, hs_ru1, hs_ru2, hs_wi, hs_wi0, hs_wi1, hs_wi2, hs_pi, hs_pi0, hs_pa, hs_pa0, tb_2, tb_3, tb_4, tb_6, tb_48, tb_49, tb_51, tb_52, tb_54, tb_55, tb_57, tb_58, tb_60, tb_62, tb_63, tb_185, tb_186, tb_187, tb_188, tb_189, tb_190, tb_191, tb_192, tb_193, tb_194, tb_195, tb_196, tb_197, tb_198, tb_199, tb_200, tb_201, tb_202, tb_203, tb_204, tb_205, tb_206, tb_207, tb_208, tb_209, tb_210, tb_211, tb_212, tb_213, tb_214, tb_215, tb_216, tb_217, tb_218, tb_219, tb_220, tb_221, tb_222, tb_223, tb_224, tb_ru0, tb_ru1, tb_ru2, tb_wi0, tb_wi1, tb_wi2, tb_pi0, tb_pa0, sr1_0, sr1_1, sr1_2, sr1_3, sr1_4, sr1_5, sr1_6, sr1_7, sr1_8, sr1_9, sr5_0, sr47_0, sr47_1, sr50_0, sr50_1, sr50_3, sr50_4, sr56_0, sr56_1, sr59_0, sr61_0, sr184_1, sr184_3, sr184_4, sr184_5, sr184_7, sr184_8, sr184_9, sr184_10, sr184_11, sr184_12, sr184_13, sr184_14, sr184_16, sr184_18, sr184_19, sr184_20, sr184_21, sr184_22, sr184_23, sr184_24, sr184_25, sr184_27, sr184_32, sr184_33, sr184_34, sr184_35, sr184_36, sr184_37, sr184_38, sr184_40, sr184_41, sr184_44, sr184_45, sr184_50, sr184_51, sr184_52, sr184_53, sr184_54, sr184_55, sr184_57, sr2, sr3, sr4, sr6, srru0, srru1, srru2, srwi0, srwi1, srwi2, srpi0, srpa0, Sh_wI, Sh_wL, Sh_wC, if_true, zb_0, zb_1, Option.bind_some, has_wI, has_wL, has_wC, rR_wI, rR_wL, rR_wC, h.shA, hq40, k1]
  by_cases c1 : rI B 189 q = 0 <;> by_cases c2 : rI B 189 q = 5 <;> by_cases c3 : rI B 189 q = 1 <;> simp [c1, c2, c3]
theorem e_tgt (h : Inv c (mg A B)) {k s n q : Nat} (hk : k = 2 ∨ k = 3 ∨ k = 4) (hq : q < nP B) (y : Int32) : s_m10_refusalOfTarget (nI k) (nI s) (nI n) (88 + 2 * q) y A = some (rTgt B k s n q y, A) := by
  have h1 := h.ple
  obtain ⟨k1, k2, k3, k4, k5, k6, k7⟩ := h.pk hq
  have hq40 : q < 40 := by omega
  have z0 : rI B 189 q = 0 → ¬ rI B 189 q = 5 ∧ ¬ rI B 189 q = 1 := fun e => by rw [e]; decide
  simp only [s_m10_refusalOfTarget_79, s_m10_refusalOfTarget_73, s_m10_refusalOfTarget_59, s_m10_refusalOfTarget_30, s_m10_refusalOfTarget, e_ofText h hq, gI, gL, gR, pI, pZ, pL, pR, aI, aR, sI, sR, al, dz, rz, cl, cp, tL, tC, has_sh, hs_1, hs_2, hs_3, hs_4, hs_5, hs_6, hs_47, hs_48, hs_49, hs_50, hs_51, hs_52, hs_54, hs_55, hs_56, hs_57, hs_58, hs_59, hs_60, hs_61, hs_62, hs_63, hs_184, hs_185, hs_186, hs_187, hs_188, hs_189, hs_190, hs_191, hs_192, hs_193, hs_194, hs_195, hs_196, hs_197, hs_198, hs_199, hs_200, hs_201, hs_202, hs_203, hs_204, hs_205, hs_206, hs_207, hs_208, hs_209, hs_210, hs_211, hs_212, hs_213, hs_214, hs_215, hs_216, hs_217, hs_218, hs_219, hs_220, hs_221, hs_222, hs_223, hs_224, hs_ru, hs_ru0, hs_ru1, hs_ru2, hs_wi, hs_wi0, hs_wi1, hs_wi2, hs_pi, hs_pi0, hs_pa, hs_pa0, tb_2, tb_3, tb_4, tb_6, tb_48, tb_49, tb_51, tb_52, tb_54, tb_55, tb_57, tb_58, tb_60, tb_62, tb_63, tb_185, tb_186, tb_187, tb_188, tb_189, tb_190, tb_191, tb_192, tb_193, tb_194, tb_195, tb_196, tb_197, tb_198, tb_199, tb_200, tb_201, tb_202, tb_203, tb_204, tb_205, tb_206, tb_207, tb_208, tb_209, tb_210, tb_211, tb_212, tb_213, tb_214, tb_215, tb_216, tb_217, tb_218, tb_219, tb_220, tb_221, tb_222, tb_223, tb_224, tb_ru0, tb_ru1, tb_ru2, tb_wi0, tb_wi1, tb_wi2, tb_pi0, tb_pa0, sr1_0, sr1_1, sr1_2, sr1_3, sr1_4, sr1_5, sr1_6, sr1_7, sr1_8, sr1_9, sr5_0, sr47_0, sr47_1, sr50_0, sr50_1, sr50_3, sr50_4, sr56_0, sr56_1, sr59_0, sr61_0, sr184_1, sr184_3, sr184_4, sr184_5, sr184_7, sr184_8, sr184_9, sr184_10, sr184_11, sr184_12, sr184_13, sr184_14, sr184_16, sr184_18, sr184_19, sr184_20, sr184_21, sr184_22, sr184_23, sr184_24, sr184_25, sr184_27, sr184_32, sr184_33, sr184_34, sr184_35, sr184_36, sr184_37, sr184_38, sr184_40, sr184_41, sr184_44, sr184_45, sr184_50, sr184_51, sr184_52, sr184_53, sr184_54, sr184_55, sr184_57, sr2, sr3, sr4, sr6, srru0, srru1, srru2, srwi0, srwi1, srwi2, srpi0, srpa0, Sh_wI, Sh_wL, Sh_wC, if_true, zb_0, zb_1, Option.bind_some, has_wI, has_wL, has_wC, rR_wI, rR_wL, rR_wC, h.shA, hq40, k1, k2, k5, rTgt]
  by_cases b1 : rI B 190 q = nI s
  · rcases hk with rfl | rfl | rfl
    · have e1 : ¬ nI 2 = 4 := by decide
      have e2 : ¬ nI 2 = 3 := by decide
      by_cases c1 : rI B 189 q = 0 <;> by_cases c2 : rI B 189 q = 5 <;> by_cases c3 : rI B 189 q = 1 <;> by_cases d1 : y < 0 <;> by_cases d2 : y ≤ rI B 193 q <;> simp [b1, e1, e2, c1, c2, c3, d1, d2]
    · have e1 : ¬ nI 3 = 4 := by decide
      have e2 : nI 3 = 3 := by decide
      by_cases c1 : rI B 189 q = 0 <;> by_cases c2 : rI B 189 q = 5 <;> by_cases c3 : rI B 189 q = 1 <;> by_cases d1 : y < 0 <;> by_cases d2 : y ≤ rI B 193 q - nI n <;> simp [b1, e1, e2, c1, c2, c3, d1, d2]
    · have e1 : nI 4 = 4 := by decide
      by_cases c1 : rI B 189 q = 4 <;> simp [b1, e1, c1]
  · simp [b1]
end PCE
