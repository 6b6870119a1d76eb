/-! LAYER 2: rule, the call -/
section RDA
variable {c : Nat} {nx : Nat → Int32} {L : Nat} {A B : Mm}
def Sra (r k s : Nat) : Prop := Sat k s ∨ (k = 7 + 4 * r ∧ 3 ≤ s ∧ s ≤ 5) ∨ (8 + 4 * r ≤ k ∧ k ≤ 10 + 4 * r)
def Tra (r k s : Nat) : Prop := (k = 184 ∧ 28 ≤ s ∧ s ≤ 30) ∨ (k = 198 ∧ s = r) ∨ (k = 199 ∧ s = r) ∨ (k = 202 ∧ s = r) ∨ (203 ≤ k ∧ k ≤ 205 ∧ 3 * r ≤ s ∧ s < 3 * r + 3)
theorem kyv_2 (x : Int32) : ∃ kn, kn ≤ 2 ∧ kyv x = nI kn := by
  unfold kyv
  by_cases h1 : x = 98
  · rw [if_pos h1]; exact ⟨1, by omega, rfl⟩
  · rw [if_neg h1]
    by_cases h2 : x = 99
    · rw [if_pos h2]; exact ⟨2, by omega, rfl⟩
    · rw [if_neg h2]; exact ⟨0, by omega, rfl⟩
theorem rd_all (hA : TpA nx L A) (hB : TpB nx L B) (hn : ∀ i, L ≤ i → nx i = -1) {r : Nat} (hr : r < 10) (h17 : rI B 184 17 = nI r) :
    ∃ A' B', Wr (Sra r) A A' ∧ Wr (Tra r) B B' ∧ s_m11_readRule 184 B = some ((), B') ∧ ((∃ e, e ≤ L ∧ s_m5_readFrom (7 + 4 * r) 59 A = some (nI e, A') ∧ rI B' 184 28 = nI e ∧ rI B' 184 29 = 1) ∨ (s_m5_readFrom (7 + 4 * r) 59 A = some (-1, A') ∧ rI B' 184 29 = 0 ∧ ∃ u kn v, u ≤ 3 ∧ kn ≤ 2 ∧ v ≤ 9999 ∧ rI A' (7 + 4 * r) 3 = nI u ∧ rI B' 202 r = nI u ∧ Ag r u A' B' ∧ rI A' (7 + 4 * r) 4 = nI kn ∧ rI B' 198 r = nI kn ∧ rI A' (7 + 4 * r) 5 = nI v ∧ rI B' 199 r = nI v)) := by
  have fu : FU = 5000 := rfl
  have i1 : inb (nI r) 11 = true := inb_nI (by omega) (by omega)
  have i2 := nI_clamp (show r < 2 ^ 31 by omega)
  have hA0 := hA.1
  have hB0 := hB.1
  -- the class
  have wa1 : Wr (Sra r) A (wI (wI (wI A 59 2 0) 59 3 (-1)) (7 + 4 * r) 3 0) := (((Wr.rf _ _).wI (by unfold Sra Sat; omega)).wI (by unfold Sra Sat; omega)).wI (by unfold Sra; omega)
  have o : ∀ k s, Sra r k s → k < 50 ∨ (k = 59 ∧ 2 ≤ s) := fun k s z => by unfold Sra Sat at z; omega
  have o' : ∀ k s, Tra r k s → (k = 184 ∧ 27 ≤ s) ∨ (198 ≤ k ∧ k ≤ 205) := fun k s z => by unfold Tra at z; omega
  have ts0 : TSA (wI (wI (wI A 59 2 0) 59 3 (-1)) (7 + 4 * r) 3 0) (0, false) := ⟨by rw [rI_wI, if_neg (by omega)]; simp [rI_wI]; rfl, by rw [rI_wI, if_neg (by omega)]; simp [rI_wI]⟩
  have t30 : rI (wI (wI (wI A 59 2 0) 59 3 (-1)) (7 + 4 * r) 3 0) (7 + 4 * r) 3 = nI 0 := by simp [rI_wI]; rfl
  have eA0 : s_m8_rewind 59 A = some ((), wI (wI A 59 2 0) 59 3 (-1)) := by simp only [s_m8_rewind, gI, gL, gR, pI, pZ, pL, pR, aI, aR, sI, sR, al, dz, rz, cl, cp, tL, tC, has_sh, hs_1, hs_2, hs_3, hs_4, hs_5, hs_6, hs_47, hs_48, hs_49, hs_50, hs_51, hs_52, hs_54, hs_55, hs_56, hs_57, hs_58, hs_59, hs_60, hs_61, hs_62, hs_63, hs_184, hs_185, hs_186, hs_187, hs_188, hs_189, hs_190, hs_191, hs_192, hs_193, hs_194, hs_195, hs_196, hs_197, hs_198, hs_199, hs_200, hs_201, hs_202, hs_203, hs_204, hs_205, hs_206, hs_207, hs_208, hs_209, hs_210, hs_211, hs_212, hs_213, hs_214, hs_215, hs_216, hs_217, hs_218, hs_219, hs_220, hs_221, hs_222, hs_223, hs_224, hs_ru, hs_ru0, hs_ru1, hs_ru2, hs_wi, hs_wi0, hs_wi1, hs_wi2, hs_pi, hs_pi0, hs_pa, hs_pa0, tb_2, tb_3, tb_4, tb_6, tb_48, tb_49, tb_51, tb_52, tb_54, tb_55, tb_57, tb_58, tb_60, tb_62, tb_63, tb_185, tb_186, tb_187, tb_188, tb_189, tb_190, tb_191, tb_192, tb_193, tb_194, tb_195, tb_196, tb_197, tb_198, tb_199, tb_200, tb_201, tb_202, tb_203, tb_204, tb_205, tb_206, tb_207, tb_208, tb_209, tb_210, tb_211, tb_212, tb_213, tb_214, tb_215, tb_216, tb_217, tb_218, tb_219, tb_220, tb_221, tb_222, tb_223, tb_224, tb_ru0, tb_ru1, tb_ru2, tb_wi0, tb_wi1, tb_wi2, tb_pi0, tb_pa0, sr1_0, sr1_1, sr1_2, sr1_3, sr1_4, sr1_5, sr1_6, sr1_7, sr1_8, sr1_9, sr5_0, sr47_0, sr47_1, sr50_0, sr50_1, sr50_3, sr50_4, sr56_0, sr56_1, sr59_0, sr61_0, sr184_1, sr184_3, sr184_4, sr184_5, sr184_7, sr184_8, sr184_9, sr184_10, sr184_11, sr184_12, sr184_13, sr184_14, sr184_16, sr184_18, sr184_19, sr184_20, sr184_21, sr184_22, sr184_23, sr184_24, sr184_25, sr184_27, sr184_32, sr184_33, sr184_34, sr184_35, sr184_36, sr184_37, sr184_38, sr184_40, sr184_41, sr184_44, sr184_45, sr184_50, sr184_51, sr184_52, sr184_53, sr184_54, sr184_55, sr184_57, sr2, sr3, sr4, sr6, srru0, srru1, srru2, srwi0, srwi1, srwi2, srpi0, srpa0, Sh_wI, Sh_wL, Sh_wC, if_true, zb_0, zb_1, Option.bind_some, has_wI, has_wL, has_wC, rR_wI, rR_wL, rR_wC, hA0]
  have hA1 := hA.wr wa1 o
  generalize eqA : wI (wI (wI A 59 2 0) 59 3 (-1)) (7 + 4 * r) 3 0 = A1 at *
  have sA1 := hA1.1
  obtain ⟨A2, e2, w2, z2, l2⟩ := e_rdK hA1 hn ts0 (Nat.zero_le L)
  have hA2 := hA1.wr w2 (fun k s z => Or.inr z)
  have sA2 := hA2.1
  -- the model
  have wb1 : Wr (Tra r) B (wI (wI (wI (wI B 184 28 0) 184 29 0) 184 30 (nI r)) 202 r 0) := ((((Wr.rf _ _).wI (by unfold Tra; omega)).wI (by unfold Tra; omega)).wI (by unfold Tra; omega)).wI (by unfold Tra; omega)
  have us0 : TSB (wI (wI (wI (wI B 184 28 0) 184 29 0) 184 30 (nI r)) 202 r 0) (0, false) := ⟨by rw [rI_wI, if_neg (by omega)]; simp [rI_wI]; rfl, by rw [rI_wI, if_neg (by omega)]; simp [rI_wI]⟩
  have u30 : rI (wI (wI (wI (wI B 184 28 0) 184 29 0) 184 30 (nI r)) 202 r 0) 184 30 = nI r := by rw [rI_wI, if_neg (by omega)]; simp [rI_wI]
  have u202 : rI (wI (wI (wI (wI B 184 28 0) 184 29 0) 184 30 (nI r)) 202 r 0) 202 r = nI 0 := by simp [rI_wI]; rfl
  have v17 : rI (wI (wI B 184 28 0) 184 29 0) 184 17 = nI r := by simp [rI_wI, h17]
  have v30 : rI (wI (wI (wI B 184 28 0) 184 29 0) 184 30 (nI r)) 184 30 = nI r := by simp [rI_wI]
  have hB1 := hB.wr wb1 o'
  generalize eqB : wI (wI (wI (wI B 184 28 0) 184 29 0) 184 30 (nI r)) 202 r 0 = B1 at *
  have sB1 := hB1.1
  obtain ⟨B2, g2, x2, y2, -⟩ := e_mdK hB1 hn us0 (Nat.zero_le L)
  have hB2 := hB1.wr x2 (fun k s q => by unfold Tat at q; omega)
  have sB2 := hB2.1
  obtain ⟨kk1, kk2⟩ := ky_kz (nx := nx) (0, false)
  rw [← kk1] at y2
  generalize stw nx (sbyt.getD (kyt (nx (0, false).1)) []) (0, false) = q1 at *
  have wa3 : Wr (Sra r) A2 (wI A2 (7 + 4 * r) 4 (kyv (nx (0, false).1))) := (Wr.rf _ _).wI (by unfold Sra; omega)
  have hA3 := hA2.wr wa3 o
  have z3 : TSA (wI A2 (7 + 4 * r) 4 (kyv (nx (0, false).1))) q1 := ⟨by rw [rI_wI, if_neg (by omega)]; exact z2.1, by rw [rI_wI, if_neg (by omega)]; exact z2.2⟩
  obtain ⟨A4, e4, w4, z4, l4⟩ := e_exp hA3 hn z3 l2 (t := 3) (by omega)
  have hA4 := hA3.wr w4 (fun k s z => Or.inr z)
  have wb3 : Wr (Tra r) B2 (wI B2 198 r (kzv (nx (0, false).1))) := (Wr.rf _ _).wI (by unfold Tra; omega)
  have hB3 := hB2.wr wb3 o'
  have y3 : TSB (wI B2 198 r (kzv (nx (0, false).1))) q1 := ⟨by rw [rI_wI, if_neg (by omega)]; exact y2.1, by rw [rI_wI, if_neg (by omega)]; exact y2.2⟩
  obtain ⟨B4, g4, x4, y4⟩ := e_one hB3 hn y3 l2 32
  have hB4 := hB3.wr x4 (fun k s q => by unfold Tat at q; omega)
  have y4' : TSB B4 (stw nx (sbyt.getD 3 []) q1) := y4
  have qs : (stw nx (sbyt.getD 3 []) q1).2 = false → q1.2 = false := fun z => by
    by_cases y : q1.2 = true
    · rw [stw_t nx _ q1 y, y] at z; cases z
    · exact Bool.eq_false_iff.2 y
  generalize stw nx (sbyt.getD 3 []) q1 = q2 at *
  obtain ⟨A5, e5, w5, z5, l5⟩ := e_num10 hA4 hn z4 l4
  have hA5 := hA4.wr w5 (fun k s z => Or.inr z)
  obtain ⟨B5, g5, x5, y5, -⟩ := e_num11 hB4 hn y4' l4
  have hB5 := hB4.wr x5 (fun k s q => by unfold Tat at q; omega)
  have wa6 : Wr (Sra r) A5 (wI A5 (7 + 4 * r) 5 (nI (nmv nx q2).1)) := (Wr.rf _ _).wI (by unfold Sra; omega)
  have hA6 := hA5.wr wa6 o
  have z6 : TSA (wI A5 (7 + 4 * r) 5 (nI (nmv nx q2).1)) (nmv nx q2).2 := ⟨by rw [rI_wI, if_neg (by omega)]; exact z5.1, by rw [rI_wI, if_neg (by omega)]; exact z5.2⟩
  have wb6 : Wr (Tra r) B5 (wI B5 199 r (nI (nmv nx q2).1)) := (Wr.rf _ _).wI (by unfold Tra; omega)
  have hB6 := hB5.wr wb6 o'
  have y6 : TSB (wI B5 199 r (nI (nmv nx q2).1)) (nmv nx q2).2 := ⟨by rw [rI_wI, if_neg (by omega)]; exact y5.1, by rw [rI_wI, if_neg (by omega)]; exact y5.2⟩
  have sA4 := hA4.1
  have sA5 := hA5.1
  have sB4 := hB4.1
  have sB5 := hB5.1
  have kz_v : (nmv nx q2).2.2 = false → kzv (nx (0, false).1) = kyv (nx (0, false).1) := fun z => (kk2 (qs (by
    by_cases y : q2.2 = true
    · rw [nmv_t q2 y] at z; exact z
    · exact Bool.eq_false_iff.2 y))).symm
  have sm : ∀ {k s : Nat}, Sat k s → Sra r k s := fun z => Or.inl z
  have tm : ∀ {k s : Nat}, Tat k s → Tra r k s := fun z => by unfold Tat at z; unfold Tra; omega
  have WA : Wr (Sra r) A (wI A5 (7 + 4 * r) 5 (nI (nmv nx q2).1)) := ((((wa1.tr (w2.mono (fun _ _ z => sm z))).tr wa3).tr (w4.mono (fun _ _ z => sm z))).tr (w5.mono (fun _ _ z => sm z))).tr wa6
  have WB : Wr (Tra r) B (wI B5 199 r (nI (nmv nx q2).1)) := ((((wb1.tr (x2.mono (fun _ _ z => tm z))).tr wb3).tr (x4.mono (fun _ _ z => tm z))).tr (x5.mono (fun _ _ z => tm z))).tr wb6
  have EA : s_m5_readFrom (7 + 4 * r) 59 A = s_m5_readFrom_31 FU (7 + 4 * r) 59 (wI A5 (7 + 4 * r) 5 (nI (nmv nx q2).1)) := by
    simp only [s_m5_readFrom, gI, gL, gR, pI, pZ, pL, pR, aI, aR, sI, sR, al, dz, rz, cl, cp, tL, tC, has_sh, hs_1, hs_2, hs_3, hs_4, hs_5, hs_6, hs_47, hs_48, hs_49, hs_50, hs_51, hs_52, hs_54, hs_55, hs_56, hs_57, hs_58, hs_59, hs_60, hs_61, hs_62, hs_63, hs_184, hs_185, hs_186, hs_187, hs_188, hs_189, hs_190, hs_191, hs_192, hs_193, hs_194, hs_195, hs_196, hs_197, hs_198, hs_199, hs_200, hs_201, hs_202, hs_203, hs_204, hs_205, hs_206, hs_207, hs_208, hs_209, hs_210, hs_211, hs_212, hs_213, hs_214, hs_215, hs_216, hs_217, hs_218, hs_219, hs_220, hs_221, hs_222, hs_223, hs_224, hs_ru, hs_ru0, hs_ru1, hs_ru2, hs_wi, hs_wi0, hs_wi1, hs_wi2, hs_pi, hs_pi0, hs_pa, hs_pa0, tb_2, tb_3, tb_4, tb_6, tb_48, tb_49, tb_51, tb_52, tb_54, tb_55, tb_57, tb_58, tb_60, tb_62, tb_63, tb_185, tb_186, tb_187, tb_188, tb_189, tb_190, tb_191, tb_192, tb_193, tb_194, tb_195, tb_196, tb_197, tb_198, tb_199, tb_200, tb_201, tb_202, tb_203, tb_204, tb_205, tb_206, tb_207, tb_208, tb_209, tb_210, tb_211, tb_212, tb_213, tb_214, tb_215, tb_216, tb_217, tb_218, tb_219, tb_220, tb_221, tb_222, tb_223, tb_224, tb_ru0, tb_ru1, tb_ru2, tb_wi0, tb_wi1, tb_wi2, tb_pi0, tb_pa0, sr1_0, sr1_1, sr1_2, sr1_3, sr1_4, sr1_5, sr1_6, sr1_7, sr1_8, sr1_9, sr5_0, sr47_0, sr47_1, sr50_0, sr50_1, sr50_3, sr50_4, sr56_0, sr56_1, sr59_0, sr61_0, sr184_1, sr184_3, sr184_4, sr184_5, sr184_7, sr184_8, sr184_9, sr184_10, sr184_11, sr184_12, sr184_13, sr184_14, sr184_16, sr184_18, sr184_19, sr184_20, sr184_21, sr184_22, sr184_23, sr184_24, sr184_25, sr184_27, sr184_32, sr184_33, sr184_34, sr184_35, sr184_36, sr184_37, sr184_38, sr184_40, sr184_41, sr184_44, sr184_45, sr184_50, sr184_51, sr184_52, sr184_53, sr184_54, sr184_55, sr184_57, sr2, sr3, sr4, sr6, srru0, srru1, srru2, srwi0, srwi1, srwi2, srpi0, srpa0, Sh_wI, Sh_wL, Sh_wC, if_true, zb_0, zb_1, Option.bind_some, has_wI, has_wL, has_wC, rR_wI, rR_wL, rR_wC, hA0, eA0, hr, eqA, e2, sA1, sA2, e4, sA4, e5, sA5]
  have b30 : rI B2 184 30 = nI r := by rw [x2.2.2 _ _ (by unfold Tat; omega)]; exact u30
  have c30 : rI B4 184 30 = nI r := by rw [x4.2.2 _ _ (by unfold Tat; omega), rI_wI, if_neg (by omega)]; exact b30
  have EB : s_m11_readRule 184 B = s_m11_readRule_60 FU 184 (wI B5 199 r (nI (nmv nx q2).1)) := by
    simp only [s_m11_readRule, gI, gL, gR, pI, pZ, pL, pR, aI, aR, sI, sR, al, dz, rz, cl, cp, tL, tC, has_sh, hs_1, hs_2, hs_3, hs_4, hs_5, hs_6, hs_47, hs_48, hs_49, hs_50, hs_51, hs_52, hs_54, hs_55, hs_56, hs_57, hs_58, hs_59, hs_60, hs_61, hs_62, hs_63, hs_184, hs_185, hs_186, hs_187, hs_188, hs_189, hs_190, hs_191, hs_192, hs_193, hs_194, hs_195, hs_196, hs_197, hs_198, hs_199, hs_200, hs_201, hs_202, hs_203, hs_204, hs_205, hs_206, hs_207, hs_208, hs_209, hs_210, hs_211, hs_212, hs_213, hs_214, hs_215, hs_216, hs_217, hs_218, hs_219, hs_220, hs_221, hs_222, hs_223, hs_224, hs_ru, hs_ru0, hs_ru1, hs_ru2, hs_wi, hs_wi0, hs_wi1, hs_wi2, hs_pi, hs_pi0, hs_pa, hs_pa0, tb_2, tb_3, tb_4, tb_6, tb_48, tb_49, tb_51, tb_52, tb_54, tb_55, tb_57, tb_58, tb_60, tb_62, tb_63, tb_185, tb_186, tb_187, tb_188, tb_189, tb_190, tb_191, tb_192, tb_193, tb_194, tb_195, tb_196, tb_197, tb_198, tb_199, tb_200, tb_201, tb_202, tb_203, tb_204, tb_205, tb_206, tb_207, tb_208, tb_209, tb_210, tb_211, tb_212, tb_213, tb_214, tb_215, tb_216, tb_217, tb_218, tb_219, tb_220, tb_221, tb_222, tb_223, tb_224, tb_ru0, tb_ru1, tb_ru2, tb_wi0, tb_wi1, tb_wi2, tb_pi0, tb_pa0, sr1_0, sr1_1, sr1_2, sr1_3, sr1_4, sr1_5, sr1_6, sr1_7, sr1_8, sr1_9, sr5_0, sr47_0, sr47_1, sr50_0, sr50_1, sr50_3, sr50_4, sr56_0, sr56_1, sr59_0, sr61_0, sr184_1, sr184_3, sr184_4, sr184_5, sr184_7, sr184_8, sr184_9, sr184_10, sr184_11, sr184_12, sr184_13, sr184_14, sr184_16, sr184_18, sr184_19, sr184_20, sr184_21, sr184_22, sr184_23, sr184_24, sr184_25, sr184_27, sr184_32, sr184_33, sr184_34, sr184_35, sr184_36, sr184_37, sr184_38, sr184_40, sr184_41, sr184_44, sr184_45, sr184_50, sr184_51, sr184_52, sr184_53, sr184_54, sr184_55, sr184_57, sr2, sr3, sr4, sr6, srru0, srru1, srru2, srwi0, srwi1, srwi2, srpi0, srpa0, Sh_wI, Sh_wL, Sh_wC, if_true, zb_0, zb_1, Option.bind_some, has_wI, has_wL, has_wC, rR_wI, rR_wL, rR_wC, hB0, v17, v30, i1, i2, eqB, g2, sB1, sB2, u30, b30, g4, sB4, c30, g5, sB5]
  have t6 : rI (wI A5 (7 + 4 * r) 5 (nI (nmv nx q2).1)) (7 + 4 * r) 3 = nI 0 := by
    rw [rI_wI, if_neg (by omega), w5.2.2 _ _ (by unfold Sat; omega), w4.2.2 _ _ (by unfold Sat; omega), rI_wI, if_neg (by omega), w2.2.2 _ _ (by unfold Sat; omega)]; exact t30
  by_cases f : (nmv nx q2).2.2 = true
  · have g29 : rI (wI B5 199 r (nI (nmv nx q2).1)) 184 29 = 1 := by rw [y6.2, if_pos f]
    refine ⟨_, _, WA, WB, ?_, Or.inl ⟨(nmv nx q2).2.1, l5, ?_, y6.1, g29⟩⟩
    · rw [EB]; exact e_60f hB6.1 g29 4999
    · rw [EA]; exact e_31f hA6 z6 l5 f hr t6 4999
  · have f' : (nmv nx q2).2.2 = false := Bool.eq_false_iff.2 f
    obtain ⟨A', B', u1, u2, u3, u4⟩ := rd_loop hn hr 3 0 FU FU _ _ _ (by omega) (by omega) (by omega) hA6 hB6 z6 y6 f' l5 t6 (by
      rw [rI_wI, if_neg (by omega), x5.2.2 _ _ (by unfold Tat; omega), x4.2.2 _ _ (by unfold Tat; omega), rI_wI, if_neg (by omega), x2.2.2 _ _ (by unfold Tat; omega)]; exact u202) (by
      rw [rI_wI, if_neg (by omega), x5.2.2 _ _ (by unfold Tat; omega)]; exact c30) (fun j hj => by omega)
    have ws : Wr (Sra r) (wI A5 (7 + 4 * r) 5 (nI (nmv nx q2).1)) A' := u1.mono (fun k s z => by unfold Srd Sat at z; unfold Sra Sat; omega)
    have wt : Wr (Tra r) (wI B5 199 r (nI (nmv nx q2).1)) B' := u2.mono (fun k s z => by unfold Trd Tat at z; unfold Tra; omega)
    refine ⟨A', B', WA.tr ws, WB.tr wt, by rw [EB]; exact u3, ?_⟩
    rw [EA]
    rcases u4 with u4 | ⟨u5, u6, u, u7, u8, u9, u10⟩
    · exact Or.inl u4
    · obtain ⟨kn, kn2, ek⟩ := kyv_2 (nx (0, false).1)
      refine Or.inr ⟨u5, u6, u, kn, (nmv nx q2).1, u7, kn2, nmv_b q2, u8, u9, u10, ?_, ?_, ?_, ?_⟩
      · rw [u1.2.2 _ _ (by unfold Srd Sat; omega), rI_wI, if_neg (by omega), w5.2.2 _ _ (by unfold Sat; omega), w4.2.2 _ _ (by unfold Sat; omega), rI_wI, if_pos ⟨rfl, rfl⟩]; exact ek
      · rw [u2.2.2 _ _ (by unfold Trd Tat; omega), rI_wI, if_neg (by omega), x5.2.2 _ _ (by unfold Tat; omega), x4.2.2 _ _ (by unfold Tat; omega), rI_wI, if_pos ⟨rfl, rfl⟩]; exact (kz_v f').trans ek
      · rw [u1.2.2 _ _ (by unfold Srd Sat; omega), rI_wI, if_pos ⟨rfl, rfl⟩]
      · rw [u2.2.2 _ _ (by unfold Trd Tat; omega), rI_wI, if_pos ⟨rfl, rfl⟩]
theorem Rok.kp {M M' : Mm} {r : Nat} (h : Rok M r) (c : ∀ s, 3 ≤ s → rI M' (7 + 4 * r) s = rI M (7 + 4 * r) s) (c2 : ∀ k j, k < 3 → j < 3 → rI M' (8 + 4 * r + k) j = rI M (8 + 4 * r + k) j) (m : ∀ k, 198 ≤ k → k ≤ 202 → rI M' k r = rI M k r) (m2 : ∀ k j, 203 ≤ k → k ≤ 205 → j < 3 → rI M' k (3 * r + j) = rI M k (3 * r + j)) : Rok M' r := by
  obtain ⟨h1, k, n, q, h2, h3, h4, h5, h6, h7, h8⟩ := h
  refine ⟨by rw [c 4 (by omega), c 5 (by omega), c 6 (by omega), c 7 (by omega), c 3 (by omega), m 198 (by omega) (by omega), m 199 (by omega) (by omega), m 200 (by omega) (by omega), m 201 (by omega) (by omega), m 202 (by omega) (by omega)]; exact h1, k, n, q, ?_⟩
  rw [m 198 (by omega) (by omega), m 199 (by omega) (by omega), m 202 (by omega) (by omega)]
  refine ⟨h2, h3, h4, h5, h6, h7, fun j hj => ?_⟩
  have a0 := c2 0 j (by omega) (by omega)
  have a1 := c2 1 j (by omega) (by omega)
  have a2 := c2 2 j (by omega) (by omega)
  rw [show 9 + 4 * r = 8 + 4 * r + 1 by omega, show 10 + 4 * r = 8 + 4 * r + 2 by omega, a1, a2, m2 203 j (by omega) (by omega) (by omega), m2 204 j (by omega) (by omega) (by omega), m2 205 j (by omega) (by omega) (by omega)]
  have b := h8 j hj
  rw [show 9 + 4 * r = 8 + 4 * r + 1 by omega, show 10 + 4 * r = 8 + 4 * r + 2 by omega] at b
  exact ⟨a0.trans b.1, b.2⟩
theorem Inv.down {M : Mm} (h : Inv (c + 1) M) (ht : nTk M ≤ 500 * c) : Inv c M := by
  obtain ⟨h0, h1, hr⟩ := h
  refine ⟨h0, ?_, hr⟩
  obtain ⟨a1, a2, a3, a4, a5⟩ := h1
  exact ⟨a1, a2, a3, ⟨a4.1, a4.2.1, ht⟩, a5⟩
/-- by way of other memories -/
theorem At.via {A' B' : Mm} {f g : Mm → Option (Int32 × Mm)} (fa : Fa A A') (fb : Fb B B') (h : At c A' B' (fun _ => f A) (fun _ => g B)) : At c A B f g := by
  obtain ⟨r, A2, B2, e1, e2, e3, e4, e5, e6⟩ := h
  exact ⟨r, A2, B2, e1, e2, e3, e4, fa.tr e5, fb.tr e6⟩
/-- after a reading all goes on as before -/
theorem Inv.read (h : Inv c (mg A B)) (hB : Sh B) {A' B' : Mm} (ha : Wr (Sra (nQ B)) A A') (hb : Wr (Tra (nQ B)) B B') (h10 : nQ B < 10) : Inv c (mg A' B') ∧ Sh B' ∧ Fa A A' ∧ Fb B B' := by
  have hM := mg_wr ha hb
  generalize eq : nQ B = r at *
  refine ⟨Inv.down ?_ ?_, hb.sh hB, ha.fa (fun k s q => by unfold Sra Sat at q; omega), hb.fb (fun k s q => by unfold Tra at q; omega)⟩
  · refine h.keep (ha.sh h.shA) _ hM (Or.inl ?_) (Or.inl ?_) (Or.inl ?_) (Or.inl ?_) (Or.inl ?_) (Or.inl ?_) (Or.inr ?_) (Or.inl ?_) (Or.inl ?_) (Or.inl ?_) (Or.inl ?_)
    · intro k s; unfold Lcnt Sra Tra Sat; omega
    · intro k s; unfold Lref Sra Tra Sat; omega
    · intro k s; unfold Lwir Sra Tra Sat; omega
    · intro k s; unfold Lpie Sra Tra Sat; omega
    · intro k s; unfold Lrow Sra Tra Sat; omega
    · intro k s; unfold Ltap Sra Tra Sat; omega
    · intro r' hr'
      have nq' : nQ B' = nQ B := nQ_eq (hb.2.2 184 17 (by unfold Tra; omega))
      have hr2 : r' < r := by rw [← eq, ← nq']; exact hr'
      refine Rok.kp (h.2.2.2.2.2.2.2.1 r' (show r' < nQ B by omega)) (fun s _ => (hM _ s (by unfold Sra Tra Sat; omega)).1) (fun k j _ _ => (hM _ _ (by unfold Sra Tra Sat; omega)).1) (fun k _ _ => (hM _ _ (by unfold Sra Tra Sat; omega)).1) (fun k j _ _ _ => (hM _ _ (by unfold Sra Tra Sat; omega)).1)
    · intro k s; unfold Lgar Sra Tra Sat; omega
    · intro k s; unfold Lsin Sra Tra Sat; omega
    · intro k s; unfold Lfil Sra Tra Sat; omega
    · intro k s; unfold Ledi Sra Tra Sat; omega
  · have : nTk B' = nTk B := nTk_eq (hb.2.2 184 31 (by unfold Tra; omega))
    show nTk B' ≤ 500 * c
    have := h.tle
    omega
end RDA
