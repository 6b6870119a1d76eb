/-! LAYER 2: run: a word is heard, what holds then -/
section HES
variable {c : Nat} {A B : Mm}
theorem Fok.mk' {w F : Nat} {Q : List Nat} (hw : w < 6) (g1 : F ≤ nP B) (g2 : rI B 207 w = nI F) (g3 : ∀ k, k < F → ∃ p, p < nP B ∧ rI B 208 (40 * w + k) = nI p ∧ rI B 209 (40 * w + p) = nI k)
    (g4 : ∀ p, p < nP B → (rI B 209 (40 * w + p) = -1 ∧ rI A (66 + 4 * w) p = -1 ∧ rI A (67 + 4 * w) p = -1) ∨
      (∃ k h z, k < F ∧ rI B 208 (40 * w + k) = nI p ∧ rI B 209 (40 * w + p) = nI k ∧ rI B 210 (40 * w + p) = nI h ∧ rI A (66 + 4 * w) p = nI h ∧ rI A (67 + 4 * w) p = rI B 211 (40 * w + p) ∧ rI B 193 p = nI z ∧ z ≤ 12 ∧ ((rI B 211 (40 * w + p) = -1 ∧ h < z) ∨ (0 ≤ rI B 211 (40 * w + p) ∧ h = z))))
    (g5 : ∀ p, nP B ≤ p → p < 40 → rI A (66 + 4 * w) p = -1 ∧ rI A (67 + 4 * w) p = -1) (eQ : Qr B w 0 F = Q) (g6 : rI A (64 + 4 * w) 3 = nI Q.length) (g7 : Q.length ≤ 12) (g8 : ∀ i, i < Q.length → rI A (65 + 4 * w) i = nI (Q.getD i 0)) : Fok (mg A B) w := by
  have eQl : Ql (mg A B) w F = Q := by
    rw [← eQ, ← Qm_r]
    unfold Ql Qm
    simp (disch := omega) only [mg_hi]
  unfold Fok
  refine ⟨F, g1, ?_, fun k hk => ?_, fun q hq => ?_, fun q q1 q2 => ?_, ?_, ?_, fun i hi => ?_⟩
  · simp (disch := omega) only [mg_hi]; exact g2
  · simp (disch := omega) only [mg_hi]; exact g3 k hk
  · simp (disch := omega) only [mg_hi, mg_lo]; exact g4 q hq
  · simp (disch := omega) only [mg_lo]; exact g5 q q1 q2
  · rw [eQl]; simp (disch := omega) only [mg_lo]; exact g6
  · rw [eQl]; exact g7
  · rw [eQl] at hi ⊢; simp (disch := omega) only [mg_lo]; exact g8 i hi
theorem e_hear (h : Inv c (mg A B)) (hB : Sh B) {w F pl p : Nat} (hw : w < nW B) (hF : Fm B w F) (hpl : (Qr B w 0 F)[pl]? = some p) : ∃ A' B', s_m10_hearWord 1 (64 + 4 * w) (nI pl) A = some ((), A') ∧ s_m11_hear 184 (nI w) (nI p) B = some ((), B') ∧ Inv c (mg A' B') ∧ Wr SR A A' ∧ Wr TR B B' := by
  have hA := h.shA
  have hwle := h.wle
  have hP := h.ple
  have fu : FU = 5000 := rfl
  obtain ⟨F', f1, f2, f3, f4, f5, f6, f7, f8⟩ := h.fk hw
  have eF : F' = F := (nI_eq (by omega) (by have := hF.2.1; omega)).1 (f2.symm.trans hF.1)
  subst eF
  rw [Qm_r] at f6 f7 f8
  have hmem : p ∈ Qr B w 0 F' := List.mem_of_getElem? hpl
  obtain ⟨hd, K, -, hK, hfl⟩ := Qr_mem hmem
  rw [Nat.zero_add] at hK
  have hp : p < nP B := by
    obtain ⟨p', q1, q2, -⟩ := f3 K hK
    have : fl B w K = p' := by unfold fl; rw [q2, nI_clamp (by omega)]
    omega
  have h9 := (hF.fl hK).2.2
  rw [← hfl] at h9
  obtain ⟨e, eF, eQ, na, nb⟩ := Qr_spl hF hK hfl.symm hd
  rcases f4 p hp with ⟨q9, -⟩ | ⟨k, hh, z, k1, k2, k3, k4, k5, k6, k7, k8, k9⟩
  · rw [h9] at q9; exact absurd q9 (ne_m1 (by omega))
  have ek : k = K := (nI_eq (by omega) (by omega)).1 (k3.symm.trans h9)
  subst ek
  have hz : hh < z := by
    rcases k9 with q | q
    · exact q.2
    · rw [hd] at q; exact absurd q.1 (by decide)
  have epl : pl = (Qr B w 0 k).length := at_len (by rw [← eQ]; exact hpl) na nb
  have hpll : pl < (Qr B w 0 F').length := (List.getElem?_eq_some_iff.1 hpl).1
  have q5 : rI A (65 + 4 * w) pl = nI p := by rw [f8 pl hpll]; simp [List.getD, hpl]
  have w6 : w < 6 := by omega
  have p40 : p < 40 := by omega
  have i1 : inb (nI pl) 12 = true := inb_nI (by omega) (by omega)
  have i2 := nI_clamp (show pl < 2 ^ 31 by omega)
  have i3 : inb (nI p) 40 = true := inb_nI p40 (by omega)
  have i4 := nI_clamp (show p < 2 ^ 31 by omega)
  have j1 : (40 : Int32) * nI w + nI p = nI (40 * w + p) := by rw [show (40 : Int32) = nI 40 from rfl, pk_mul, nI_add]
  have i5 : inb (nI (40 * w + p)) 240 = true := inb_nI (by omega) (by omega)
  have i6 := nI_clamp (show 40 * w + p < 2 ^ 31 by omega)
  have hc := h.hc
  obtain ⟨pk1, pk2, pk3, pk4, pk5, pk6, pk7⟩ := h.pk hp
  rw [k7] at pk5
  -- the first writes
  have wa1 : Wr (fun k s => (k = 1 ∧ s = 14) ∨ (k = 66 + 4 * w ∧ s = p)) A (wI (wI A 1 14 (rI B 184 43 + 1)) (66 + 4 * w) p (nI (hh + 1))) := ((Wr.rf _ _).wI (Or.inl ⟨rfl, rfl⟩)).wI (Or.inr ⟨rfl, rfl⟩)
  have wb1 : Wr (fun k s => (k = 184 ∧ s = 43) ∨ (k = 210 ∧ s = 40 * w + p)) B (wI (wI B 184 43 (rI B 184 43 + 1)) 210 (40 * w + p) (nI (hh + 1))) := ((Wr.rf _ _).wI (Or.inl ⟨rfl, rfl⟩)).wI (Or.inr ⟨rfl, rfl⟩)
  have r1 : rI (wI A 1 14 (rI B 184 43 + 1)) (66 + 4 * w) p = nI hh := by rw [rI_wI, if_neg (by omega)]; exact k5
  have r2 : rI (wI (wI A 1 14 (rI B 184 43 + 1)) (66 + 4 * w) p (nI (hh + 1))) (66 + 4 * w) p = nI (hh + 1) := by simp [rI_wI]
  have r3 : rI (wI (wI A 1 14 (rI B 184 43 + 1)) (66 + 4 * w) p (nI (hh + 1))) (88 + 2 * p) 5 = nI z := by rw [wa1.2.2 _ _ (by omega)]; exact pk5
  have u1 : rI (wI B 184 43 (rI B 184 43 + 1)) 210 (40 * w + p) = nI hh := by rw [rI_wI, if_neg (by omega)]; exact k4
  have u2 : rI (wI (wI B 184 43 (rI B 184 43 + 1)) 210 (40 * w + p) (nI (hh + 1))) 210 (40 * w + p) = nI (hh + 1) := by simp [rI_wI]
  have u3 : rI (wI (wI B 184 43 (rI B 184 43 + 1)) 210 (40 * w + p) (nI (hh + 1))) 193 p = nI z := by rw [wb1.2.2 _ _ (by omega)]; exact k7
  have g14 : rI (wI (wI A 1 14 (rI B 184 43 + 1)) (66 + 4 * w) p (nI (hh + 1))) 1 14 = rI B 184 43 + 1 := by rw [rI_wI, if_neg (by omega)]; simp [rI_wI]
  have g43 : rI (wI (wI B 184 43 (rI B 184 43 + 1)) 210 (40 * w + p) (nI (hh + 1))) 184 43 = rI B 184 43 + 1 := by rw [rI_wI, if_neg (by omega)]; simp [rI_wI]
  have x10 : s_m10_hearWord 1 (64 + 4 * w) (nI pl) A = s_m10_hearWord_59 FU 1 (64 + 4 * w) (nI pl) (nI p) (88 + 2 * p) (if hh + 1 = z then 1 else 0) (nI 0) (wI (wI A 1 14 (rI B 184 43 + 1)) (66 + 4 * w) p (nI (hh + 1))) := by
    by_cases q : hh + 1 = z
    · have lt : ¬ nI (hh + 1) < nI z := nI_nlt (by omega) (by omega)
      rw [if_pos q, nI_0]
      simp only [s_m10_hearWord, s_m10_hearWord_54, gI, gL, gR, pI, pZ, pL, pR, aI, aR, sI, sR, al, dz, rz, cl, cp, tL, tC, has_sh, hs_1, hs_2, hs_3, hs_4, hs_5, hs_6, hs_47, hs_48, hs_49, hs_50, hs_51, hs_52, hs_54, hs_55, hs_56, hs_57, hs_58, hs_59, hs_60, hs_61, hs_62, hs_63, hs_184, hs_185, hs_186, hs_187, hs_188, hs_189, hs_190, hs_191, hs_192, hs_193, hs_194, hs_195, hs_196, hs_197, hs_198, hs_199, hs_200, hs_201, hs_202, hs_203, hs_204, hs_205, hs_206, hs_207, hs_208, hs_209, hs_210, hs_211, hs_212, hs_213, hs_214, hs_215, hs_216, hs_217, hs_218, hs_219, hs_220, hs_221, hs_222, hs_223, hs_224, hs_ru, hs_ru0, hs_ru1, hs_ru2, hs_wi, hs_wi0, hs_wi1, hs_wi2, hs_pi, hs_pi0, hs_pa, hs_pa0, tb_2, tb_3, tb_4, tb_6, tb_48, tb_49, tb_51, tb_52, tb_54, tb_55, tb_57, tb_58, tb_60, tb_62, tb_63, tb_185, tb_186, tb_187, tb_188, tb_189, tb_190, tb_191, tb_192, tb_193, tb_194, tb_195, tb_196, tb_197, tb_198, tb_199, tb_200, tb_201, tb_202, tb_203, tb_204, tb_205, tb_206, tb_207, tb_208, tb_209, tb_210, tb_211, tb_212, tb_213, tb_214, tb_215, tb_216, tb_217, tb_218, tb_219, tb_220, tb_221, tb_222, tb_223, tb_224, tb_ru0, tb_ru1, tb_ru2, tb_wi0, tb_wi1, tb_wi2, tb_pi0, tb_pa0, sr1_0, sr1_1, sr1_2, sr1_3, sr1_4, sr1_5, sr1_6, sr1_7, sr1_8, sr1_9, sr5_0, sr47_0, sr47_1, sr50_0, sr50_1, sr50_3, sr50_4, sr56_0, sr56_1, sr59_0, sr61_0, sr184_1, sr184_3, sr184_4, sr184_5, sr184_7, sr184_8, sr184_9, sr184_10, sr184_11, sr184_12, sr184_13, sr184_14, sr184_16, sr184_18, sr184_19, sr184_20, sr184_21, sr184_22, sr184_23, sr184_24, sr184_25, sr184_27, sr184_32, sr184_33, sr184_34, sr184_35, sr184_36, sr184_37, sr184_38, sr184_40, sr184_41, sr184_44, sr184_45, sr184_50, sr184_51, sr184_52, sr184_53, sr184_54, sr184_55, sr184_57, sr2, sr3, sr4, sr6, srru0, srru1, srru2, srwi0, srwi1, srwi2, srpi0, srpa0, Sh_wI, Sh_wL, Sh_wC, if_true, zb_0, zb_1, Option.bind_some, has_wI, has_wL, has_wC, rR_wI, rR_wL, rR_wC, hA, w6, i1, i2, q5, i3, i4, p40, hc, r1, nI_1, r2, r3, lt, if_false]
    · have lt : nI (hh + 1) < nI z := nI_lt (by omega) (by omega)
      rw [if_neg q, nI_0]
      simp only [s_m10_hearWord, s_m10_hearWord_54, gI, gL, gR, pI, pZ, pL, pR, aI, aR, sI, sR, al, dz, rz, cl, cp, tL, tC, has_sh, hs_1, hs_2, hs_3, hs_4, hs_5, hs_6, hs_47, hs_48, hs_49, hs_50, hs_51, hs_52, hs_54, hs_55, hs_56, hs_57, hs_58, hs_59, hs_60, hs_61, hs_62, hs_63, hs_184, hs_185, hs_186, hs_187, hs_188, hs_189, hs_190, hs_191, hs_192, hs_193, hs_194, hs_195, hs_196, hs_197, hs_198, hs_199, hs_200, hs_201, hs_202, hs_203, hs_204, hs_205, hs_206, hs_207, hs_208, hs_209, hs_210, hs_211, hs_212, hs_213, hs_214, hs_215, hs_216, hs_217, hs_218, hs_219, hs_220, hs_221, hs_222, hs_223, hs_224, hs_ru, hs_ru0, hs_ru1, hs_ru2, hs_wi, hs_wi0, hs_wi1, hs_wi2, hs_pi, hs_pi0, hs_pa, hs_pa0, tb_2, tb_3, tb_4, tb_6, tb_48, tb_49, tb_51, tb_52, tb_54, tb_55, tb_57, tb_58, tb_60, tb_62, tb_63, tb_185, tb_186, tb_187, tb_188, tb_189, tb_190, tb_191, tb_192, tb_193, tb_194, tb_195, tb_196, tb_197, tb_198, tb_199, tb_200, tb_201, tb_202, tb_203, tb_204, tb_205, tb_206, tb_207, tb_208, tb_209, tb_210, tb_211, tb_212, tb_213, tb_214, tb_215, tb_216, tb_217, tb_218, tb_219, tb_220, tb_221, tb_222, tb_223, tb_224, tb_ru0, tb_ru1, tb_ru2, tb_wi0, tb_wi1, tb_wi2, tb_pi0, tb_pa0, sr1_0, sr1_1, sr1_2, sr1_3, sr1_4, sr1_5, sr1_6, sr1_7, sr1_8, sr1_9, sr5_0, sr47_0, sr47_1, sr50_0, sr50_1, sr50_3, sr50_4, sr56_0, sr56_1, sr59_0, sr61_0, sr184_1, sr184_3, sr184_4, sr184_5, sr184_7, sr184_8, sr184_9, sr184_10, sr184_11, sr184_12, sr184_13, sr184_14, sr184_16, sr184_18, sr184_19, sr184_20, sr184_21, sr184_22, sr184_23, sr184_24, sr184_25, sr184_27, sr184_32, sr184_33, sr184_34, sr184_35, sr184_36, sr184_37, sr184_38, sr184_40, sr184_41, sr184_44, sr184_45, sr184_50, sr184_51, sr184_52, sr184_53, sr184_54, sr184_55, sr184_57, sr2, sr3, sr4, sr6, srru0, srru1, srru2, srwi0, srwi1, srwi2, srpi0, srpa0, Sh_wI, Sh_wL, Sh_wC, if_true, zb_0, zb_1, Option.bind_some, has_wI, has_wL, has_wC, rR_wI, rR_wL, rR_wC, hA, w6, i1, i2, q5, i3, i4, p40, hc, r1, nI_1, r2, r3, lt]
  have x11 : s_m11_hear 184 (nI w) (nI p) B = s_m11_hear_52 FU 184 (nI w) (nI p) (nI (40 * w + p)) (if hh + 1 = z then 1 else 0) (nI 0) (wI (wI B 184 43 (rI B 184 43 + 1)) 210 (40 * w + p) (nI (hh + 1))) := by
    by_cases q : hh + 1 = z
    · have eq : nI (hh + 1) = nI z := by rw [q]
      rw [if_pos q, nI_0]
      simp only [s_m11_hear, s_m11_hear_47, gI, gL, gR, pI, pZ, pL, pR, aI, aR, sI, sR, al, dz, rz, cl, cp, tL, tC, has_sh, hs_1, hs_2, hs_3, hs_4, hs_5, hs_6, hs_47, hs_48, hs_49, hs_50, hs_51, hs_52, hs_54, hs_55, hs_56, hs_57, hs_58, hs_59, hs_60, hs_61, hs_62, hs_63, hs_184, hs_185, hs_186, hs_187, hs_188, hs_189, hs_190, hs_191, hs_192, hs_193, hs_194, hs_195, hs_196, hs_197, hs_198, hs_199, hs_200, hs_201, hs_202, hs_203, hs_204, hs_205, hs_206, hs_207, hs_208, hs_209, hs_210, hs_211, hs_212, hs_213, hs_214, hs_215, hs_216, hs_217, hs_218, hs_219, hs_220, hs_221, hs_222, hs_223, hs_224, hs_ru, hs_ru0, hs_ru1, hs_ru2, hs_wi, hs_wi0, hs_wi1, hs_wi2, hs_pi, hs_pi0, hs_pa, hs_pa0, tb_2, tb_3, tb_4, tb_6, tb_48, tb_49, tb_51, tb_52, tb_54, tb_55, tb_57, tb_58, tb_60, tb_62, tb_63, tb_185, tb_186, tb_187, tb_188, tb_189, tb_190, tb_191, tb_192, tb_193, tb_194, tb_195, tb_196, tb_197, tb_198, tb_199, tb_200, tb_201, tb_202, tb_203, tb_204, tb_205, tb_206, tb_207, tb_208, tb_209, tb_210, tb_211, tb_212, tb_213, tb_214, tb_215, tb_216, tb_217, tb_218, tb_219, tb_220, tb_221, tb_222, tb_223, tb_224, tb_ru0, tb_ru1, tb_ru2, tb_wi0, tb_wi1, tb_wi2, tb_pi0, tb_pa0, sr1_0, sr1_1, sr1_2, sr1_3, sr1_4, sr1_5, sr1_6, sr1_7, sr1_8, sr1_9, sr5_0, sr47_0, sr47_1, sr50_0, sr50_1, sr50_3, sr50_4, sr56_0, sr56_1, sr59_0, sr61_0, sr184_1, sr184_3, sr184_4, sr184_5, sr184_7, sr184_8, sr184_9, sr184_10, sr184_11, sr184_12, sr184_13, sr184_14, sr184_16, sr184_18, sr184_19, sr184_20, sr184_21, sr184_22, sr184_23, sr184_24, sr184_25, sr184_27, sr184_32, sr184_33, sr184_34, sr184_35, sr184_36, sr184_37, sr184_38, sr184_40, sr184_41, sr184_44, sr184_45, sr184_50, sr184_51, sr184_52, sr184_53, sr184_54, sr184_55, sr184_57, sr2, sr3, sr4, sr6, srru0, srru1, srru2, srwi0, srwi1, srwi2, srpi0, srpa0, Sh_wI, Sh_wL, Sh_wC, if_true, zb_0, zb_1, Option.bind_some, has_wI, has_wL, has_wC, rR_wI, rR_wL, rR_wC, hB, j1, i5, i6, i3, i4, u1, nI_1, u2, u3]
      rw [if_neg (fun n => n eq)]
    · have eq : ¬ nI (hh + 1) = nI z := fun e => q ((nI_eq (by omega) (by omega)).1 e)
      rw [if_neg q, nI_0]
      simp only [s_m11_hear, s_m11_hear_47, gI, gL, gR, pI, pZ, pL, pR, aI, aR, sI, sR, al, dz, rz, cl, cp, tL, tC, has_sh, hs_1, hs_2, hs_3, hs_4, hs_5, hs_6, hs_47, hs_48, hs_49, hs_50, hs_51, hs_52, hs_54, hs_55, hs_56, hs_57, hs_58, hs_59, hs_60, hs_61, hs_62, hs_63, hs_184, hs_185, hs_186, hs_187, hs_188, hs_189, hs_190, hs_191, hs_192, hs_193, hs_194, hs_195, hs_196, hs_197, hs_198, hs_199, hs_200, hs_201, hs_202, hs_203, hs_204, hs_205, hs_206, hs_207, hs_208, hs_209, hs_210, hs_211, hs_212, hs_213, hs_214, hs_215, hs_216, hs_217, hs_218, hs_219, hs_220, hs_221, hs_222, hs_223, hs_224, hs_ru, hs_ru0, hs_ru1, hs_ru2, hs_wi, hs_wi0, hs_wi1, hs_wi2, hs_pi, hs_pi0, hs_pa, hs_pa0, tb_2, tb_3, tb_4, tb_6, tb_48, tb_49, tb_51, tb_52, tb_54, tb_55, tb_57, tb_58, tb_60, tb_62, tb_63, tb_185, tb_186, tb_187, tb_188, tb_189, tb_190, tb_191, tb_192, tb_193, tb_194, tb_195, tb_196, tb_197, tb_198, tb_199, tb_200, tb_201, tb_202, tb_203, tb_204, tb_205, tb_206, tb_207, tb_208, tb_209, tb_210, tb_211, tb_212, tb_213, tb_214, tb_215, tb_216, tb_217, tb_218, tb_219, tb_220, tb_221, tb_222, tb_223, tb_224, tb_ru0, tb_ru1, tb_ru2, tb_wi0, tb_wi1, tb_wi2, tb_pi0, tb_pa0, sr1_0, sr1_1, sr1_2, sr1_3, sr1_4, sr1_5, sr1_6, sr1_7, sr1_8, sr1_9, sr5_0, sr47_0, sr47_1, sr50_0, sr50_1, sr50_3, sr50_4, sr56_0, sr56_1, sr59_0, sr61_0, sr184_1, sr184_3, sr184_4, sr184_5, sr184_7, sr184_8, sr184_9, sr184_10, sr184_11, sr184_12, sr184_13, sr184_14, sr184_16, sr184_18, sr184_19, sr184_20, sr184_21, sr184_22, sr184_23, sr184_24, sr184_25, sr184_27, sr184_32, sr184_33, sr184_34, sr184_35, sr184_36, sr184_37, sr184_38, sr184_40, sr184_41, sr184_44, sr184_45, sr184_50, sr184_51, sr184_52, sr184_53, sr184_54, sr184_55, sr184_57, sr2, sr3, sr4, sr6, srru0, srru1, srru2, srwi0, srwi1, srwi2, srpi0, srpa0, Sh_wI, Sh_wL, Sh_wC, if_true, zb_0, zb_1, Option.bind_some, has_wI, has_wL, has_wC, rR_wI, rR_wL, rR_wC, hB, j1, i5, i6, i3, i4, u1, nI_1, u2, u3, eq, not_false_eq_true]
  generalize eA1 : wI (wI A 1 14 (rI B 184 43 + 1)) (66 + 4 * w) p (nI (hh + 1)) = A1 at *
  generalize eB1 : wI (wI B 184 43 (rI B 184 43 + 1)) 210 (40 * w + p) (nI (hh + 1)) = B1 at *
  have hB1 := wb1.sh hB
  have hR1 : Rin A1 B1 := h.rin.wr wa1 wb1 (fun k s z => by omega) (fun k s z => by omega)
  have np1 : nP B1 = nP B := nP_eq (wb1.2.2 184 6 (by omega))
  have sn1 : Sn A1 B1 := fun a ha => by
    obtain ⟨s1, s2⟩ := h.sn ha
    refine ⟨by rw [wa1.2.2 _ _ (by omega), wb1.2.2 _ _ (by omega)]; exact s1, fun q hq => ?_⟩
    rw [np1] at hq
    rw [wa1.2.2 _ _ (by omega), wb1.2.2 _ _ (by omega)]
    exact (s2 q (by omega)).1 hq
  obtain ⟨⟨wk1, wk2, wk3⟩, -⟩ := h.wk hw
  have hx : (if hh + 1 = z then (1 : Int32) else 0) = 0 ∨ (if hh + 1 = z then (1 : Int32) else 0) = 1 := by
    by_cases q : hh + 1 = z
    · rw [if_pos q]; exact Or.inr rfl
    · rw [if_neg q]; exact Or.inl rfl
  obtain ⟨A2, B2, e1, e2, wa2, wb2, sn2⟩ := e_pap (p := p) w6 (nI pl) (nI (40 * w + p)) _ hx 8 0 FU FU A1 B1 (by omega) (by omega) (by omega) hR1 hB1 (by omega) (by rw [wa1.2.2 _ _ (by omega), wb1.2.2 _ _ (by omega)]; exact wk2) sn1
  rw [e1] at x10
  rw [e2] at x11
  have hA2 := wa2.sh (wa1.sh hA)
  have hB2 := wb2.sh hB1
  have t31 : rI B1 184 31 = rI B 184 31 := wb1.2.2 _ _ (by omega)
  rw [t31] at x10 x11
  have WA2 : Wr (fun k s => (k = 1 ∧ s = 14) ∨ (k = 66 + 4 * w ∧ s = p) ∨ Spap p k s) A A2 := (wa1.mono (fun k s z => by omega)).tr (wa2.mono (fun k s z => Or.inr (Or.inr z)))
  have WB2 : Wr (fun k s => (k = 184 ∧ s = 43) ∨ (k = 210 ∧ s = 40 * w + p) ∨ Tpap p k s) B B2 := (wb1.mono (fun k s z => by omega)).tr (wb2.mono (fun k s z => Or.inr (Or.inr z)))
  have v14 : rI A2 1 14 = rI B 184 43 + 1 := by rw [wa2.2.2 _ _ (by unfold Spap; omega)]; exact g14
  have v43 : rI B2 184 43 = rI B 184 43 + 1 := by rw [wb2.2.2 _ _ (by unfold Tpap; omega)]; exact g43
  have v66 : rI A2 (66 + 4 * w) p = nI (hh + 1) := by rw [wa2.2.2 _ _ (by unfold Spap; omega)]; exact r2
  have v210 : rI B2 210 (40 * w + p) = nI (hh + 1) := by rw [wb2.2.2 _ _ (by unfold Tpap; omega)]; exact u2
  -- what is common to both ends
  have fin : ∀ (A' B' : Mm) (t : Int32) (Q : List Nat) (h' : Nat), Wr (fun k s => (k = 64 + 4 * w ∧ s = 3) ∨ k = 65 + 4 * w ∨ (k = 67 + 4 * w ∧ s = p)) A2 A' → B' = wI B2 211 (40 * w + p) t → rI A' (67 + 4 * w) p = t → ((t = -1 ∧ hh + 1 < z) ∨ (0 ≤ t ∧ hh + 1 = z)) → Qr B' w 0 F' = Q → rI A' (64 + 4 * w) 3 = nI Q.length → Q.length ≤ 12 → (∀ i, i < Q.length → rI A' (65 + 4 * w) i = nI (Q.getD i 0)) → Inv c (mg A' B') ∧ Wr SR A A' ∧ Wr TR B B' := by
    intro A' B' t Q h' wa3 eB3 y67 yt yQ y3 y12 y5
    have wb3 : Wr (fun k s => k = 211 ∧ s = 40 * w + p) B2 B' := by rw [eB3]; exact (Wr.rf _ _).wI ⟨rfl, rfl⟩
    have WA : Wr (fun k s => (k = 1 ∧ s = 14) ∨ (k = 64 + 4 * w ∧ s = 3) ∨ k = 65 + 4 * w ∨ ((k = 66 + 4 * w ∨ k = 67 + 4 * w) ∧ s = p) ∨ Spap p k s) A A' := (WA2.mono (fun k s z => by unfold Spap at z ⊢; omega)).tr (wa3.mono (fun k s z => by omega))
    have WB : Wr (fun k s => (k = 184 ∧ s = 43) ∨ ((k = 210 ∨ k = 211) ∧ s = 40 * w + p) ∨ Tpap p k s) B B' := (WB2.mono (fun k s z => by unfold Tpap at z ⊢; omega)).tr (wb3.mono (fun k s z => by omega))
    have WA' : Wr SR A A' := WA.mono (fun k s z => by unfold Spap at z; unfold SR; omega)
    have WB' : Wr TR B B' := WB.mono (fun k s z => by unfold Tpap at z; unfold TR; omega)
    have ea := WA.2.2
    have eb := WB.2.2
    have hM := mg_wr WA WB
    have np' : nP B' = nP B := nP_eq (eb 184 6 (by unfold Tpap; omega))
    have np2 : nP B2 = nP B := nP_eq (WB2.2.2 184 6 (by unfold Tpap; omega))
    refine ⟨h.runs WA' WB' ?_ ?_ (fun a ha => ?_) (fun a q ha q1 q2 => ?_) (fun w' hw' => ?_) (fun w' q1 q2 => ?_), WA', WB'⟩
    · rw [ea 1 13 (by unfold Spap; omega), eb 184 42 (by unfold Tpap; omega)]; exact h.sc
    · rw [wa3.2.2 1 14 (by omega), wb3.2.2 184 43 (by omega), v14, v43]
    · refine ⟨by rw [wa3.2.2 _ _ (by omega), wb3.2.2 _ _ (by omega)]; exact (sn2 a ha).1, fun q hq => ?_⟩
      rw [wa3.2.2 _ _ (by omega), wb3.2.2 _ _ (by omega)]
      exact (sn2 a ha).2 q (by omega)
    · rw [ea _ _ (by unfold Spap; omega)]
      exact ((h.sn ha).2 q q2).2 q1
    · by_cases e : w' = w
      · subst e
        have m207 : ∀ s, rI B' 207 s = rI B 207 s := fun s => eb 207 s (by unfold Tpap; omega)
        have m208 : ∀ s, rI B' 208 s = rI B 208 s := fun s => eb 208 s (by unfold Tpap; omega)
        have m209 : ∀ s, rI B' 209 s = rI B 209 s := fun s => eb 209 s (by unfold Tpap; omega)
        have m193 : ∀ s, rI B' 193 s = rI B 193 s := fun s => eb 193 s (by unfold Tpap; omega)
        have z66 : rI A' (66 + 4 * w') p = nI (hh + 1) := by rw [wa3.2.2 _ _ (by omega)]; exact v66
        have z210 : rI B' 210 (40 * w' + p) = nI (hh + 1) := by rw [wb3.2.2 _ _ (by omega)]; exact v210
        have z211 : rI B' 211 (40 * w' + p) = t := by rw [eB3]; simp [rI_wI]
        refine Fok.mk' w6 (F := F') (by omega) (by rw [m207]; exact f2) (fun k hk => ?_) (fun q hq => ?_) (fun q q1 q2 => ?_) yQ y3 y12 y5
        · rw [m208, np']; simp only [m209]; exact f3 k hk
        · rw [np'] at hq
          rw [m209, m193]
          by_cases eq : q = p
          · rw [eq, z66, z210, y67, z211]
            exact Or.inr ⟨k, hh + 1, z, k1, by rw [m208]; exact k2, h9, rfl, rfl, rfl, k7, k8, yt⟩
          · rw [ea (66 + 4 * w') q (by unfold Spap; omega), ea (67 + 4 * w') q (by unfold Spap; omega), eb 210 (40 * w' + q) (by unfold Tpap; omega), eb 211 (40 * w' + q) (by unfold Tpap; omega)]
            rcases f4 q hq with g | ⟨k', hq', zq, g1, g2, g3⟩
            · exact Or.inl g
            · exact Or.inr ⟨k', hq', zq, g1, by rw [m208]; exact g2, g3⟩
        · rw [np'] at q1
          rw [ea (66 + 4 * w') q (by unfold Spap; omega), ea (67 + 4 * w') q (by unfold Spap; omega)]
          exact f5 q q1 q2
      · exact (h.2.2.2.2.2.2.2.2.2.2.1.1 w' hw').kp (show nP (mg A B) ≤ 40 from hP) (fun k s q => (hM k s (by unfold Lf at q; unfold Spap Tpap; omega)).1)
    · rw [ea _ _ (by unfold Spap; omega)]
      exact (h.fn q1 q2).1
  have m2_208 : ∀ s, rI B2 208 s = rI B 208 s := fun s => WB2.2.2 208 s (by unfold Tpap; omega)
  have m2_211 : ∀ s, rI B2 211 s = rI B 211 s := fun s => WB2.2.2 211 s (by unfold Tpap; omega)
  by_cases q : hh + 1 = z
  · rw [if_pos q] at x10 x11
    rw [if_neg ne_1] at x10 x11
    have y3 : rI A2 (64 + 4 * w) 3 = nI (Qr B w 0 k ++ p :: Qr B w (k + 1) e).length := by rw [WA2.2.2 _ _ (by unfold Spap; omega), ← eQ]; exact f6
    have y5 : ∀ i, i < (Qr B w 0 k ++ p :: Qr B w (k + 1) e).length → rI A2 (65 + 4 * w) i = nI ((Qr B w 0 k ++ p :: Qr B w (k + 1) e).getD i 0) := fun i hi => by
      rw [WA2.2.2 _ _ (by unfold Spap; omega), ← eQ]
      exact f8 i (by rw [eQ]; exact hi)
    obtain ⟨A3, d1, d2, d3, d4, d5⟩ := e_dequeue hA2 w6 p40 (by rw [← eQ]; exact f7) y3 y5 (rI B 184 31)
    rw [← epl] at d1
    have lenab : (Qr B w 0 k ++ Qr B w (k + 1) e).length ≤ 12 := by
      rw [eQ] at f7
      simp only [List.length_append, List.length_cons] at f7 ⊢
      omega
    have yQ : Qr (wI B2 211 (40 * w + p) (rI B 184 31)) w 0 F' = Qr B w 0 k ++ Qr B w (k + 1) e := by
      have m8 : ∀ s, rI (wI B2 211 (40 * w + p) (rI B 184 31)) 208 s = rI B 208 s := fun s => by rw [rI_wI, if_neg (by omega)]; exact m2_208 s
      have m11 : ∀ s, s ≠ 40 * w + p → rI (wI B2 211 (40 * w + p) (rI B 184 31)) 211 s = rI B 211 s := fun s hs => by rw [rI_wI, if_neg (by omega)]; exact m2_211 s
      have nef : ∀ j, j < F' → j ≠ k → fl B w j ≠ p := fun j hj hne z => by
        have := (hF.fl hj).2.2
        rw [z, h9] at this
        exact hne ((nI_eq (by omega) (by omega)).1 this).symm
      have efl : fl (wI B2 211 (40 * w + p) (rI B 184 31)) w k = p := by unfold fl; rw [m8]; exact hfl.symm
      have ndone : ¬ rI (wI B2 211 (40 * w + p) (rI B 184 31)) 211 (40 * w + p) = -1 := by
        rw [rI_wI, if_pos ⟨rfl, rfl⟩, h.mtc]
        have := h.tle
        exact ne_m1 clamp_lt
      rw [eF, Qr_app, Nat.zero_add, Qr_s, efl, if_neg ndone, Qr_same m8 m11 (fun j _ j2 => nef j (by omega) (by omega)), Qr_same m8 m11 (fun j j1 j2 => nef j (by omega) (by omega))]
    have t0 : (0 : Int32) ≤ rI B 184 31 := by rw [h.mtc]; exact nI_pos' clamp_lt
    obtain ⟨g1, g2, g3⟩ := fin A3 _ (rI B 184 31) _ 0 d2 rfl d3 (Or.inr ⟨t0, q⟩) yQ d4 lenab d5
    refine ⟨A3, _, ?_, ?_, g1, g2, g3⟩
    · rw [x10, d1]; rfl
    · rw [x11]
      simp only [s_m11_hear_164, gI, gL, gR, pI, pZ, pL, pR, aI, aR, sI, sR, al, dz, rz, cl, cp, tL, tC, has_sh, hs_1, hs_2, hs_3, hs_4, hs_5, hs_6, hs_47, hs_48, hs_49, hs_50, hs_51, hs_52, hs_54, hs_55, hs_56, hs_57, hs_58, hs_59, hs_60, hs_61, hs_62, hs_63, hs_184, hs_185, hs_186, hs_187, hs_188, hs_189, hs_190, hs_191, hs_192, hs_193, hs_194, hs_195, hs_196, hs_197, hs_198, hs_199, hs_200, hs_201, hs_202, hs_203, hs_204, hs_205, hs_206, hs_207, hs_208, hs_209, hs_210, hs_211, hs_212, hs_213, hs_214, hs_215, hs_216, hs_217, hs_218, hs_219, hs_220, hs_221, hs_222, hs_223, hs_224, hs_ru, hs_ru0, hs_ru1, hs_ru2, hs_wi, hs_wi0, hs_wi1, hs_wi2, hs_pi, hs_pi0, hs_pa, hs_pa0, tb_2, tb_3, tb_4, tb_6, tb_48, tb_49, tb_51, tb_52, tb_54, tb_55, tb_57, tb_58, tb_60, tb_62, tb_63, tb_185, tb_186, tb_187, tb_188, tb_189, tb_190, tb_191, tb_192, tb_193, tb_194, tb_195, tb_196, tb_197, tb_198, tb_199, tb_200, tb_201, tb_202, tb_203, tb_204, tb_205, tb_206, tb_207, tb_208, tb_209, tb_210, tb_211, tb_212, tb_213, tb_214, tb_215, tb_216, tb_217, tb_218, tb_219, tb_220, tb_221, tb_222, tb_223, tb_224, tb_ru0, tb_ru1, tb_ru2, tb_wi0, tb_wi1, tb_wi2, tb_pi0, tb_pa0, sr1_0, sr1_1, sr1_2, sr1_3, sr1_4, sr1_5, sr1_6, sr1_7, sr1_8, sr1_9, sr5_0, sr47_0, sr47_1, sr50_0, sr50_1, sr50_3, sr50_4, sr56_0, sr56_1, sr59_0, sr61_0, sr184_1, sr184_3, sr184_4, sr184_5, sr184_7, sr184_8, sr184_9, sr184_10, sr184_11, sr184_12, sr184_13, sr184_14, sr184_16, sr184_18, sr184_19, sr184_20, sr184_21, sr184_22, sr184_23, sr184_24, sr184_25, sr184_27, sr184_32, sr184_33, sr184_34, sr184_35, sr184_36, sr184_37, sr184_38, sr184_40, sr184_41, sr184_44, sr184_45, sr184_50, sr184_51, sr184_52, sr184_53, sr184_54, sr184_55, sr184_57, sr2, sr3, sr4, sr6, srru0, srru1, srru2, srwi0, srwi1, srwi2, srpi0, srpa0, Sh_wI, Sh_wL, Sh_wC, if_true, zb_0, zb_1, Option.bind_some, has_wI, has_wL, has_wC, rR_wI, rR_wL, rR_wC, hB2, i5, i6]
  · rw [if_neg q] at x10 x11
    rw [if_pos rfl] at x10 x11
    have yQ : Qr (wI B2 211 (40 * w + p) (-1)) w 0 F' = Qr B w 0 F' := by
      have m8 : ∀ s, rI (wI B2 211 (40 * w + p) (-1)) 208 s = rI B 208 s := fun s => by rw [rI_wI, if_neg (by omega)]; exact m2_208 s
      have m11 : ∀ s, rI (wI B2 211 (40 * w + p) (-1)) 211 s = rI B 211 s := fun s => by
        rw [rI_wI]
        by_cases e : s = 40 * w + p
        · rw [if_pos ⟨rfl, e⟩, e, hd]
        · rw [if_neg (by omega)]; exact m2_211 s
      unfold Qr fl
      simp only [m8, m11]
    obtain ⟨g1, g2, g3⟩ := fin A2 _ (-1) _ 0 (Wr.rf _ _) rfl (by rw [WA2.2.2 _ _ (by unfold Spap; omega), k6, hd]) (Or.inl ⟨rfl, by omega⟩) yQ (by rw [WA2.2.2 _ _ (by unfold Spap; omega)]; exact f6) f7 (fun i hi => by rw [WA2.2.2 _ _ (by unfold Spap; omega)]; exact f8 i hi)
    refine ⟨A2, _, x10, ?_, g1, g2, g3⟩
    rw [x11]
    simp only [s_m11_hear_164, gI, gL, gR, pI, pZ, pL, pR, aI, aR, sI, sR, al, dz, rz, cl, cp, tL, tC, has_sh, hs_1, hs_2, hs_3, hs_4, hs_5, hs_6, hs_47, hs_48, hs_49, hs_50, hs_51, hs_52, hs_54, hs_55, hs_56, hs_57, hs_58, hs_59, hs_60, hs_61, hs_62, hs_63, hs_184, hs_185, hs_186, hs_187, hs_188, hs_189, hs_190, hs_191, hs_192, hs_193, hs_194, hs_195, hs_196, hs_197, hs_198, hs_199, hs_200, hs_201, hs_202, hs_203, hs_204, hs_205, hs_206, hs_207, hs_208, hs_209, hs_210, hs_211, hs_212, hs_213, hs_214, hs_215, hs_216, hs_217, hs_218, hs_219, hs_220, hs_221, hs_222, hs_223, hs_224, hs_ru, hs_ru0, hs_ru1, hs_ru2, hs_wi, hs_wi0, hs_wi1, hs_wi2, hs_pi, hs_pi0, hs_pa, hs_pa0, tb_2, tb_3, tb_4, tb_6, tb_48, tb_49, tb_51, tb_52, tb_54, tb_55, tb_57, tb_58, tb_60, tb_62, tb_63, tb_185, tb_186, tb_187, tb_188, tb_189, tb_190, tb_191, tb_192, tb_193, tb_194, tb_195, tb_196, tb_197, tb_198, tb_199, tb_200, tb_201, tb_202, tb_203, tb_204, tb_205, tb_206, tb_207, tb_208, tb_209, tb_210, tb_211, tb_212, tb_213, tb_214, tb_215, tb_216, tb_217, tb_218, tb_219, tb_220, tb_221, tb_222, tb_223, tb_224, tb_ru0, tb_ru1, tb_ru2, tb_wi0, tb_wi1, tb_wi2, tb_pi0, tb_pa0, sr1_0, sr1_1, sr1_2, sr1_3, sr1_4, sr1_5, sr1_6, sr1_7, sr1_8, sr1_9, sr5_0, sr47_0, sr47_1, sr50_0, sr50_1, sr50_3, sr50_4, sr56_0, sr56_1, sr59_0, sr61_0, sr184_1, sr184_3, sr184_4, sr184_5, sr184_7, sr184_8, sr184_9, sr184_10, sr184_11, sr184_12, sr184_13, sr184_14, sr184_16, sr184_18, sr184_19, sr184_20, sr184_21, sr184_22, sr184_23, sr184_24, sr184_25, sr184_27, sr184_32, sr184_33, sr184_34, sr184_35, sr184_36, sr184_37, sr184_38, sr184_40, sr184_41, sr184_44, sr184_45, sr184_50, sr184_51, sr184_52, sr184_53, sr184_54, sr184_55, sr184_57, sr2, sr3, sr4, sr6, srru0, srru1, srru2, srwi0, srwi1, srwi2, srpi0, srpa0, Sh_wI, Sh_wL, Sh_wC, if_true, zb_0, zb_1, Option.bind_some, has_wI, has_wL, has_wC, rR_wI, rR_wL, rR_wC, hB2, i5, i6]
end HES
