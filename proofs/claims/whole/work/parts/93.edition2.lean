/-! LAYER 2: edition, the call -/
section EDC
variable {c : Nat} {A B : Mm}
theorem sim_edition (c : Nat) (x : Int32) : Sim c (s_m10_edition 1 x) (s_m11_edition 184 x) := by
  intro A B h hB
  have hA := h.shA
  have fu : FU = 5000 := rfl
  by_cases hx : ∃ a, a < 8 ∧ x = nI a
  · obtain ⟨a, ha, rfl⟩ := hx
    have i1 : inb (nI a) 8 = true := inb_nI ha (by omega)
    have i2 := nI_clamp (show a < 2 ^ 31 by omega)
    have wb : Wr (fun k s => k = 184 ∧ s = 46) B (wI B 184 46 0) := (Wr.rf _ _).wI ⟨rfl, rfl⟩
    have hV : Vw B (wI B 184 46 0) := (show Vw B B from ⟨hB, fun _ _ _ => rfl⟩).wI (by omega)
    obtain ⟨A1, B1, off, y, u1, u2, u3, u4, u5, u6, u7, u8⟩ := e_ed29 h ha 8 0 FU FU 0 A (wI B 184 46 0) 0 (by omega) (by omega) (by omega) (show Tx A A from ⟨hA, fun _ _ _ => ⟨rfl, rfl⟩⟩) hV (by simp [rI_wI]; rfl) (by omega) ⟨fun j hj => by omega, fun q hq => ⟨fun z => by (rw [bit_0] at z; cases z), fun ⟨j, hj, _⟩ => by omega⟩⟩
    rw [nI_0] at u1 u2
    have hB1 := u4.1
    obtain ⟨B2, v1, v2, v3⟩ := e_ed45 ha 40 0 FU B1 (by omega) (by omega) hB1
    rw [nI_0] at v1
    have hB2 := v2.sh hB1
    have m217 : ∀ j, rI B2 217 j = rI B1 217 j := fun j => v2.2.2 217 j (by omega)
    obtain ⟨B3, w1, w2, w3⟩ := e_ed71 ha u7 (t := rI B 184 31) off 0 FU B2 (by omega) (by omega) hB2 (by rw [v2.2.2 184 46 (by omega)]; exact u6) (by rw [v2.2.2 184 31 (by omega)]; exact u4.2 184 31 (by omega)) (fun j hj => by rw [m217]; exact u8.1 j hj)
    rw [nI_0] at w1
    have E10 : s_m10_edition 1 (nI a) A = some (nI off, wL (wI (wI A1 (168 + 2 * a) 2 (rI B 184 31)) (168 + 2 * a) 3 (nI off)) (168 + 2 * a) 4 y) := by
      rw [← u1]
      simp only [s_m10_edition, gI, gL, gR, pI, pZ, pL, pR, aI, aR, sI, sR, al, dz, rz, cl, cp, tL, tC, has_sh, hs_1, hs_2, hs_3, hs_4, hs_5, hs_6, hs_47, hs_48, hs_49, hs_50, hs_51, hs_52, hs_54, hs_55, hs_56, hs_57, hs_58, hs_59, hs_60, hs_61, hs_62, hs_63, hs_184, hs_185, hs_186, hs_187, hs_188, hs_189, hs_190, hs_191, hs_192, hs_193, hs_194, hs_195, hs_196, hs_197, hs_198, hs_199, hs_200, hs_201, hs_202, hs_203, hs_204, hs_205, hs_206, hs_207, hs_208, hs_209, hs_210, hs_211, hs_212, hs_213, hs_214, hs_215, hs_216, hs_217, hs_218, hs_219, hs_220, hs_221, hs_222, hs_223, hs_224, hs_ru, hs_ru0, hs_ru1, hs_ru2, hs_wi, hs_wi0, hs_wi1, hs_wi2, hs_pi, hs_pi0, hs_pa, hs_pa0, tb_2, tb_3, tb_4, tb_6, tb_48, tb_49, tb_51, tb_52, tb_54, tb_55, tb_57, tb_58, tb_60, tb_62, tb_63, tb_185, tb_186, tb_187, tb_188, tb_189, tb_190, tb_191, tb_192, tb_193, tb_194, tb_195, tb_196, tb_197, tb_198, tb_199, tb_200, tb_201, tb_202, tb_203, tb_204, tb_205, tb_206, tb_207, tb_208, tb_209, tb_210, tb_211, tb_212, tb_213, tb_214, tb_215, tb_216, tb_217, tb_218, tb_219, tb_220, tb_221, tb_222, tb_223, tb_224, tb_ru0, tb_ru1, tb_ru2, tb_wi0, tb_wi1, tb_wi2, tb_pi0, tb_pa0, sr1_0, sr1_1, sr1_2, sr1_3, sr1_4, sr1_5, sr1_6, sr1_7, sr1_8, sr1_9, sr5_0, sr47_0, sr47_1, sr50_0, sr50_1, sr50_3, sr50_4, sr56_0, sr56_1, sr59_0, sr61_0, sr184_1, sr184_3, sr184_4, sr184_5, sr184_7, sr184_8, sr184_9, sr184_10, sr184_11, sr184_12, sr184_13, sr184_14, sr184_16, sr184_18, sr184_19, sr184_20, sr184_21, sr184_22, sr184_23, sr184_24, sr184_25, sr184_27, sr184_32, sr184_33, sr184_34, sr184_35, sr184_36, sr184_37, sr184_38, sr184_40, sr184_41, sr184_44, sr184_45, sr184_50, sr184_51, sr184_52, sr184_53, sr184_54, sr184_55, sr184_57, sr2, sr3, sr4, sr6, srru0, srru1, srru2, srwi0, srwi1, srwi2, srpi0, srpa0, Sh_wI, Sh_wL, Sh_wC, if_true, zb_0, zb_1, Option.bind_some, has_wI, has_wL, has_wC, rR_wI, rR_wL, rR_wC, hA, isA10y A ha, ne_1, not_false_eq_true, i1, i2, ha]
    have E11 : s_m11_edition 184 (nI a) B = some (nI off, wI (wI (wI B3 220 a 1) 221 a (rI B 184 31)) 222 a (nI off)) := by
      rw [← w1, ← v1, ← u2]
      simp only [s_m11_edition, gI, gL, gR, pI, pZ, pL, pR, aI, aR, sI, sR, al, dz, rz, cl, cp, tL, tC, has_sh, hs_1, hs_2, hs_3, hs_4, hs_5, hs_6, hs_47, hs_48, hs_49, hs_50, hs_51, hs_52, hs_54, hs_55, hs_56, hs_57, hs_58, hs_59, hs_60, hs_61, hs_62, hs_63, hs_184, hs_185, hs_186, hs_187, hs_188, hs_189, hs_190, hs_191, hs_192, hs_193, hs_194, hs_195, hs_196, hs_197, hs_198, hs_199, hs_200, hs_201, hs_202, hs_203, hs_204, hs_205, hs_206, hs_207, hs_208, hs_209, hs_210, hs_211, hs_212, hs_213, hs_214, hs_215, hs_216, hs_217, hs_218, hs_219, hs_220, hs_221, hs_222, hs_223, hs_224, hs_ru, hs_ru0, hs_ru1, hs_ru2, hs_wi, hs_wi0, hs_wi1, hs_wi2, hs_pi, hs_pi0, hs_pa, hs_pa0, tb_2, tb_3, tb_4, tb_6, tb_48, tb_49, tb_51, tb_52, tb_54, tb_55, tb_57, tb_58, tb_60, tb_62, tb_63, tb_185, tb_186, tb_187, tb_188, tb_189, tb_190, tb_191, tb_192, tb_193, tb_194, tb_195, tb_196, tb_197, tb_198, tb_199, tb_200, tb_201, tb_202, tb_203, tb_204, tb_205, tb_206, tb_207, tb_208, tb_209, tb_210, tb_211, tb_212, tb_213, tb_214, tb_215, tb_216, tb_217, tb_218, tb_219, tb_220, tb_221, tb_222, tb_223, tb_224, tb_ru0, tb_ru1, tb_ru2, tb_wi0, tb_wi1, tb_wi2, tb_pi0, tb_pa0, sr1_0, sr1_1, sr1_2, sr1_3, sr1_4, sr1_5, sr1_6, sr1_7, sr1_8, sr1_9, sr5_0, sr47_0, sr47_1, sr50_0, sr50_1, sr50_3, sr50_4, sr56_0, sr56_1, sr59_0, sr61_0, sr184_1, sr184_3, sr184_4, sr184_5, sr184_7, sr184_8, sr184_9, sr184_10, sr184_11, sr184_12, sr184_13, sr184_14, sr184_16, sr184_18, sr184_19, sr184_20, sr184_21, sr184_22, sr184_23, sr184_24, sr184_25, sr184_27, sr184_32, sr184_33, sr184_34, sr184_35, sr184_36, sr184_37, sr184_38, sr184_40, sr184_41, sr184_44, sr184_45, sr184_50, sr184_51, sr184_52, sr184_53, sr184_54, sr184_55, sr184_57, sr2, sr3, sr4, sr6, srru0, srru1, srru2, srwi0, srwi1, srwi2, srpi0, srpa0, Sh_wI, Sh_wL, Sh_wC, if_true, zb_0, zb_1, Option.bind_some, has_wI, has_wL, has_wC, rR_wI, rR_wL, rR_wC, hB, isA11y B ha, ne_1, not_false_eq_true]
    have WB : Wr (fun k s => Ttx k s ∨ (220 ≤ k ∧ k ≤ 222 ∧ s = a) ∨ (k = 223 ∧ 40 * a ≤ s ∧ s < 40 * a + 40)) B (wI (wI (wI B3 220 a 1) 221 a (rI B 184 31)) 222 a (nI off)) := by
      have b1 : Wr (fun k s => Ttx k s ∨ (220 ≤ k ∧ k ≤ 222 ∧ s = a) ∨ (k = 223 ∧ 40 * a ≤ s ∧ s < 40 * a + 40)) B B3 := (((wb.mono (fun k s z => Or.inl (by unfold Ttx; omega))).tr (u5.mono (fun k s z => Or.inl z))).tr (v2.mono (fun k s z => Or.inr (Or.inr z)))).tr (w2.mono (fun k s z => Or.inr (Or.inr z)))
      exact ((b1.wI (Or.inr (Or.inl ⟨by omega, by omega, rfl⟩))).wI (Or.inr (Or.inl ⟨by omega, by omega, rfl⟩))).wI (Or.inr (Or.inl ⟨by omega, by omega, rfl⟩))
    have hFA : ∀ k s, ¬ ((50 ≤ k ∧ k ≤ 55) ∨ (k = 168 + 2 * a ∧ 2 ≤ s)) → rI (wL (wI (wI A1 (168 + 2 * a) 2 (rI B 184 31)) (168 + 2 * a) 3 (nI off)) (168 + 2 * a) 4 y) k s = rI A k s ∧ rL (wL (wI (wI A1 (168 + 2 * a) 2 (rI B 184 31)) (168 + 2 * a) 3 (nI off)) (168 + 2 * a) 4 y) k s = rL A k s := fun k s n => by
      refine ⟨?_, ?_⟩
      · rw [rI_wL, rI_wI, if_neg (by omega), rI_wI, if_neg (by omega)]
        exact (u3.2 k s (by omega)).1
      · rw [rL_wL, if_neg (by omega), rL_wI, rL_wI]
        exact (u3.2 k s (by omega)).2
    have c2 : rI (wL (wI (wI A1 (168 + 2 * a) 2 (rI B 184 31)) (168 + 2 * a) 3 (nI off)) (168 + 2 * a) 4 y) (168 + 2 * a) 2 = rI B 184 31 := by rw [rI_wL]; simp [rI_wI]
    have c3 : rI (wL (wI (wI A1 (168 + 2 * a) 2 (rI B 184 31)) (168 + 2 * a) 3 (nI off)) (168 + 2 * a) 4 y) (168 + 2 * a) 3 = nI off := by rw [rI_wL]; simp [rI_wI]
    have c4 : rL (wL (wI (wI A1 (168 + 2 * a) 2 (rI B 184 31)) (168 + 2 * a) 3 (nI off)) (168 + 2 * a) 4 y) (168 + 2 * a) 4 = y := by rw [rL_wL, if_pos ⟨rfl, rfl⟩]
    have hSA : Sh (wL (wI (wI A1 (168 + 2 * a) 2 (rI B 184 31)) (168 + 2 * a) 3 (nI off)) (168 + 2 * a) 4 y) := u3.1
    have d0 : rI (wI (wI (wI B3 220 a 1) 221 a (rI B 184 31)) 222 a (nI off)) 220 a = 1 := by simp [rI_wI]
    have d1 : rI (wI (wI (wI B3 220 a 1) 221 a (rI B 184 31)) 222 a (nI off)) 221 a = rI B 184 31 := by simp [rI_wI]
    have d2 : rI (wI (wI (wI B3 220 a 1) 221 a (rI B 184 31)) 222 a (nI off)) 222 a = nI off := by simp [rI_wI]
    have d3 : ∀ p, p < 40 → rI (wI (wI (wI B3 220 a 1) 221 a (rI B 184 31)) 222 a (nI off)) 223 (40 * a + p) = if bit y p = true then 1 else 0 := fun p hp => by
      rw [rI_wI, if_neg (by omega), rI_wI, if_neg (by omega), rI_wI, if_neg (by omega)]
      obtain ⟨g1, g2⟩ := w3 p hp
      by_cases z : bit y p = true
      · rw [if_pos z]
        obtain ⟨j, j1, j2⟩ := (u8.2 p hp).1 z
        exact g1 ⟨j, by omega, j1, by rw [m217]; exact j2⟩
      · rw [if_neg z]
        rw [g2 (fun ⟨j, _, j1, j2⟩ => z ((u8.2 p hp).2 ⟨j, j1, by rw [← m217]; exact j2⟩)), v3 p hp, if_pos (by omega)]
    have hWsh := WB.sh hB
    generalize wL (wI (wI A1 (168 + 2 * a) 2 (rI B 184 31)) (168 + 2 * a) 3 (nI off)) (168 + 2 * a) 4 y = A' at *
    generalize wI (wI (wI B3 220 a 1) 221 a (rI B 184 31)) 222 a (nI off) = B' at *
    have eb := WB.2.2
    have hM : ∀ k s, ¬ (((50 ≤ k ∧ k ≤ 55) ∨ (k = 168 + 2 * a ∧ 2 ≤ s)) ∨ (Ttx k s ∨ (220 ≤ k ∧ k ≤ 222 ∧ s = a) ∨ (k = 223 ∧ 40 * a ≤ s ∧ s < 40 * a + 40))) → rI (mg A' B') k s = rI (mg A B) k s ∧ rL (mg A' B') k s = rL (mg A B) k s := fun k s q => by
      by_cases hk : k < 184
      · rw [mg_lo hk, mg_lo hk, mgL_lo hk, mgL_lo hk]
        exact hFA k s (fun z => q (Or.inl z))
      · rw [mg_hi hk, mg_hi hk, mgL_hi hk, mgL_hi hk]
        exact ⟨eb k s (fun z => q (Or.inr z)), by unfold rL; rw [WB.2.1]⟩
    refine ⟨nI off, A', B', E10, E11, ?_, hWsh, fun k s hk => hFA k s (by omega), WB.fb (fun k s z => by unfold Ttx at z; omega)⟩
    refine h.keep hSA _ hM (Or.inl ?_) (Or.inl ?_) (Or.inl ?_) (Or.inl ?_) (Or.inl ?_) (Or.inl ?_) (Or.inl ?_) (Or.inl ?_) (Or.inl ?_) (Or.inl ?_) (Or.inr ?_)
    · intro k s; unfold Lcnt Ttx; omega
    · intro k s; unfold Lref Ttx; omega
    · intro k s; unfold Lwir Ttx; omega
    · intro k s; unfold Lpie Ttx; omega
    · intro k s; unfold Lrow Ttx; omega
    · intro k s; unfold Ltap Ttx; omega
    · intro k s; unfold Lrul Ttx; omega
    · intro k s; unfold Lgar Ttx; omega
    · intro k s; unfold Lsin Ttx; omega
    · intro k s; unfold Lfil Ttx; omega
    · intro a' ha'
      simp (disch := omega) only [mg_lo, mg_hi, mgL_lo]
      by_cases e : a' = a
      · subst e
        refine Or.inr ⟨d0, c2.trans d1.symm, ?_, c3.trans d2.symm, fun p hp => ?_⟩
        · rw [d1, h.mtc]; exact nI_pos' clamp_lt
        · rw [d3 p hp, c4]
      · have k0 := h.ed ha'
        rw [eb 220 a' (by unfold Ttx; omega), eb 221 a' (by unfold Ttx; omega), eb 222 a' (by unfold Ttx; omega), (hFA (168 + 2 * a') 2 (by omega)).1, (hFA (168 + 2 * a') 3 (by omega)).1, (hFA (168 + 2 * a') 4 (by omega)).2]
        rcases k0 with k0 | ⟨k1, k2, k3, k4, k5⟩
        · exact Or.inl k0
        · refine Or.inr ⟨k1, k2, k3, k4, fun p hp => ?_⟩
          rw [eb 223 _ (by unfold Ttx; omega)]
          exact k5 p hp
  · exact At.refu h hB (-3) 1 (by omega) (by simp only [s_m10_edition, gI, gL, gR, pI, pZ, pL, pR, aI, aR, sI, sR, al, dz, rz, cl, cp, tL, tC, has_sh, hs_1, hs_2, hs_3, hs_4, hs_5, hs_6, hs_47, hs_48, hs_49, hs_50, hs_51, hs_52, hs_54, hs_55, hs_56, hs_57, hs_58, hs_59, hs_60, hs_61, hs_62, hs_63, hs_184, hs_185, hs_186, hs_187, hs_188, hs_189, hs_190, hs_191, hs_192, hs_193, hs_194, hs_195, hs_196, hs_197, hs_198, hs_199, hs_200, hs_201, hs_202, hs_203, hs_204, hs_205, hs_206, hs_207, hs_208, hs_209, hs_210, hs_211, hs_212, hs_213, hs_214, hs_215, hs_216, hs_217, hs_218, hs_219, hs_220, hs_221, hs_222, hs_223, hs_224, hs_ru, hs_ru0, hs_ru1, hs_ru2, hs_wi, hs_wi0, hs_wi1, hs_wi2, hs_pi, hs_pi0, hs_pa, hs_pa0, tb_2, tb_3, tb_4, tb_6, tb_48, tb_49, tb_51, tb_52, tb_54, tb_55, tb_57, tb_58, tb_60, tb_62, tb_63, tb_185, tb_186, tb_187, tb_188, tb_189, tb_190, tb_191, tb_192, tb_193, tb_194, tb_195, tb_196, tb_197, tb_198, tb_199, tb_200, tb_201, tb_202, tb_203, tb_204, tb_205, tb_206, tb_207, tb_208, tb_209, tb_210, tb_211, tb_212, tb_213, tb_214, tb_215, tb_216, tb_217, tb_218, tb_219, tb_220, tb_221, tb_222, tb_223, tb_224, tb_ru0, tb_ru1, tb_ru2, tb_wi0, tb_wi1, tb_wi2, tb_pi0, tb_pa0, sr1_0, sr1_1, sr1_2, sr1_3, sr1_4, sr1_5, sr1_6, sr1_7, sr1_8, sr1_9, sr5_0, sr47_0, sr47_1, sr50_0, sr50_1, sr50_3, sr50_4, sr56_0, sr56_1, sr59_0, sr61_0, sr184_1, sr184_3, sr184_4, sr184_5, sr184_7, sr184_8, sr184_9, sr184_10, sr184_11, sr184_12, sr184_13, sr184_14, sr184_16, sr184_18, sr184_19, sr184_20, sr184_21, sr184_22, sr184_23, sr184_24, sr184_25, sr184_27, sr184_32, sr184_33, sr184_34, sr184_35, sr184_36, sr184_37, sr184_38, sr184_40, sr184_41, sr184_44, sr184_45, sr184_50, sr184_51, sr184_52, sr184_53, sr184_54, sr184_55, sr184_57, sr2, sr3, sr4, sr6, srru0, srru1, srru2, srwi0, srwi1, srwi2, srpi0, srpa0, Sh_wI, Sh_wL, Sh_wC, if_true, zb_0, zb_1, Option.bind_some, has_wI, has_wL, has_wC, rR_wI, rR_wL, rR_wC, hA, isA10n A hx, eq_self, not_true_eq_false, if_false, re3]) (by simp only [s_m11_edition, gI, gL, gR, pI, pZ, pL, pR, aI, aR, sI, sR, al, dz, rz, cl, cp, tL, tC, has_sh, hs_1, hs_2, hs_3, hs_4, hs_5, hs_6, hs_47, hs_48, hs_49, hs_50, hs_51, hs_52, hs_54, hs_55, hs_56, hs_57, hs_58, hs_59, hs_60, hs_61, hs_62, hs_63, hs_184, hs_185, hs_186, hs_187, hs_188, hs_189, hs_190, hs_191, hs_192, hs_193, hs_194, hs_195, hs_196, hs_197, hs_198, hs_199, hs_200, hs_201, hs_202, hs_203, hs_204, hs_205, hs_206, hs_207, hs_208, hs_209, hs_210, hs_211, hs_212, hs_213, hs_214, hs_215, hs_216, hs_217, hs_218, hs_219, hs_220, hs_221, hs_222, hs_223, hs_224, hs_ru, hs_ru0, hs_ru1, hs_ru2, hs_wi, hs_wi0, hs_wi1, hs_wi2, hs_pi, hs_pi0, hs_pa, hs_pa0, tb_2, tb_3, tb_4, tb_6, tb_48, tb_49, tb_51, tb_52, tb_54, tb_55, tb_57, tb_58, tb_60, tb_62, tb_63, tb_185, tb_186, tb_187, tb_188, tb_189, tb_190, tb_191, tb_192, tb_193, tb_194, tb_195, tb_196, tb_197, tb_198, tb_199, tb_200, tb_201, tb_202, tb_203, tb_204, tb_205, tb_206, tb_207, tb_208, tb_209, tb_210, tb_211, tb_212, tb_213, tb_214, tb_215, tb_216, tb_217, tb_218, tb_219, tb_220, tb_221, tb_222, tb_223, tb_224, tb_ru0, tb_ru1, tb_ru2, tb_wi0, tb_wi1, tb_wi2, tb_pi0, tb_pa0, sr1_0, sr1_1, sr1_2, sr1_3, sr1_4, sr1_5, sr1_6, sr1_7, sr1_8, sr1_9, sr5_0, sr47_0, sr47_1, sr50_0, sr50_1, sr50_3, sr50_4, sr56_0, sr56_1, sr59_0, sr61_0, sr184_1, sr184_3, sr184_4, sr184_5, sr184_7, sr184_8, sr184_9, sr184_10, sr184_11, sr184_12, sr184_13, sr184_14, sr184_16, sr184_18, sr184_19, sr184_20, sr184_21, sr184_22, sr184_23, sr184_24, sr184_25, sr184_27, sr184_32, sr184_33, sr184_34, sr184_35, sr184_36, sr184_37, sr184_38, sr184_40, sr184_41, sr184_44, sr184_45, sr184_50, sr184_51, sr184_52, sr184_53, sr184_54, sr184_55, sr184_57, sr2, sr3, sr4, sr6, srru0, srru1, srru2, srwi0, srwi1, srwi2, srpi0, srpa0, Sh_wI, Sh_wL, Sh_wC, if_true, zb_0, zb_1, Option.bind_some, has_wI, has_wL, has_wC, rR_wI, rR_wL, rR_wC, hB, isA11n B hx, eq_self, not_true_eq_false, if_false, rd3])
end EDC
