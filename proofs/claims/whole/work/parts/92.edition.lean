/-! LAYER 2: edition -/
section EDI
variable {c : Nat} {A0 A B0 B : Mm} {a : Nat}
theorem e_sob (hA : Sh A) {l : Nat} (h6 : rI A 50 6 = nI l) (l480 : l ≤ 480) (hq : ∀ i, i < l → ∃ q, q < 40 ∧ rI A 52 i = nI q) : ∀ (d j n : Nat) (l1 : Int64), j + d = l → d < n → ∃ x, s_m7_setOfBringers_4 n 50 l1 (nI j) A = some (x, A) ∧ ∀ q, q < 40 → (bit x q = true ↔ bit l1 q = true ∨ ∃ i, j ≤ i ∧ i < l ∧ rI A 52 i = nI q)
  | 0, j, n + 1, l1, hj, _ => by
    refine ⟨l1, ?_, fun q _ => ⟨Or.inl, ?_⟩⟩
    · simp only [s_m7_setOfBringers_4, gI, gL, gR, pI, pZ, pL, pR, aI, aR, sI, sR, al, dz, rz, cl, cp, tL, tC, has_sh, hs_1, hs_2, hs_3, hs_4, hs_5, hs_6, hs_47, hs_48, hs_49, hs_50, hs_51, hs_52, hs_54, hs_55, hs_56, hs_57, hs_58, hs_59, hs_60, hs_61, hs_62, hs_63, hs_184, hs_185, hs_186, hs_187, hs_188, hs_189, hs_190, hs_191, hs_192, hs_193, hs_194, hs_195, hs_196, hs_197, hs_198, hs_199, hs_200, hs_201, hs_202, hs_203, hs_204, hs_205, hs_206, hs_207, hs_208, hs_209, hs_210, hs_211, hs_212, hs_213, hs_214, hs_215, hs_216, hs_217, hs_218, hs_219, hs_220, hs_221, hs_222, hs_223, hs_224, hs_ru, hs_ru0, hs_ru1, hs_ru2, hs_wi, hs_wi0, hs_wi1, hs_wi2, hs_pi, hs_pi0, hs_pa, hs_pa0, tb_2, tb_3, tb_4, tb_6, tb_48, tb_49, tb_51, tb_52, tb_54, tb_55, tb_57, tb_58, tb_60, tb_62, tb_63, tb_185, tb_186, tb_187, tb_188, tb_189, tb_190, tb_191, tb_192, tb_193, tb_194, tb_195, tb_196, tb_197, tb_198, tb_199, tb_200, tb_201, tb_202, tb_203, tb_204, tb_205, tb_206, tb_207, tb_208, tb_209, tb_210, tb_211, tb_212, tb_213, tb_214, tb_215, tb_216, tb_217, tb_218, tb_219, tb_220, tb_221, tb_222, tb_223, tb_224, tb_ru0, tb_ru1, tb_ru2, tb_wi0, tb_wi1, tb_wi2, tb_pi0, tb_pa0, sr1_0, sr1_1, sr1_2, sr1_3, sr1_4, sr1_5, sr1_6, sr1_7, sr1_8, sr1_9, sr5_0, sr47_0, sr47_1, sr50_0, sr50_1, sr50_3, sr50_4, sr56_0, sr56_1, sr59_0, sr61_0, sr184_1, sr184_3, sr184_4, sr184_5, sr184_7, sr184_8, sr184_9, sr184_10, sr184_11, sr184_12, sr184_13, sr184_14, sr184_16, sr184_18, sr184_19, sr184_20, sr184_21, sr184_22, sr184_23, sr184_24, sr184_25, sr184_27, sr184_32, sr184_33, sr184_34, sr184_35, sr184_36, sr184_37, sr184_38, sr184_40, sr184_41, sr184_44, sr184_45, sr184_50, sr184_51, sr184_52, sr184_53, sr184_54, sr184_55, sr184_57, sr2, sr3, sr4, sr6, srru0, srru1, srru2, srwi0, srwi1, srwi2, srpi0, srpa0, Sh_wI, Sh_wL, Sh_wC, if_true, zb_0, zb_1, Option.bind_some, has_wI, has_wL, has_wC, rR_wI, rR_wL, rR_wC, hA, h6, nI_le (show l ≤ j by omega) (by omega)]
    · rintro (z | ⟨i, i1, i2, -⟩)
      · exact z
      · omega
  | d + 1, j, n + 1, l1, hj, hn => by
    have i1 : inb (nI j) 480 = true := inb_nI (by omega) (by omega)
    have i2 := nI_clamp (show j < 2 ^ 31 by omega)
    obtain ⟨q0, q40, eq0⟩ := hq j (by omega)
    obtain ⟨x, x1, x2⟩ := e_sob hA h6 l480 hq d (j + 1) n (l1 ||| ((1 : Int64) <<< ((rI A 52 j).toInt64 &&& 63))) (by omega) (by omega)
    refine ⟨x, ?_, fun q hq40 => ?_⟩
    · rw [← x1]
      simp only [s_m7_setOfBringers_4, gI, gL, gR, pI, pZ, pL, pR, aI, aR, sI, sR, al, dz, rz, cl, cp, tL, tC, has_sh, hs_1, hs_2, hs_3, hs_4, hs_5, hs_6, hs_47, hs_48, hs_49, hs_50, hs_51, hs_52, hs_54, hs_55, hs_56, hs_57, hs_58, hs_59, hs_60, hs_61, hs_62, hs_63, hs_184, hs_185, hs_186, hs_187, hs_188, hs_189, hs_190, hs_191, hs_192, hs_193, hs_194, hs_195, hs_196, hs_197, hs_198, hs_199, hs_200, hs_201, hs_202, hs_203, hs_204, hs_205, hs_206, hs_207, hs_208, hs_209, hs_210, hs_211, hs_212, hs_213, hs_214, hs_215, hs_216, hs_217, hs_218, hs_219, hs_220, hs_221, hs_222, hs_223, hs_224, hs_ru, hs_ru0, hs_ru1, hs_ru2, hs_wi, hs_wi0, hs_wi1, hs_wi2, hs_pi, hs_pi0, hs_pa, hs_pa0, tb_2, tb_3, tb_4, tb_6, tb_48, tb_49, tb_51, tb_52, tb_54, tb_55, tb_57, tb_58, tb_60, tb_62, tb_63, tb_185, tb_186, tb_187, tb_188, tb_189, tb_190, tb_191, tb_192, tb_193, tb_194, tb_195, tb_196, tb_197, tb_198, tb_199, tb_200, tb_201, tb_202, tb_203, tb_204, tb_205, tb_206, tb_207, tb_208, tb_209, tb_210, tb_211, tb_212, tb_213, tb_214, tb_215, tb_216, tb_217, tb_218, tb_219, tb_220, tb_221, tb_222, tb_223, tb_224, tb_ru0, tb_ru1, tb_ru2, tb_wi0, tb_wi1, tb_wi2, tb_pi0, tb_pa0, sr1_0, sr1_1, sr1_2, sr1_3, sr1_4, sr1_5, sr1_6, sr1_7, sr1_8, sr1_9, sr5_0, sr47_0, sr47_1, sr50_0, sr50_1, sr50_3, sr50_4, sr56_0, sr56_1, sr59_0, sr61_0, sr184_1, sr184_3, sr184_4, sr184_5, sr184_7, sr184_8, sr184_9, sr184_10, sr184_11, sr184_12, sr184_13, sr184_14, sr184_16, sr184_18, sr184_19, sr184_20, sr184_21, sr184_22, sr184_23, sr184_24, sr184_25, sr184_27, sr184_32, sr184_33, sr184_34, sr184_35, sr184_36, sr184_37, sr184_38, sr184_40, sr184_41, sr184_44, sr184_45, sr184_50, sr184_51, sr184_52, sr184_53, sr184_54, sr184_55, sr184_57, sr2, sr3, sr4, sr6, srru0, srru1, srru2, srwi0, srwi1, srwi2, srpi0, srpa0, Sh_wI, Sh_wL, Sh_wC, if_true, zb_0, zb_1, Option.bind_some, has_wI, has_wL, has_wC, rR_wI, rR_wL, rR_wC, hA, h6, nI_ge (show j < l by omega) (by omega), if_false, i1, i2, nI_1]
    · rw [x2 q hq40, bit_or, eq0, bit_1 q (show q0 < 64 by omega), Bool.or_eq_true, decide_eq_true_eq]
      constructor
      · rintro ((z | z) | ⟨i, g1, g2, g3⟩)
        · exact Or.inl z
        · exact Or.inr ⟨j, Nat.le_refl j, by omega, by rw [eq0, z]⟩
        · exact Or.inr ⟨i, by omega, g2, g3⟩
      · rintro (z | ⟨i, g1, g2, g3⟩)
        · exact Or.inl (Or.inl z)
        · by_cases e : i = j
          · refine Or.inl (Or.inr ?_)
            rw [e, eq0] at g3
            exact ((nI_eq (by omega) (by omega)).1 g3).symm
          · exact Or.inr ⟨i, by omega, g2, g3⟩
/-- the bits are those that brought one of the first words -/
def Bb (B : Mm) (off : Nat) (l4 : Int64) : Prop := (∀ j, j < off → ∃ q, q < 40 ∧ rI B 217 j = nI q) ∧ ∀ q, q < 40 → (bit l4 q = true ↔ ∃ j, j < off ∧ rI B 217 j = nI q)
theorem e_ed29 (h : Inv c (mg A0 B0)) (ha : a < 8) : ∀ (d s n m off : Nat) (A B : Mm) (l4 : Int64), s + d = 8 → d < n → d < m → Tx A0 A → Vw B0 B → rI B 184 46 = nI off → off ≤ 12 * cs (fun q => decide (stg B0 q < 9 * s)) 40 → Bb B off l4 →
    ∃ A' B' off' x, s_m10_edition_29 n 1 (168 + 2 * a) (nI off) l4 (nI s) A = some (nI off', wL (wI (wI A' (168 + 2 * a) 2 (rI B0 184 31)) (168 + 2 * a) 3 (nI off')) (168 + 2 * a) 4 x) ∧ s_m11_edition_21 m 184 (nI a) (nI s) B = s_m11_edition_45 FU 184 (nI a) 0 B' ∧ Tx A0 A' ∧ Vw B0 B' ∧ Wr Ttx B B' ∧ rI B' 184 46 = nI off' ∧ off' ≤ 480 ∧ Bb B' off' x
  | 0, s, n + 1, m + 1, off, A, B, l4, hs, _, _, hA, hB, h46, hl, hb => by
    have hA1 := hA.1
    have l8 : (8 : Int32) ≤ nI s := nI_le (a := 8) (by omega) (by omega)
    have r := room_480 (B := B0) (9 * s)
    have t12 : rI A 1 12 = rI B0 184 31 := (hA.2 1 12 (by omega)).1.trans h.tt
    refine ⟨A, B, off, l4, ?_, ?_, hA, hB, Wr.rf _ _, h46, by omega, hb⟩
    · simp only [s_m10_edition_29, gI, gL, gR, pI, pZ, pL, pR, aI, aR, sI, sR, al, dz, rz, cl, cp, tL, tC, has_sh, hs_1, hs_2, hs_3, hs_4, hs_5, hs_6, hs_47, hs_48, hs_49, hs_50, hs_51, hs_52, hs_54, hs_55, hs_56, hs_57, hs_58, hs_59, hs_60, hs_61, hs_62, hs_63, hs_184, hs_185, hs_186, hs_187, hs_188, hs_189, hs_190, hs_191, hs_192, hs_193, hs_194, hs_195, hs_196, hs_197, hs_198, hs_199, hs_200, hs_201, hs_202, hs_203, hs_204, hs_205, hs_206, hs_207, hs_208, hs_209, hs_210, hs_211, hs_212, hs_213, hs_214, hs_215, hs_216, hs_217, hs_218, hs_219, hs_220, hs_221, hs_222, hs_223, hs_224, hs_ru, hs_ru0, hs_ru1, hs_ru2, hs_wi, hs_wi0, hs_wi1, hs_wi2, hs_pi, hs_pi0, hs_pa, hs_pa0, tb_2, tb_3, tb_4, tb_6, tb_48, tb_49, tb_51, tb_52, tb_54, tb_55, tb_57, tb_58, tb_60, tb_62, tb_63, tb_185, tb_186, tb_187, tb_188, tb_189, tb_190, tb_191, tb_192, tb_193, tb_194, tb_195, tb_196, tb_197, tb_198, tb_199, tb_200, tb_201, tb_202, tb_203, tb_204, tb_205, tb_206, tb_207, tb_208, tb_209, tb_210, tb_211, tb_212, tb_213, tb_214, tb_215, tb_216, tb_217, tb_218, tb_219, tb_220, tb_221, tb_222, tb_223, tb_224, tb_ru0, tb_ru1, tb_ru2, tb_wi0, tb_wi1, tb_wi2, tb_pi0, tb_pa0, sr1_0, sr1_1, sr1_2, sr1_3, sr1_4, sr1_5, sr1_6, sr1_7, sr1_8, sr1_9, sr5_0, sr47_0, sr47_1, sr50_0, sr50_1, sr50_3, sr50_4, sr56_0, sr56_1, sr59_0, sr61_0, sr184_1, sr184_3, sr184_4, sr184_5, sr184_7, sr184_8, sr184_9, sr184_10, sr184_11, sr184_12, sr184_13, sr184_14, sr184_16, sr184_18, sr184_19, sr184_20, sr184_21, sr184_22, sr184_23, sr184_24, sr184_25, sr184_27, sr184_32, sr184_33, sr184_34, sr184_35, sr184_36, sr184_37, sr184_38, sr184_40, sr184_41, sr184_44, sr184_45, sr184_50, sr184_51, sr184_52, sr184_53, sr184_54, sr184_55, sr184_57, sr2, sr3, sr4, sr6, srru0, srru1, srru2, srwi0, srwi1, srwi2, srpi0, srpa0, Sh_wI, Sh_wL, Sh_wC, if_true, zb_0, zb_1, Option.bind_some, has_wI, has_wL, has_wC, rR_wI, rR_wL, rR_wC, hA1, ha, l8, t12]
    · simp only [s_m11_edition_21, l8, if_true]
  | d + 1, s, n + 1, m + 1, off, A, B, l4, hs, hn, hm, hA, hB, h46, hl, hb => by
    have hA1 := hA.1
    have hB1 := hB.1
    have fu : FU = 5000 := rfl
    have l8 : ¬ (8 : Int32) ≤ nI s := nI_ge (b := 8) (by omega) (by omega)
    have t12 : rI A 1 12 = rI B0 184 31 := (hA.2 1 12 (by omega)).1.trans h.tt
    have t31 := hB.2 184 31 (by omega)
    obtain ⟨A1, B1, l, u1, u2, u3, u4, u5, ⟨v1, v2, v3⟩, -, -, -, u6⟩ := e_join h (off := off) (s := s) ha (by omega) (rI B0 184 31) hA hB h46 hl
    have hA11 := u3.1
    have r := room_480 (B := B0) (9 * (s + 1))
    obtain ⟨x, x1, x2⟩ := e_sob hA11 v1 (by omega) (fun i hi => by
      obtain ⟨w1, w2, q, w3, w4⟩ := v3 i hi
      exact ⟨q, w3, w2.trans w4⟩) l 0 FU 0 (by omega) (by omega)
    rw [nI_0] at x1
    have old : ∀ j, j < off → rI B1 217 j = rI B 217 j := fun j hj => u5.2.2 217 j (by unfold Tk Tj Tall T89 T16; omega)
    have hb1 : Bb B1 (off + l) (l4 ||| x) := by
      refine ⟨fun j hj => ?_, fun q hq => ?_⟩
      · by_cases e : j < off
        · rw [old j e]; exact hb.1 j e
        · obtain ⟨-, -, w⟩ := v3 (j - off) (by omega)
          rw [show off + (j - off) = j by omega] at w
          exact w
      · rw [bit_or, Bool.or_eq_true, hb.2 q hq, x2 q hq, bit_0]
        constructor
        · rintro (⟨j, g1, g2⟩ | (z | ⟨i, g1, g2, g3⟩))
          · exact ⟨j, by omega, by rw [old j g1]; exact g2⟩
          · cases z
          · exact ⟨off + i, by omega, by rw [← (v3 i g2).2.1]; exact g3⟩
        · rintro ⟨j, g1, g2⟩
          by_cases e : j < off
          · exact Or.inl ⟨j, e, by rw [← old j e]; exact g2⟩
          · refine Or.inr (Or.inr ⟨j - off, by omega, by omega, ?_⟩)
            rw [(v3 (j - off) (by omega)).2.1, show off + (j - off) = j by omega]
            exact g2
    obtain ⟨A', B', off', x', w1, w2, w3, w4, w5, w6, w7, w8⟩ := e_ed29 h ha d (s + 1) n m (off + l) A1 B1 (l4 ||| x) (by omega) (by omega) (by omega) u3 u4 v2 u6 hb1
    refine ⟨A', B', off', x', ?_, ?_, w3, w4, (u5.mono Tk_o).tr w5, w6, w7, w8⟩
    · rw [← w1]
      simp only [s_m10_edition_29, s_m7_setOfBringers, gI, gL, gR, pI, pZ, pL, pR, aI, aR, sI, sR, al, dz, rz, cl, cp, tL, tC, has_sh, hs_1, hs_2, hs_3, hs_4, hs_5, hs_6, hs_47, hs_48, hs_49, hs_50, hs_51, hs_52, hs_54, hs_55, hs_56, hs_57, hs_58, hs_59, hs_60, hs_61, hs_62, hs_63, hs_184, hs_185, hs_186, hs_187, hs_188, hs_189, hs_190, hs_191, hs_192, hs_193, hs_194, hs_195, hs_196, hs_197, hs_198, hs_199, hs_200, hs_201, hs_202, hs_203, hs_204, hs_205, hs_206, hs_207, hs_208, hs_209, hs_210, hs_211, hs_212, hs_213, hs_214, hs_215, hs_216, hs_217, hs_218, hs_219, hs_220, hs_221, hs_222, hs_223, hs_224, hs_ru, hs_ru0, hs_ru1, hs_ru2, hs_wi, hs_wi0, hs_wi1, hs_wi2, hs_pi, hs_pi0, hs_pa, hs_pa0, tb_2, tb_3, tb_4, tb_6, tb_48, tb_49, tb_51, tb_52, tb_54, tb_55, tb_57, tb_58, tb_60, tb_62, tb_63, tb_185, tb_186, tb_187, tb_188, tb_189, tb_190, tb_191, tb_192, tb_193, tb_194, tb_195, tb_196, tb_197, tb_198, tb_199, tb_200, tb_201, tb_202, tb_203, tb_204, tb_205, tb_206, tb_207, tb_208, tb_209, tb_210, tb_211, tb_212, tb_213, tb_214, tb_215, tb_216, tb_217, tb_218, tb_219, tb_220, tb_221, tb_222, tb_223, tb_224, tb_ru0, tb_ru1, tb_ru2, tb_wi0, tb_wi1, tb_wi2, tb_pi0, tb_pa0, sr1_0, sr1_1, sr1_2, sr1_3, sr1_4, sr1_5, sr1_6, sr1_7, sr1_8, sr1_9, sr5_0, sr47_0, sr47_1, sr50_0, sr50_1, sr50_3, sr50_4, sr56_0, sr56_1, sr59_0, sr61_0, sr184_1, sr184_3, sr184_4, sr184_5, sr184_7, sr184_8, sr184_9, sr184_10, sr184_11, sr184_12, sr184_13, sr184_14, sr184_16, sr184_18, sr184_19, sr184_20, sr184_21, sr184_22, sr184_23, sr184_24, sr184_25, sr184_27, sr184_32, sr184_33, sr184_34, sr184_35, sr184_36, sr184_37, sr184_38, sr184_40, sr184_41, sr184_44, sr184_45, sr184_50, sr184_51, sr184_52, sr184_53, sr184_54, sr184_55, sr184_57, sr2, sr3, sr4, sr6, srru0, srru1, srru2, srwi0, srwi1, srwi2, srpi0, srpa0, Sh_wI, Sh_wL, Sh_wC, if_true, zb_0, zb_1, Option.bind_some, has_wI, has_wL, has_wC, rR_wI, rR_wL, rR_wC, hA1, l8, if_false, t12, u1, hA11, v1, x1, nI_add, nI_1]
    · rw [← w2]
      simp only [s_m11_edition_21, gI, gL, gR, pI, pZ, pL, pR, aI, aR, sI, sR, al, dz, rz, cl, cp, tL, tC, has_sh, hs_1, hs_2, hs_3, hs_4, hs_5, hs_6, hs_47, hs_48, hs_49, hs_50, hs_51, hs_52, hs_54, hs_55, hs_56, hs_57, hs_58, hs_59, hs_60, hs_61, hs_62, hs_63, hs_184, hs_185, hs_186, hs_187, hs_188, hs_189, hs_190, hs_191, hs_192, hs_193, hs_194, hs_195, hs_196, hs_197, hs_198, hs_199, hs_200, hs_201, hs_202, hs_203, hs_204, hs_205, hs_206, hs_207, hs_208, hs_209, hs_210, hs_211, hs_212, hs_213, hs_214, hs_215, hs_216, hs_217, hs_218, hs_219, hs_220, hs_221, hs_222, hs_223, hs_224, hs_ru, hs_ru0, hs_ru1, hs_ru2, hs_wi, hs_wi0, hs_wi1, hs_wi2, hs_pi, hs_pi0, hs_pa, hs_pa0, tb_2, tb_3, tb_4, tb_6, tb_48, tb_49, tb_51, tb_52, tb_54, tb_55, tb_57, tb_58, tb_60, tb_62, tb_63, tb_185, tb_186, tb_187, tb_188, tb_189, tb_190, tb_191, tb_192, tb_193, tb_194, tb_195, tb_196, tb_197, tb_198, tb_199, tb_200, tb_201, tb_202, tb_203, tb_204, tb_205, tb_206, tb_207, tb_208, tb_209, tb_210, tb_211, tb_212, tb_213, tb_214, tb_215, tb_216, tb_217, tb_218, tb_219, tb_220, tb_221, tb_222, tb_223, tb_224, tb_ru0, tb_ru1, tb_ru2, tb_wi0, tb_wi1, tb_wi2, tb_pi0, tb_pa0, sr1_0, sr1_1, sr1_2, sr1_3, sr1_4, sr1_5, sr1_6, sr1_7, sr1_8, sr1_9, sr5_0, sr47_0, sr47_1, sr50_0, sr50_1, sr50_3, sr50_4, sr56_0, sr56_1, sr59_0, sr61_0, sr184_1, sr184_3, sr184_4, sr184_5, sr184_7, sr184_8, sr184_9, sr184_10, sr184_11, sr184_12, sr184_13, sr184_14, sr184_16, sr184_18, sr184_19, sr184_20, sr184_21, sr184_22, sr184_23, sr184_24, sr184_25, sr184_27, sr184_32, sr184_33, sr184_34, sr184_35, sr184_36, sr184_37, sr184_38, sr184_40, sr184_41, sr184_44, sr184_45, sr184_50, sr184_51, sr184_52, sr184_53, sr184_54, sr184_55, sr184_57, sr2, sr3, sr4, sr6, srru0, srru1, srru2, srwi0, srwi1, srwi2, srpi0, srpa0, Sh_wI, Sh_wL, Sh_wC, if_true, zb_0, zb_1, Option.bind_some, has_wI, has_wL, has_wC, rR_wI, rR_wL, rR_wC, hB1, l8, if_false, t31, u2, nI_1]
theorem e_ed45 (ha : a < 8) : ∀ (d k n : Nat) (B : Mm), k + d = 40 → d < n → Sh B → ∃ B', s_m11_edition_45 n 184 (nI a) (nI k) B = s_m11_edition_71 FU 184 (nI a) 0 B' ∧ Wr (fun k s => k = 223 ∧ 40 * a ≤ s ∧ s < 40 * a + 40) B B' ∧ ∀ p, p < 40 → rI B' 223 (40 * a + p) = if k ≤ p then 0 else rI B 223 (40 * a + p)
  | 0, k, n + 1, B, hk, _, hB => by
    have l : (40 : Int32) ≤ nI k := nI_le (a := 40) (by omega) (by omega)
    refine ⟨B, ?_, Wr.rf _ _, fun p hp => by rw [if_neg (by omega)]⟩
    simp only [s_m11_edition_45, l, if_true]
  | d + 1, k, n + 1, B, hk, hn, hB => by
    have l : ¬ (40 : Int32) ≤ nI k := nI_ge (b := 40) (by omega) (by omega)
    have j1 : (40 : Int32) * nI a + nI k = nI (40 * a + k) := by rw [show (40 : Int32) = nI 40 from rfl, pk_mul, nI_add]
    have i1 : inb (nI (40 * a + k)) 320 = true := inb_nI (by omega) (by omega)
    have i2 := nI_clamp (show 40 * a + k < 2 ^ 31 by omega)
    have w0 : Wr (fun k s => k = 223 ∧ 40 * a ≤ s ∧ s < 40 * a + 40) B (wI B 223 (40 * a + k) 0) := (Wr.rf _ _).wI ⟨rfl, by omega, by omega⟩
    obtain ⟨B', u1, u2, u3⟩ := e_ed45 ha d (k + 1) n (wI B 223 (40 * a + k) 0) (by omega) (by omega) hB
    refine ⟨B', ?_, w0.tr u2, fun p hp => ?_⟩
    · rw [← u1]
      simp only [s_m11_edition_45, gI, gL, gR, pI, pZ, pL, pR, aI, aR, sI, sR, al, dz, rz, cl, cp, tL, tC, has_sh, hs_1, hs_2, hs_3, hs_4, hs_5, hs_6, hs_47, hs_48, hs_49, hs_50, hs_51, hs_52, hs_54, hs_55, hs_56, hs_57, hs_58, hs_59, hs_60, hs_61, hs_62, hs_63, hs_184, hs_185, hs_186, hs_187, hs_188, hs_189, hs_190, hs_191, hs_192, hs_193, hs_194, hs_195, hs_196, hs_197, hs_198, hs_199, hs_200, hs_201, hs_202, hs_203, hs_204, hs_205, hs_206, hs_207, hs_208, hs_209, hs_210, hs_211, hs_212, hs_213, hs_214, hs_215, hs_216, hs_217, hs_218, hs_219, hs_220, hs_221, hs_222, hs_223, hs_224, hs_ru, hs_ru0, hs_ru1, hs_ru2, hs_wi, hs_wi0, hs_wi1, hs_wi2, hs_pi, hs_pi0, hs_pa, hs_pa0, tb_2, tb_3, tb_4, tb_6, tb_48, tb_49, tb_51, tb_52, tb_54, tb_55, tb_57, tb_58, tb_60, tb_62, tb_63, tb_185, tb_186, tb_187, tb_188, tb_189, tb_190, tb_191, tb_192, tb_193, tb_194, tb_195, tb_196, tb_197, tb_198, tb_199, tb_200, tb_201, tb_202, tb_203, tb_204, tb_205, tb_206, tb_207, tb_208, tb_209, tb_210, tb_211, tb_212, tb_213, tb_214, tb_215, tb_216, tb_217, tb_218, tb_219, tb_220, tb_221, tb_222, tb_223, tb_224, tb_ru0, tb_ru1, tb_ru2, tb_wi0, tb_wi1, tb_wi2, tb_pi0, tb_pa0, sr1_0, sr1_1, sr1_2, sr1_3, sr1_4, sr1_5, sr1_6, sr1_7, sr1_8, sr1_9, sr5_0, sr47_0, sr47_1, sr50_0, sr50_1, sr50_3, sr50_4, sr56_0, sr56_1, sr59_0, sr61_0, sr184_1, sr184_3, sr184_4, sr184_5, sr184_7, sr184_8, sr184_9, sr184_10, sr184_11, sr184_12, sr184_13, sr184_14, sr184_16, sr184_18, sr184_19, sr184_20, sr184_21, sr184_22, sr184_23, sr184_24, sr184_25, sr184_27, sr184_32, sr184_33, sr184_34, sr184_35, sr184_36, sr184_37, sr184_38, sr184_40, sr184_41, sr184_44, sr184_45, sr184_50, sr184_51, sr184_52, sr184_53, sr184_54, sr184_55, sr184_57, sr2, sr3, sr4, sr6, srru0, srru1, srru2, srwi0, srwi1, srwi2, srpi0, srpa0, Sh_wI, Sh_wL, Sh_wC, if_true, zb_0, zb_1, Option.bind_some, has_wI, has_wL, has_wC, rR_wI, rR_wL, rR_wC, hB, l, if_false, j1, i1, i2, nI_1]
    · rw [u3 p hp, rI_wI]
      by_cases e1 : p = k
      · rw [if_neg (by omega), if_pos (by omega), if_pos (by omega)]
      · by_cases e2 : k ≤ p
        · rw [if_pos (by omega), if_pos e2]
        · rw [if_neg (by omega), if_neg (by omega), if_neg e2]
theorem e_ed71 (ha : a < 8) {off : Nat} (o480 : off ≤ 480) {t : Int32} : ∀ (d j n : Nat) (B : Mm), j + d = off → d < n → Sh B → rI B 184 46 = nI off → rI B 184 31 = t → (∀ j, j < off → ∃ q, q < 40 ∧ rI B 217 j = nI q) → ∃ B', s_m11_edition_71 n 184 (nI a) (nI j) B = some (nI off, wI (wI (wI B' 220 a 1) 221 a t) 222 a (nI off)) ∧ Wr (fun k s => k = 223 ∧ 40 * a ≤ s ∧ s < 40 * a + 40) B B' ∧ ∀ p, p < 40 → ((∃ i, j ≤ i ∧ i < off ∧ rI B 217 i = nI p) → rI B' 223 (40 * a + p) = 1) ∧ (¬ (∃ i, j ≤ i ∧ i < off ∧ rI B 217 i = nI p) → rI B' 223 (40 * a + p) = rI B 223 (40 * a + p))
  | 0, j, n + 1, B, hj, _, hB, h46, h31, hq => by
    have i1 : inb (nI a) 8 = true := inb_nI ha (by omega)
    have i2 := nI_clamp (show a < 2 ^ 31 by omega)
    have g31 : rI (wI B 220 a 1) 184 31 = t := by rw [rI_wI, if_neg (by omega)]; exact h31
    have g46 : rI (wI (wI B 220 a 1) 221 a t) 184 46 = nI off := by rw [rI_wI, if_neg (by omega), rI_wI, if_neg (by omega)]; exact h46
    have k46 : rI (wI (wI (wI B 220 a 1) 221 a t) 222 a (nI off)) 184 46 = nI off := by rw [rI_wI, if_neg (by omega)]; exact g46
    refine ⟨B, ?_, Wr.rf _ _, fun p hp => ⟨?_, fun _ => rfl⟩⟩
    · simp only [s_m11_edition_71, gI, gL, gR, pI, pZ, pL, pR, aI, aR, sI, sR, al, dz, rz, cl, cp, tL, tC, has_sh, hs_1, hs_2, hs_3, hs_4, hs_5, hs_6, hs_47, hs_48, hs_49, hs_50, hs_51, hs_52, hs_54, hs_55, hs_56, hs_57, hs_58, hs_59, hs_60, hs_61, hs_62, hs_63, hs_184, hs_185, hs_186, hs_187, hs_188, hs_189, hs_190, hs_191, hs_192, hs_193, hs_194, hs_195, hs_196, hs_197, hs_198, hs_199, hs_200, hs_201, hs_202, hs_203, hs_204, hs_205, hs_206, hs_207, hs_208, hs_209, hs_210, hs_211, hs_212, hs_213, hs_214, hs_215, hs_216, hs_217, hs_218, hs_219, hs_220, hs_221, hs_222, hs_223, hs_224, hs_ru, hs_ru0, hs_ru1, hs_ru2, hs_wi, hs_wi0, hs_wi1, hs_wi2, hs_pi, hs_pi0, hs_pa, hs_pa0, tb_2, tb_3, tb_4, tb_6, tb_48, tb_49, tb_51, tb_52, tb_54, tb_55, tb_57, tb_58, tb_60, tb_62, tb_63, tb_185, tb_186, tb_187, tb_188, tb_189, tb_190, tb_191, tb_192, tb_193, tb_194, tb_195, tb_196, tb_197, tb_198, tb_199, tb_200, tb_201, tb_202, tb_203, tb_204, tb_205, tb_206, tb_207, tb_208, tb_209, tb_210, tb_211, tb_212, tb_213, tb_214, tb_215, tb_216, tb_217, tb_218, tb_219, tb_220, tb_221, tb_222, tb_223, tb_224, tb_ru0, tb_ru1, tb_ru2, tb_wi0, tb_wi1, tb_wi2, tb_pi0, tb_pa0, sr1_0, sr1_1, sr1_2, sr1_3, sr1_4, sr1_5, sr1_6, sr1_7, sr1_8, sr1_9, sr5_0, sr47_0, sr47_1, sr50_0, sr50_1, sr50_3, sr50_4, sr56_0, sr56_1, sr59_0, sr61_0, sr184_1, sr184_3, sr184_4, sr184_5, sr184_7, sr184_8, sr184_9, sr184_10, sr184_11, sr184_12, sr184_13, sr184_14, sr184_16, sr184_18, sr184_19, sr184_20, sr184_21, sr184_22, sr184_23, sr184_24, sr184_25, sr184_27, sr184_32, sr184_33, sr184_34, sr184_35, sr184_36, sr184_37, sr184_38, sr184_40, sr184_41, sr184_44, sr184_45, sr184_50, sr184_51, sr184_52, sr184_53, sr184_54, sr184_55, sr184_57, sr2, sr3, sr4, sr6, srru0, srru1, srru2, srwi0, srwi1, srwi2, srpi0, srpa0, Sh_wI, Sh_wL, Sh_wC, if_true, zb_0, zb_1, Option.bind_some, has_wI, has_wL, has_wC, rR_wI, rR_wL, rR_wC, hB, h46, nI_le (show off ≤ j by omega) (by omega), i1, i2, g31, g46, k46]
    · rintro ⟨i, g1, g2, -⟩
      omega
  | d + 1, j, n + 1, B, hj, hn, hB, h46, h31, hq => by
    obtain ⟨q, q40, eq⟩ := hq j (by omega)
    have j1 : (40 : Int32) * nI a + nI q = nI (40 * a + q) := by rw [show (40 : Int32) = nI 40 from rfl, pk_mul, nI_add]
    have i1 : inb (nI (40 * a + q)) 320 = true := inb_nI (by omega) (by omega)
    have i2 := nI_clamp (show 40 * a + q < 2 ^ 31 by omega)
    have i3 : inb (nI j) 700 = true := inb_nI (by omega) (by omega)
    have i4 := nI_clamp (show j < 2 ^ 31 by omega)
    have w0 : Wr (fun k s => k = 223 ∧ 40 * a ≤ s ∧ s < 40 * a + 40) B (wI B 223 (40 * a + q) 1) := (Wr.rf _ _).wI ⟨rfl, by omega, by omega⟩
    have e217 : ∀ i, rI (wI B 223 (40 * a + q) 1) 217 i = rI B 217 i := fun i => by rw [rI_wI, if_neg (by omega)]
    obtain ⟨B', u1, u2, u3⟩ := e_ed71 ha o480 (t := t) d (j + 1) n (wI B 223 (40 * a + q) 1) (by omega) (by omega) hB (by rw [rI_wI, if_neg (by omega)]; exact h46) (by rw [rI_wI, if_neg (by omega)]; exact h31) (fun i hi => by rw [e217]; exact hq i hi)
    refine ⟨B', ?_, w0.tr u2, fun p hp => ?_⟩
    · rw [← u1]
      simp only [s_m11_edition_71, gI, gL, gR, pI, pZ, pL, pR, aI, aR, sI, sR, al, dz, rz, cl, cp, tL, tC, has_sh, hs_1, hs_2, hs_3, hs_4, hs_5, hs_6, hs_47, hs_48, hs_49, hs_50, hs_51, hs_52, hs_54, hs_55, hs_56, hs_57, hs_58, hs_59, hs_60, hs_61, hs_62, hs_63, hs_184, hs_185, hs_186, hs_187, hs_188, hs_189, hs_190, hs_191, hs_192, hs_193, hs_194, hs_195, hs_196, hs_197, hs_198, hs_199, hs_200, hs_201, hs_202, hs_203, hs_204, hs_205, hs_206, hs_207, hs_208, hs_209, hs_210, hs_211, hs_212, hs_213, hs_214, hs_215, hs_216, hs_217, hs_218, hs_219, hs_220, hs_221, hs_222, hs_223, hs_224, hs_ru, hs_ru0, hs_ru1, hs_ru2, hs_wi, hs_wi0, hs_wi1, hs_wi2, hs_pi, hs_pi0, hs_pa, hs_pa0, tb_2, tb_3, tb_4, tb_6, tb_48, tb_49, tb_51, tb_52, tb_54, tb_55, tb_57, tb_58, tb_60, tb_62, tb_63, tb_185, tb_186, tb_187, tb_188, tb_189, tb_190, tb_191, tb_192, tb_193, tb_194, tb_195, tb_196, tb_197, tb_198, tb_199, tb_200, tb_201, tb_202, tb_203, tb_204, tb_205, tb_206, tb_207, tb_208, tb_209, tb_210, tb_211, tb_212, tb_213, tb_214, tb_215, tb_216, tb_217, tb_218, tb_219, tb_220, tb_221, tb_222, tb_223, tb_224, tb_ru0, tb_ru1, tb_ru2, tb_wi0, tb_wi1, tb_wi2, tb_pi0, tb_pa0, sr1_0, sr1_1, sr1_2, sr1_3, sr1_4, sr1_5, sr1_6, sr1_7, sr1_8, sr1_9, sr5_0, sr47_0, sr47_1, sr50_0, sr50_1, sr50_3, sr50_4, sr56_0, sr56_1, sr59_0, sr61_0, sr184_1, sr184_3, sr184_4, sr184_5, sr184_7, sr184_8, sr184_9, sr184_10, sr184_11, sr184_12, sr184_13, sr184_14, sr184_16, sr184_18, sr184_19, sr184_20, sr184_21, sr184_22, sr184_23, sr184_24, sr184_25, sr184_27, sr184_32, sr184_33, sr184_34, sr184_35, sr184_36, sr184_37, sr184_38, sr184_40, sr184_41, sr184_44, sr184_45, sr184_50, sr184_51, sr184_52, sr184_53, sr184_54, sr184_55, sr184_57, sr2, sr3, sr4, sr6, srru0, srru1, srru2, srwi0, srwi1, srwi2, srpi0, srpa0, Sh_wI, Sh_wL, Sh_wC, if_true, zb_0, zb_1, Option.bind_some, has_wI, has_wL, has_wC, rR_wI, rR_wL, rR_wC, hB, h46, nI_ge (show j < off by omega) (by omega), if_false, i3, i4, eq, j1, i1, i2, nI_1]
    · obtain ⟨g1, g2⟩ := u3 p hp
      simp only [e217] at g1 g2
      by_cases z : ∃ i, j + 1 ≤ i ∧ i < off ∧ rI B 217 i = nI p
      · refine ⟨fun _ => g1 z, fun n => absurd ?_ n⟩
        obtain ⟨i, z1, z2, z3⟩ := z
        exact ⟨i, by omega, z2, z3⟩
      · rw [g2 z, rI_wI]
        by_cases e : p = q
        · rw [if_pos (by omega)]
          refine ⟨fun _ => rfl, fun n => absurd ⟨j, Nat.le_refl j, by omega, by rw [eq, e]⟩ n⟩
        · rw [if_neg (by omega)]
          refine ⟨?_, fun _ => rfl⟩
          rintro ⟨i, z1, z2, z3⟩
          by_cases e2 : i = j
          · rw [e2, eq] at z3
            exact absurd ((nI_eq (by omega) (by omega)).1 z3).symm e
          · exact absurd ⟨i, by omega, z2, z3⟩ z
end EDI
