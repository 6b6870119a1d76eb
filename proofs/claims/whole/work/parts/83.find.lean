/-! LAYER 2: text: the class's bits -/
/-- had, of this story and usable; killed by one of the first -/
def prh (B : Mm) (a s : Nat) (t : Int32) (q : Nat) : Bool := decide (q < nP B) && hsn B a t q && decide (rI B 190 q = nI s) && (!decide (rI B 189 q = 5) || !decide (t < rI B 195 q))
def kil (B : Mm) (a s : Nat) (t : Int32) (k : Nat) : Bool := decide (k < nP B) && hsn B a t k && decide (rI B 190 k = nI s) && decide (rI B 189 k = 4)
def kx (B : Mm) (a s : Nat) (t : Int32) (q : Nat) : Nat → Bool
  | 0 => false
  | k + 1 => kx B a s t q k || (kil B a s t k && decide (rI B 194 k = nI q))
section FND
variable {c : Nat} {A0 A B0 B : Mm}
theorem e_hadBy (hA : Sh A) {a p : Nat} (ha : a < 8) (hp : p < 40) (t : Int32) : s_m2_hadBy (168 + 2 * a) (nI p) t A = some (if rI A (169 + 2 * a) p = -1 then 0 else if t < rI A (169 + 2 * a) p then 0 else 1, A) := by
  have i1 : inb (nI p) 40 = true := inb_nI hp (by omega)
  have i2 := nI_clamp (show p < 2 ^ 31 by omega)
  simp only [s_m2_hadBy_25, s_m2_hadBy_24, s_m2_hadBy, gI, gL, gR, pI, pZ, pL, pR, aI, aR, sI, sR, al, dz, rz, cl, cp, tL, tC, has_sh, hs_1, hs_2, hs_3, hs_4, hs_5, hs_6, hs_47, hs_48, hs_49, hs_50, hs_51, hs_52, hs_54, hs_55, hs_56, hs_57, hs_58, hs_59, hs_60, hs_61, hs_62, hs_63, hs_184, hs_185, hs_186, hs_187, hs_188, hs_189, hs_190, hs_191, hs_192, hs_193, hs_194, hs_195, hs_196, hs_197, hs_198, hs_199, hs_200, hs_201, hs_202, hs_203, hs_204, hs_205, hs_206, hs_207, hs_208, hs_209, hs_210, hs_211, hs_212, hs_213, hs_214, hs_215, hs_216, hs_217, hs_218, hs_219, hs_220, hs_221, hs_222, hs_223, hs_224, hs_ru, hs_ru0, hs_ru1, hs_ru2, hs_wi, hs_wi0, hs_wi1, hs_wi2, hs_pi, hs_pi0, hs_pa, hs_pa0, tb_2, tb_3, tb_4, tb_6, tb_48, tb_49, tb_51, tb_52, tb_54, tb_55, tb_57, tb_58, tb_60, tb_62, tb_63, tb_185, tb_186, tb_187, tb_188, tb_189, tb_190, tb_191, tb_192, tb_193, tb_194, tb_195, tb_196, tb_197, tb_198, tb_199, tb_200, tb_201, tb_202, tb_203, tb_204, tb_205, tb_206, tb_207, tb_208, tb_209, tb_210, tb_211, tb_212, tb_213, tb_214, tb_215, tb_216, tb_217, tb_218, tb_219, tb_220, tb_221, tb_222, tb_223, tb_224, tb_ru0, tb_ru1, tb_ru2, tb_wi0, tb_wi1, tb_wi2, tb_pi0, tb_pa0, sr1_0, sr1_1, sr1_2, sr1_3, sr1_4, sr1_5, sr1_6, sr1_7, sr1_8, sr1_9, sr5_0, sr47_0, sr47_1, sr50_0, sr50_1, sr50_3, sr50_4, sr56_0, sr56_1, sr59_0, sr61_0, sr184_1, sr184_3, sr184_4, sr184_5, sr184_7, sr184_8, sr184_9, sr184_10, sr184_11, sr184_12, sr184_13, sr184_14, sr184_16, sr184_18, sr184_19, sr184_20, sr184_21, sr184_22, sr184_23, sr184_24, sr184_25, sr184_27, sr184_32, sr184_33, sr184_34, sr184_35, sr184_36, sr184_37, sr184_38, sr184_40, sr184_41, sr184_44, sr184_45, sr184_50, sr184_51, sr184_52, sr184_53, sr184_54, sr184_55, sr184_57, sr2, sr3, sr4, sr6, srru0, srru1, srru2, srwi0, srwi1, srwi2, srpi0, srpa0, Sh_wI, Sh_wL, Sh_wC, if_true, zb_0, zb_1, Option.bind_some, has_wI, has_wL, has_wC, rR_wI, rR_wL, rR_wC, hA, ha, i1, i2]
  by_cases c1 : rI A (169 + 2 * a) p = -1
  · simp [c1]
  · by_cases c2 : t < rI A (169 + 2 * a) p <;> simp [c1, c2]
theorem e_find9 (h : Inv c (mg A0 B0)) {a s : Nat} (ha : a < 8) (t : Int32) : ∀ (d i n : Nat) (A : Mm) (l4 l6 : Int64), i + d = 40 → d < n → Vx B0 A a → (∀ q, q < 40 → bit l4 q = (decide (q < i) && prh B0 a s t q)) → (∀ q, q < 40 → bit l6 q = kx B0 a s t q i) →
    ∃ x : Int64, s_m7_findThere_9 n 50 (nI s) (168 + 2 * a) t l4 l6 (nI i) A = some ((), wL A 50 5 x) ∧ ∀ q, q < 40 → bit x q = (prh B0 a s t q && !kx B0 a s t q 40)
  | 0, i, n + 1, A, l4, l6, hi, _, hA, h4, h6 => by
    have e : i = 40 := by omega
    subst e
    have hA1 := hA.1
    have h50 := hA.2.1
    have t3 : (Int32.ofNat 40 : Int32) ≤ nI 40 := by decide
    refine ⟨l4 &&& (l6 ^^^ (-1 : Int64)), ?_, fun q hq => ?_⟩
    · simp only [s_m7_findThere_9, gI, gL, gR, pI, pZ, pL, pR, aI, aR, sI, sR, al, dz, rz, cl, cp, tL, tC, has_sh, hs_1, hs_2, hs_3, hs_4, hs_5, hs_6, hs_47, hs_48, hs_49, hs_50, hs_51, hs_52, hs_54, hs_55, hs_56, hs_57, hs_58, hs_59, hs_60, hs_61, hs_62, hs_63, hs_184, hs_185, hs_186, hs_187, hs_188, hs_189, hs_190, hs_191, hs_192, hs_193, hs_194, hs_195, hs_196, hs_197, hs_198, hs_199, hs_200, hs_201, hs_202, hs_203, hs_204, hs_205, hs_206, hs_207, hs_208, hs_209, hs_210, hs_211, hs_212, hs_213, hs_214, hs_215, hs_216, hs_217, hs_218, hs_219, hs_220, hs_221, hs_222, hs_223, hs_224, hs_ru, hs_ru0, hs_ru1, hs_ru2, hs_wi, hs_wi0, hs_wi1, hs_wi2, hs_pi, hs_pi0, hs_pa, hs_pa0, tb_2, tb_3, tb_4, tb_6, tb_48, tb_49, tb_51, tb_52, tb_54, tb_55, tb_57, tb_58, tb_60, tb_62, tb_63, tb_185, tb_186, tb_187, tb_188, tb_189, tb_190, tb_191, tb_192, tb_193, tb_194, tb_195, tb_196, tb_197, tb_198, tb_199, tb_200, tb_201, tb_202, tb_203, tb_204, tb_205, tb_206, tb_207, tb_208, tb_209, tb_210, tb_211, tb_212, tb_213, tb_214, tb_215, tb_216, tb_217, tb_218, tb_219, tb_220, tb_221, tb_222, tb_223, tb_224, tb_ru0, tb_ru1, tb_ru2, tb_wi0, tb_wi1, tb_wi2, tb_pi0, tb_pa0, sr1_0, sr1_1, sr1_2, sr1_3, sr1_4, sr1_5, sr1_6, sr1_7, sr1_8, sr1_9, sr5_0, sr47_0, sr47_1, sr50_0, sr50_1, sr50_3, sr50_4, sr56_0, sr56_1, sr59_0, sr61_0, sr184_1, sr184_3, sr184_4, sr184_5, sr184_7, sr184_8, sr184_9, sr184_10, sr184_11, sr184_12, sr184_13, sr184_14, sr184_16, sr184_18, sr184_19, sr184_20, sr184_21, sr184_22, sr184_23, sr184_24, sr184_25, sr184_27, sr184_32, sr184_33, sr184_34, sr184_35, sr184_36, sr184_37, sr184_38, sr184_40, sr184_41, sr184_44, sr184_45, sr184_50, sr184_51, sr184_52, sr184_53, sr184_54, sr184_55, sr184_57, sr2, sr3, sr4, sr6, srru0, srru1, srru2, srwi0, srwi1, srwi2, srpi0, srpa0, Sh_wI, Sh_wL, Sh_wC, if_true, zb_0, zb_1, Option.bind_some, has_wI, has_wL, has_wC, rR_wI, rR_wL, rR_wC, hA1, h50, t3]
    · rw [bit_and, bit_not _ (show q < 64 by omega), h4 q hq, h6 q hq]
      simp [hq]
  | d + 1, i, n + 1, A, l4, l6, hi, hd, hA, h4, h6 => by
    have hA1 := hA.1
    have h50 := hA.2.1
    have hP := h.ple
    have t3 : ¬ (Int32.ofNat 40 : Int32) ≤ nI i := nI_ge (b := 40) (by omega) (by omega)
    have i40 : i < 40 := by omega
    have i1 : inb (nI i) 40 = true := inb_nI i40 (by omega)
    have i2 := nI_clamp (show i < 2 ^ 31 by omega)
    have hb := e_hadBy hA1 ha i40 t
    have h4' := hA.2.2.2 i i40
    -- what the next round wants
    have skip : prh B0 a s t i = false → kil B0 a s t i = false → ∃ x : Int64, s_m7_findThere_9 n 50 (nI s) (168 + 2 * a) t l4 l6 (nI (i + 1)) A = some ((), wL A 50 5 x) ∧ ∀ q, q < 40 → bit x q = (prh B0 a s t q && !kx B0 a s t q 40) := fun z1 z2 => by
      refine e_find9 h ha t d (i + 1) n A l4 l6 (by omega) (by omega) hA (fun q hq => ?_) (fun q hq => ?_)
      · rw [h4 q hq]
        by_cases e : q = i
        · rw [e, z1]; simp
        · by_cases e2 : q < i
          · simp [e2, show q < i + 1 by omega]
          · simp [e2, show ¬ q < i + 1 by omega]
      · rw [h6 q hq]
        show _ = (kx B0 a s t q i || (kil B0 a s t i && _))
        rw [z2]; simp
    by_cases hi2 : i < nP B0
    · rw [if_pos hi2] at h4'
      obtain ⟨f1, f2, f5, f6, f7⟩ := (hA.2.2.1 i hi2).1
      by_cases c1 : hsn B0 a t i = true
      · have hb1 : s_m2_hadBy (168 + 2 * a) (nI i) t A = some (1, A) := by
          unfold hsn at c1
          rw [hb, h4']
          by_cases z1 : rI B0 212 (40 * a + i) = -1
          · simp [z1] at c1
          · by_cases z2 : t < rI B0 212 (40 * a + i)
            · simp [z2] at c1
            · rw [if_neg z1, if_neg z2]
        by_cases c2 : rI B0 190 i = nI s
        · -- of this story
          have go : ∀ (u v : Int64), (∀ q, q < 40 → bit u q = (bit l4 q || (decide (q = i) && prh B0 a s t i))) → (∀ q, q < 40 → bit v q = (bit l6 q || (kil B0 a s t i && decide (rI B0 194 i = nI q)))) → ∃ x : Int64, s_m7_findThere_9 n 50 (nI s) (168 + 2 * a) t u v (nI (i + 1)) A = some ((), wL A 50 5 x) ∧ ∀ q, q < 40 → bit x q = (prh B0 a s t q && !kx B0 a s t q 40) := fun u v hu hv => by
            refine e_find9 h ha t d (i + 1) n A u v (by omega) (by omega) hA (fun q hq => ?_) (fun q hq => ?_)
            · rw [hu q hq, h4 q hq]
              by_cases e : q = i
              · subst e; simp
              · by_cases e2 : q < i
                · simp [e, e2, show q < i + 1 by omega]
                · simp [e, e2, show ¬ q < i + 1 by omega]
            · rw [hv q hq, h6 q hq]
              rfl
          -- the bit that is set, the one that is killed
          have tail : ∀ (w : Int64), (∀ q, q < 40 → bit w q = (bit l4 q || (decide (q = i) && prh B0 a s t i))) → ∃ x : Int64, (if ¬ rI B0 189 i = (4 : Int32) then s_m7_findThere_9 n 50 (nI s) (168 + 2 * a) t w (l6 ||| (0 : Int64)) (nI (i + 1)) A else s_m7_findThere_9 n 50 (nI s) (168 + 2 * a) t w (l6 ||| ((1 : Int64) <<< ((rI B0 194 i).toInt64 &&& 63))) (nI (i + 1)) A) = some ((), wL A 50 5 x) ∧ ∀ q, q < 40 → bit x q = (prh B0 a s t q && !kx B0 a s t q 40) := fun w hw => by
            by_cases k4 : rI B0 189 i = 4
            · rw [if_neg (fun z => z k4)]
              obtain ⟨k, s', b, tt, z, g1, g2, -, -, -, -, -, -, -, -, -, -, -, -, g3⟩ := h.pm hi2
              have k4' : k = 4 := (nI_eq (by omega) (b := 4) (by omega)).1 (g1.symm.trans k4)
              obtain ⟨q', kq, zq, q1, q2, -⟩ := g3 (by omega)
              rw [q2]
              refine go w _ hw (fun q hq => ?_)
              rw [bit_or, bit_1 q (show q' < 64 by omega)]
              have e1 : kil B0 a s t i = true := by unfold kil; simp [hi2, c1, c2, k4]
              rw [e1, q2, Bool.true_and]
              congr 1
              by_cases e : q = q'
              · rw [e]; simp
              · have : ¬ nI q' = nI q := fun z => e ((nI_eq (by omega) (by omega)).1 z).symm
                simp [e, this]
            · rw [if_pos k4]
              refine go w _ hw (fun q hq => ?_)
              have e1 : kil B0 a s t i = false := by unfold kil; simp [k4]
              rw [bit_or, bit_0, e1]
              simp
          by_cases k5 : rI B0 189 i = 5 ∧ t < rI B0 195 i
          · have hp0 : prh B0 a s t i = false := by unfold prh; simp [k5.1, k5.2]
            obtain ⟨x, x1, x2⟩ := tail (l4 ||| (0 : Int64)) (fun q hq => by rw [bit_or, bit_0, hp0]; simp)
            have nle : ¬ rI B0 195 i ≤ t := Int32.not_le.2 k5.2
            refine ⟨x, ?_, x2⟩
            rw [← x1]
            simp only [s_m7_findThere_9, s_m7_findThere_70, s_m7_findThere_87, s_m7_findThere_112, s_m7_findThere_115, gI, gL, gR, pI, pZ, pL, pR, aI, aR, sI, sR, al, dz, rz, cl, cp, tL, tC, has_sh, hs_1, hs_2, hs_3, hs_4, hs_5, hs_6, hs_47, hs_48, hs_49, hs_50, hs_51, hs_52, hs_54, hs_55, hs_56, hs_57, hs_58, hs_59, hs_60, hs_61, hs_62, hs_63, hs_184, hs_185, hs_186, hs_187, hs_188, hs_189, hs_190, hs_191, hs_192, hs_193, hs_194, hs_195, hs_196, hs_197, hs_198, hs_199, hs_200, hs_201, hs_202, hs_203, hs_204, hs_205, hs_206, hs_207, hs_208, hs_209, hs_210, hs_211, hs_212, hs_213, hs_214, hs_215, hs_216, hs_217, hs_218, hs_219, hs_220, hs_221, hs_222, hs_223, hs_224, hs_ru, hs_ru0, hs_ru1, hs_ru2, hs_wi, hs_wi0, hs_wi1, hs_wi2, hs_pi, hs_pi0, hs_pa, hs_pa0, tb_2, tb_3, tb_4, tb_6, tb_48, tb_49, tb_51, tb_52, tb_54, tb_55, tb_57, tb_58, tb_60, tb_62, tb_63, tb_185, tb_186, tb_187, tb_188, tb_189, tb_190, tb_191, tb_192, tb_193, tb_194, tb_195, tb_196, tb_197, tb_198, tb_199, tb_200, tb_201, tb_202, tb_203, tb_204, tb_205, tb_206, tb_207, tb_208, tb_209, tb_210, tb_211, tb_212, tb_213, tb_214, tb_215, tb_216, tb_217, tb_218, tb_219, tb_220, tb_221, tb_222, tb_223, tb_224, tb_ru0, tb_ru1, tb_ru2, tb_wi0, tb_wi1, tb_wi2, tb_pi0, tb_pa0, sr1_0, sr1_1, sr1_2, sr1_3, sr1_4, sr1_5, sr1_6, sr1_7, sr1_8, sr1_9, sr5_0, sr47_0, sr47_1, sr50_0, sr50_1, sr50_3, sr50_4, sr56_0, sr56_1, sr59_0, sr61_0, sr184_1, sr184_3, sr184_4, sr184_5, sr184_7, sr184_8, sr184_9, sr184_10, sr184_11, sr184_12, sr184_13, sr184_14, sr184_16, sr184_18, sr184_19, sr184_20, sr184_21, sr184_22, sr184_23, sr184_24, sr184_25, sr184_27, sr184_32, sr184_33, sr184_34, sr184_35, sr184_36, sr184_37, sr184_38, sr184_40, sr184_41, sr184_44, sr184_45, sr184_50, sr184_51, sr184_52, sr184_53, sr184_54, sr184_55, sr184_57, sr2, sr3, sr4, sr6, srru0, srru1, srru2, srwi0, srwi1, srwi2, srpi0, srpa0, Sh_wI, Sh_wL, Sh_wC, if_true, zb_0, zb_1, Option.bind_some, has_wI, has_wL, has_wC, rR_wI, rR_wL, rR_wC, hA1, h50, t3, if_false, ha, i1, i2, i40, hb1, ne_1, f1, f2, f6, f7, c2, k5.1, eq_self, not_true_eq_false, nle, nI_1]
          · have hp1 : prh B0 a s t i = true := by
              unfold prh
              by_cases z : rI B0 189 i = 5
              · have z2 : ¬ t < rI B0 195 i := fun y => k5 ⟨z, y⟩
                simp [hi2, c1, c2, z2]
              · simp [hi2, c1, c2, z]
            obtain ⟨x, x1, x2⟩ := tail (l4 ||| ((1 : Int64) <<< ((nI i).toInt64 &&& 63))) (fun q hq => by rw [bit_or, bit_1 q (show i < 64 by omega), hp1]; simp)
            refine ⟨x, ?_, x2⟩
            rw [← x1]
            by_cases z : rI B0 189 i = 5
            · have z2 : rI B0 195 i ≤ t := Int32.not_lt.1 (fun y => k5 ⟨z, y⟩)
              simp only [s_m7_findThere_9, s_m7_findThere_69, s_m7_findThere_70, s_m7_findThere_87, s_m7_findThere_112, s_m7_findThere_115, gI, gL, gR, pI, pZ, pL, pR, aI, aR, sI, sR, al, dz, rz, cl, cp, tL, tC, has_sh, hs_1, hs_2, hs_3, hs_4, hs_5, hs_6, hs_47, hs_48, hs_49, hs_50, hs_51, hs_52, hs_54, hs_55, hs_56, hs_57, hs_58, hs_59, hs_60, hs_61, hs_62, hs_63, hs_184, hs_185, hs_186, hs_187, hs_188, hs_189, hs_190, hs_191, hs_192, hs_193, hs_194, hs_195, hs_196, hs_197, hs_198, hs_199, hs_200, hs_201, hs_202, hs_203, hs_204, hs_205, hs_206, hs_207, hs_208, hs_209, hs_210, hs_211, hs_212, hs_213, hs_214, hs_215, hs_216, hs_217, hs_218, hs_219, hs_220, hs_221, hs_222, hs_223, hs_224, hs_ru, hs_ru0, hs_ru1, hs_ru2, hs_wi, hs_wi0, hs_wi1, hs_wi2, hs_pi, hs_pi0, hs_pa, hs_pa0, tb_2, tb_3, tb_4, tb_6, tb_48, tb_49, tb_51, tb_52, tb_54, tb_55, tb_57, tb_58, tb_60, tb_62, tb_63, tb_185, tb_186, tb_187, tb_188, tb_189, tb_190, tb_191, tb_192, tb_193, tb_194, tb_195, tb_196, tb_197, tb_198, tb_199, tb_200, tb_201, tb_202, tb_203, tb_204, tb_205, tb_206, tb_207, tb_208, tb_209, tb_210, tb_211, tb_212, tb_213, tb_214, tb_215, tb_216, tb_217, tb_218, tb_219, tb_220, tb_221, tb_222, tb_223, tb_224, tb_ru0, tb_ru1, tb_ru2, tb_wi0, tb_wi1, tb_wi2, tb_pi0, tb_pa0, sr1_0, sr1_1, sr1_2, sr1_3, sr1_4, sr1_5, sr1_6, sr1_7, sr1_8, sr1_9, sr5_0, sr47_0, sr47_1, sr50_0, sr50_1, sr50_3, sr50_4, sr56_0, sr56_1, sr59_0, sr61_0, sr184_1, sr184_3, sr184_4, sr184_5, sr184_7, sr184_8, sr184_9, sr184_10, sr184_11, sr184_12, sr184_13, sr184_14, sr184_16, sr184_18, sr184_19, sr184_20, sr184_21, sr184_22, sr184_23, sr184_24, sr184_25, sr184_27, sr184_32, sr184_33, sr184_34, sr184_35, sr184_36, sr184_37, sr184_38, sr184_40, sr184_41, sr184_44, sr184_45, sr184_50, sr184_51, sr184_52, sr184_53, sr184_54, sr184_55, sr184_57, sr2, sr3, sr4, sr6, srru0, srru1, srru2, srwi0, srwi1, srwi2, srpi0, srpa0, Sh_wI, Sh_wL, Sh_wC, if_true, zb_0, zb_1, Option.bind_some, has_wI, has_wL, has_wC, rR_wI, rR_wL, rR_wC, hA1, h50, t3, if_false, ha, i1, i2, i40, hb1, ne_1, f1, f2, f6, f7, c2, z, eq_self, not_true_eq_false, z2, nI_1]
            · simp only [s_m7_findThere_9, s_m7_findThere_69, s_m7_findThere_70, s_m7_findThere_87, s_m7_findThere_112, s_m7_findThere_115, gI, gL, gR, pI, pZ, pL, pR, aI, aR, sI, sR, al, dz, rz, cl, cp, tL, tC, has_sh, hs_1, hs_2, hs_3, hs_4, hs_5, hs_6, hs_47, hs_48, hs_49, hs_50, hs_51, hs_52, hs_54, hs_55, hs_56, hs_57, hs_58, hs_59, hs_60, hs_61, hs_62, hs_63, hs_184, hs_185, hs_186, hs_187, hs_188, hs_189, hs_190, hs_191, hs_192, hs_193, hs_194, hs_195, hs_196, hs_197, hs_198, hs_199, hs_200, hs_201, hs_202, hs_203, hs_204, hs_205, hs_206, hs_207, hs_208, hs_209, hs_210, hs_211, hs_212, hs_213, hs_214, hs_215, hs_216, hs_217, hs_218, hs_219, hs_220, hs_221, hs_222, hs_223, hs_224, hs_ru, hs_ru0, hs_ru1, hs_ru2, hs_wi, hs_wi0, hs_wi1, hs_wi2, hs_pi, hs_pi0, hs_pa, hs_pa0, tb_2, tb_3, tb_4, tb_6, tb_48, tb_49, tb_51, tb_52, tb_54, tb_55, tb_57, tb_58, tb_60, tb_62, tb_63, tb_185, tb_186, tb_187, tb_188, tb_189, tb_190, tb_191, tb_192, tb_193, tb_194, tb_195, tb_196, tb_197, tb_198, tb_199, tb_200, tb_201, tb_202, tb_203, tb_204, tb_205, tb_206, tb_207, tb_208, tb_209, tb_210, tb_211, tb_212, tb_213, tb_214, tb_215, tb_216, tb_217, tb_218, tb_219, tb_220, tb_221, tb_222, tb_223, tb_224, tb_ru0, tb_ru1, tb_ru2, tb_wi0, tb_wi1, tb_wi2, tb_pi0, tb_pa0, sr1_0, sr1_1, sr1_2, sr1_3, sr1_4, sr1_5, sr1_6, sr1_7, sr1_8, sr1_9, sr5_0, sr47_0, sr47_1, sr50_0, sr50_1, sr50_3, sr50_4, sr56_0, sr56_1, sr59_0, sr61_0, sr184_1, sr184_3, sr184_4, sr184_5, sr184_7, sr184_8, sr184_9, sr184_10, sr184_11, sr184_12, sr184_13, sr184_14, sr184_16, sr184_18, sr184_19, sr184_20, sr184_21, sr184_22, sr184_23, sr184_24, sr184_25, sr184_27, sr184_32, sr184_33, sr184_34, sr184_35, sr184_36, sr184_37, sr184_38, sr184_40, sr184_41, sr184_44, sr184_45, sr184_50, sr184_51, sr184_52, sr184_53, sr184_54, sr184_55, sr184_57, sr2, sr3, sr4, sr6, srru0, srru1, srru2, srwi0, srwi1, srwi2, srpi0, srpa0, Sh_wI, Sh_wL, Sh_wC, if_true, zb_0, zb_1, Option.bind_some, has_wI, has_wL, has_wC, rR_wI, rR_wL, rR_wC, hA1, h50, t3, if_false, ha, i1, i2, i40, hb1, ne_1, f1, f2, f6, f7, c2, z, eq_self, not_true_eq_false, not_false_eq_true, nI_1]
        · obtain ⟨x, x1, x2⟩ := skip (by unfold prh; simp [c2]) (by unfold kil; simp [c2])
          refine ⟨x, ?_, x2⟩
          rw [← x1]
          simp only [s_m7_findThere_9, s_m7_findThere_115, gI, gL, gR, pI, pZ, pL, pR, aI, aR, sI, sR, al, dz, rz, cl, cp, tL, tC, has_sh, hs_1, hs_2, hs_3, hs_4, hs_5, hs_6, hs_47, hs_48, hs_49, hs_50, hs_51, hs_52, hs_54, hs_55, hs_56, hs_57, hs_58, hs_59, hs_60, hs_61, hs_62, hs_63, hs_184, hs_185, hs_186, hs_187, hs_188, hs_189, hs_190, hs_191, hs_192, hs_193, hs_194, hs_195, hs_196, hs_197, hs_198, hs_199, hs_200, hs_201, hs_202, hs_203, hs_204, hs_205, hs_206, hs_207, hs_208, hs_209, hs_210, hs_211, hs_212, hs_213, hs_214, hs_215, hs_216, hs_217, hs_218, hs_219, hs_220, hs_221, hs_222, hs_223, hs_224, hs_ru, hs_ru0, hs_ru1, hs_ru2, hs_wi, hs_wi0, hs_wi1, hs_wi2, hs_pi, hs_pi0, hs_pa, hs_pa0, tb_2, tb_3, tb_4, tb_6, tb_48, tb_49, tb_51, tb_52, tb_54, tb_55, tb_57, tb_58, tb_60, tb_62, tb_63, tb_185, tb_186, tb_187, tb_188, tb_189, tb_190, tb_191, tb_192, tb_193, tb_194, tb_195, tb_196, tb_197, tb_198, tb_199, tb_200, tb_201, tb_202, tb_203, tb_204, tb_205, tb_206, tb_207, tb_208, tb_209, tb_210, tb_211, tb_212, tb_213, tb_214, tb_215, tb_216, tb_217, tb_218, tb_219, tb_220, tb_221, tb_222, tb_223, tb_224, tb_ru0, tb_ru1, tb_ru2, tb_wi0, tb_wi1, tb_wi2, tb_pi0, tb_pa0, sr1_0, sr1_1, sr1_2, sr1_3, sr1_4, sr1_5, sr1_6, sr1_7, sr1_8, sr1_9, sr5_0, sr47_0, sr47_1, sr50_0, sr50_1, sr50_3, sr50_4, sr56_0, sr56_1, sr59_0, sr61_0, sr184_1, sr184_3, sr184_4, sr184_5, sr184_7, sr184_8, sr184_9, sr184_10, sr184_11, sr184_12, sr184_13, sr184_14, sr184_16, sr184_18, sr184_19, sr184_20, sr184_21, sr184_22, sr184_23, sr184_24, sr184_25, sr184_27, sr184_32, sr184_33, sr184_34, sr184_35, sr184_36, sr184_37, sr184_38, sr184_40, sr184_41, sr184_44, sr184_45, sr184_50, sr184_51, sr184_52, sr184_53, sr184_54, sr184_55, sr184_57, sr2, sr3, sr4, sr6, srru0, srru1, srru2, srwi0, srwi1, srwi2, srpi0, srpa0, Sh_wI, Sh_wL, Sh_wC, if_true, zb_0, zb_1, Option.bind_some, has_wI, has_wL, has_wC, rR_wI, rR_wL, rR_wC, hA1, h50, t3, if_false, ha, i1, i2, i40, hb1, ne_1, f2, c2, not_false_eq_true, nI_1]
      · have hb0 : s_m2_hadBy (168 + 2 * a) (nI i) t A = some (0, A) := by
          unfold hsn at c1
          rw [hb, h4']
          by_cases z1 : rI B0 212 (40 * a + i) = -1
          · rw [if_pos z1]
          · by_cases z2 : t < rI B0 212 (40 * a + i)
            · rw [if_neg z1, if_pos z2]
            · simp [z1, z2] at c1
        obtain ⟨x, x1, x2⟩ := skip (by unfold prh; simp [c1]) (by unfold kil; simp [c1])
        refine ⟨x, ?_, x2⟩
        rw [← x1]
        simp only [s_m7_findThere_9, s_m7_findThere_115, gI, gL, gR, pI, pZ, pL, pR, aI, aR, sI, sR, al, dz, rz, cl, cp, tL, tC, has_sh, hs_1, hs_2, hs_3, hs_4, hs_5, hs_6, hs_47, hs_48, hs_49, hs_50, hs_51, hs_52, hs_54, hs_55, hs_56, hs_57, hs_58, hs_59, hs_60, hs_61, hs_62, hs_63, hs_184, hs_185, hs_186, hs_187, hs_188, hs_189, hs_190, hs_191, hs_192, hs_193, hs_194, hs_195, hs_196, hs_197, hs_198, hs_199, hs_200, hs_201, hs_202, hs_203, hs_204, hs_205, hs_206, hs_207, hs_208, hs_209, hs_210, hs_211, hs_212, hs_213, hs_214, hs_215, hs_216, hs_217, hs_218, hs_219, hs_220, hs_221, hs_222, hs_223, hs_224, hs_ru, hs_ru0, hs_ru1, hs_ru2, hs_wi, hs_wi0, hs_wi1, hs_wi2, hs_pi, hs_pi0, hs_pa, hs_pa0, tb_2, tb_3, tb_4, tb_6, tb_48, tb_49, tb_51, tb_52, tb_54, tb_55, tb_57, tb_58, tb_60, tb_62, tb_63, tb_185, tb_186, tb_187, tb_188, tb_189, tb_190, tb_191, tb_192, tb_193, tb_194, tb_195, tb_196, tb_197, tb_198, tb_199, tb_200, tb_201, tb_202, tb_203, tb_204, tb_205, tb_206, tb_207, tb_208, tb_209, tb_210, tb_211, tb_212, tb_213, tb_214, tb_215, tb_216, tb_217, tb_218, tb_219, tb_220, tb_221, tb_222, tb_223, tb_224, tb_ru0, tb_ru1, tb_ru2, tb_wi0, tb_wi1, tb_wi2, tb_pi0, tb_pa0, sr1_0, sr1_1, sr1_2, sr1_3, sr1_4, sr1_5, sr1_6, sr1_7, sr1_8, sr1_9, sr5_0, sr47_0, sr47_1, sr50_0, sr50_1, sr50_3, sr50_4, sr56_0, sr56_1, sr59_0, sr61_0, sr184_1, sr184_3, sr184_4, sr184_5, sr184_7, sr184_8, sr184_9, sr184_10, sr184_11, sr184_12, sr184_13, sr184_14, sr184_16, sr184_18, sr184_19, sr184_20, sr184_21, sr184_22, sr184_23, sr184_24, sr184_25, sr184_27, sr184_32, sr184_33, sr184_34, sr184_35, sr184_36, sr184_37, sr184_38, sr184_40, sr184_41, sr184_44, sr184_45, sr184_50, sr184_51, sr184_52, sr184_53, sr184_54, sr184_55, sr184_57, sr2, sr3, sr4, sr6, srru0, srru1, srru2, srwi0, srwi1, srwi2, srpi0, srpa0, Sh_wI, Sh_wL, Sh_wC, if_true, zb_0, zb_1, Option.bind_some, has_wI, has_wL, has_wC, rR_wI, rR_wL, rR_wC, hA1, h50, t3, if_false, ha, i1, i2, i40, hb0, eq_self, nI_1]
    · rw [if_neg hi2] at h4'
      have hb0 : s_m2_hadBy (168 + 2 * a) (nI i) t A = some (0, A) := by rw [hb, h4', if_pos rfl]
      obtain ⟨x, x1, x2⟩ := skip (by unfold prh; simp [hi2]) (by unfold kil; simp [hi2])
      refine ⟨x, ?_, x2⟩
      rw [← x1]
      simp only [s_m7_findThere_9, s_m7_findThere_115, gI, gL, gR, pI, pZ, pL, pR, aI, aR, sI, sR, al, dz, rz, cl, cp, tL, tC, has_sh, hs_1, hs_2, hs_3, hs_4, hs_5, hs_6, hs_47, hs_48, hs_49, hs_50, hs_51, hs_52, hs_54, hs_55, hs_56, hs_57, hs_58, hs_59, hs_60, hs_61, hs_62, hs_63, hs_184, hs_185, hs_186, hs_187, hs_188, hs_189, hs_190, hs_191, hs_192, hs_193, hs_194, hs_195, hs_196, hs_197, hs_198, hs_199, hs_200, hs_201, hs_202, hs_203, hs_204, hs_205, hs_206, hs_207, hs_208, hs_209, hs_210, hs_211, hs_212, hs_213, hs_214, hs_215, hs_216, hs_217, hs_218, hs_219, hs_220, hs_221, hs_222, hs_223, hs_224, hs_ru, hs_ru0, hs_ru1, hs_ru2, hs_wi, hs_wi0, hs_wi1, hs_wi2, hs_pi, hs_pi0, hs_pa, hs_pa0, tb_2, tb_3, tb_4, tb_6, tb_48, tb_49, tb_51, tb_52, tb_54, tb_55, tb_57, tb_58, tb_60, tb_62, tb_63, tb_185, tb_186, tb_187, tb_188, tb_189, tb_190, tb_191, tb_192, tb_193, tb_194, tb_195, tb_196, tb_197, tb_198, tb_199, tb_200, tb_201, tb_202, tb_203, tb_204, tb_205, tb_206, tb_207, tb_208, tb_209, tb_210, tb_211, tb_212, tb_213, tb_214, tb_215, tb_216, tb_217, tb_218, tb_219, tb_220, tb_221, tb_222, tb_223, tb_224, tb_ru0, tb_ru1, tb_ru2, tb_wi0, tb_wi1, tb_wi2, tb_pi0, tb_pa0, sr1_0, sr1_1, sr1_2, sr1_3, sr1_4, sr1_5, sr1_6, sr1_7, sr1_8, sr1_9, sr5_0, sr47_0, sr47_1, sr50_0, sr50_1, sr50_3, sr50_4, sr56_0, sr56_1, sr59_0, sr61_0, sr184_1, sr184_3, sr184_4, sr184_5, sr184_7, sr184_8, sr184_9, sr184_10, sr184_11, sr184_12, sr184_13, sr184_14, sr184_16, sr184_18, sr184_19, sr184_20, sr184_21, sr184_22, sr184_23, sr184_24, sr184_25, sr184_27, sr184_32, sr184_33, sr184_34, sr184_35, sr184_36, sr184_37, sr184_38, sr184_40, sr184_41, sr184_44, sr184_45, sr184_50, sr184_51, sr184_52, sr184_53, sr184_54, sr184_55, sr184_57, sr2, sr3, sr4, sr6, srru0, srru1, srru2, srwi0, srwi1, srwi2, srpi0, srpa0, Sh_wI, Sh_wL, Sh_wC, if_true, zb_0, zb_1, Option.bind_some, has_wI, has_wL, has_wC, rR_wI, rR_wL, rR_wC, hA1, h50, t3, if_false, ha, i1, i2, i40, hb0, eq_self, nI_1]
/-- the class's bits are the pieces that are there -/
theorem thS_bits (h : Inv c (mg A0 B0)) {a s : Nat} (t : Int32) {q : Nat} (hq : q < 40) : (prh B0 a s t q && !kx B0 a s t q 40) = thS B0 a s t q := by
  have hP := h.ple
  unfold prh thS thr
  by_cases c0 : q < nP B0
  · by_cases c1 : rI B0 190 q = nI s
    · -- a killer is of the same story and behind
      have back : ∀ k, k < nP B0 → rI B0 189 k = 4 → rI B0 194 k = nI q → q < k ∧ rI B0 190 k = nI s := fun k hk h4 h6 => by
        obtain ⟨kk, s', b, tt, z, g1, g2, g3, g4, -, -, -, -, -, -, -, -, -, -, g5⟩ := h.pm hk
        have k4' : kk = 4 := (nI_eq (by omega) (b := 4) (by omega)).1 (g1.symm.trans h4)
        obtain ⟨q', kq, zq, q1, q2, q3, -⟩ := g5 (by omega)
        have e : q' = q := (nI_eq (by omega) (by omega)).1 (q2.symm.trans h6)
        subst e
        refine ⟨q1, ?_⟩
        rw [g3, ← q3]; exact c1
      have low : ∀ k, k ≤ q + 1 → k ≤ nP B0 → kx B0 a s t q k = false := fun k => by
        induction k with
        | zero => intro _ _; rfl
        | succ k ih =>
          intro h1 h2
          show (kx B0 a s t q k || (kil B0 a s t k && decide (rI B0 194 k = nI q))) = false
          rw [ih (by omega) (by omega), Bool.false_or]
          by_cases z : kil B0 a s t k = true ∧ rI B0 194 k = nI q
          · have z4 : rI B0 189 k = 4 := by
              have := z.1
              unfold kil at this
              simp only [Bool.and_eq_true, decide_eq_true_eq] at this
              exact this.2
            have := (back k (by omega) z4 z.2).1
            omega
          · by_cases z1 : kil B0 a s t k = true
            · have : ¬ rI B0 194 k = nI q := fun y => z ⟨z1, y⟩
              simp [this]
            · simp [z1]
      have mid : ∀ d k, k + d = nP B0 → q + 1 ≤ k → (kx B0 a s t q (nP B0) = false ↔ kx B0 a s t q k = false ∧ nk B0 a t q d k = true) := fun d => by
        induction d with
        | zero =>
          intro k hk _
          rw [show k = nP B0 by omega]
          simp [nk]
        | succ d ih =>
          intro k hk hqk
          rw [ih (k + 1) (by omega) (by omega)]
          show (kx B0 a s t q k || (kil B0 a s t k && decide (rI B0 194 k = nI q))) = false ∧ _ ↔ _
          rw [nk_s]
          by_cases z : rI B0 189 k = 4 ∧ rI B0 194 k = nI q ∧ hsn B0 a t k = true
          · have hst := (back k (by omega) z.1 z.2.1).2
            have e1 : kil B0 a s t k = true := by unfold kil; simp [show k < nP B0 by omega, z.1, z.2.2, hst]
            rw [if_pos z, e1]
            simp [z.2.1]
          · have e1 : (kil B0 a s t k && decide (rI B0 194 k = nI q)) = false := by
              by_cases y : kil B0 a s t k = true
              · by_cases y2 : rI B0 194 k = nI q
                · unfold kil at y
                  simp only [Bool.and_eq_true, decide_eq_true_eq] at y
                  exact absurd ⟨y.2, y2, y.1.1.2⟩ z
                · simp [y2]
              · simp [y]
            rw [if_neg z, e1, Bool.or_false]
      have top : kx B0 a s t q 40 = kx B0 a s t q (nP B0) := by
        have : ∀ d, kx B0 a s t q (nP B0 + d) = kx B0 a s t q (nP B0) := fun d => by
          induction d with
          | zero => rfl
          | succ d ih =>
            show (kx B0 a s t q (nP B0 + d) || (kil B0 a s t (nP B0 + d) && _)) = _
            rw [ih]
            have : kil B0 a s t (nP B0 + d) = false := by unfold kil; rw [show decide (nP B0 + d < nP B0) = false from decide_eq_false (by omega)]; simp
            rw [this]; simp
        have e := this (40 - nP B0)
        rw [show nP B0 + (40 - nP B0) = 40 by omega] at e
        exact e
      have m := mid (nP B0 - (q + 1)) (q + 1) (by omega) (Nat.le_refl _)
      rw [low (q + 1) (Nat.le_refl _) (by omega)] at m
      rw [top]
      have e2 : (!kx B0 a s t q (nP B0)) = nk B0 a t q (nP B0 - (q + 1)) (q + 1) := by
        by_cases z : kx B0 a s t q (nP B0) = false
        · rw [z, (m.1 z).2]; rfl
        · have z1 : kx B0 a s t q (nP B0) = true := by simpa using z
          have z2 : ¬ nk B0 a t q (nP B0 - (q + 1)) (q + 1) = true := fun y => z (m.2 ⟨rfl, y⟩)
          rw [z1]
          simpa using z2
      rw [e2]
      simp [c0, c1]
    · simp [c1]
  · simp [c0]
end FND
