/-! LAYER 2: what a rule says -/
def vf (B : Mm) (f : Int32) (p : Nat) (a : Int32) : Int32 := if f = 0 then rI B 189 p else if f = 1 then rI B 190 p else if f = 2 then rI B 191 p else if f = 3 then rI B 193 p else a
/-- test j of rule r: the comparison, the whole -/
def tcmp (B : Mm) (r j p : Nat) (a : Int32) : Bool := if rI B 204 (3 * r + j) = 61 then decide (vf B (rI B 203 (3 * r + j)) p a = rI B 205 (3 * r + j)) else if rI B 204 (3 * r + j) = 60 then decide (vf B (rI B 203 (3 * r + j)) p a < rI B 205 (3 * r + j)) else decide (rI B 205 (3 * r + j) < vf B (rI B 203 (3 * r + j)) p a)
def tok (B : Mm) (r j p : Nat) (a : Int32) : Bool := !(decide (rI B 203 (3 * r + j) = 4) && decide (a = -1)) && tcmp B r j p a
def hl (B : Mm) (r p : Nat) (a : Int32) : Nat → Nat → Int32
  | 0, _ => 1
  | d + 1, k => if tok B r k p a = true then hl B r p a d (k + 1) else 0
theorem hl_zb (B : Mm) (r p : Nat) (a : Int32) : ∀ d k, hl B r p a d k = 0 ∨ hl B r p a d k = 1
  | 0, _ => Or.inr rfl
  | d + 1, k => by
    unfold hl
    split
    · exact hl_zb B r p a d (k + 1)
    · exact Or.inl rfl
/-- whether rule r holds for piece p at paper a, in the open tick: 1 or 0 -/
def Hv (B : Mm) (r p : Nat) (a : Int32) : Int32 := if rI B 184 31 < rI B 200 r then 0 else if rI B 184 31 < rI B 201 r then hl B r p a (rI B 202 r).toNatClampNeg 0 else 0
theorem Hv_zb (B : Mm) (r p : Nat) (a : Int32) : Hv B r p a = 0 ∨ Hv B r p a = 1 := by
  unfold Hv
  split
  · exact Or.inl rfl
  · split
    · exact hl_zb B r p a _ _
    · exact Or.inl rfl
section RUL
variable {c : Nat} {A B : Mm}
theorem e_val10 (h : Inv c (mg A B)) {p : Nat} (hp : p < nP B) (f a : Int32) : s_m5_valueOf f (88 + 2 * p) a A = some (vf B f p a, A) := by
  have h2 := h.ple
  have h40 : p < 40 := by omega
  obtain ⟨k1, k2, k3, k4, k5, k6, k7⟩ := h.pk hp
  simp only [s_m5_valueOf, gI, gL, gR, pI, pZ, pL, pR, aI, aR, sI, sR, al, dz, rz, cl, cp, tL, tC, has_sh, hs_1, hs_2, hs_3, hs_4, hs_5, hs_6, hs_47, hs_48, hs_49, hs_50, hs_51, hs_52, hs_54, hs_55, hs_56, hs_57, hs_58, hs_59, hs_60, hs_61, hs_62, hs_63, hs_184, hs_185, hs_186, hs_187, hs_188, hs_189, hs_190, hs_191, hs_192, hs_193, hs_194, hs_195, hs_196, hs_197, hs_198, hs_199, hs_200, hs_201, hs_202, hs_203, hs_204, hs_205, hs_206, hs_207, hs_208, hs_209, hs_210, hs_211, hs_212, hs_213, hs_214, hs_215, hs_216, hs_217, hs_218, hs_219, hs_220, hs_221, hs_222, hs_223, hs_224, hs_ru, hs_ru0, hs_ru1, hs_ru2, hs_wi, hs_wi0, hs_wi1, hs_wi2, hs_pi, hs_pi0, hs_pa, hs_pa0, tb_2, tb_3, tb_4, tb_6, tb_48, tb_49, tb_51, tb_52, tb_54, tb_55, tb_57, tb_58, tb_60, tb_62, tb_63, tb_185, tb_186, tb_187, tb_188, tb_189, tb_190, tb_191, tb_192, tb_193, tb_194, tb_195, tb_196, tb_197, tb_198, tb_199, tb_200, tb_201, tb_202, tb_203, tb_204, tb_205, tb_206, tb_207, tb_208, tb_209, tb_210, tb_211, tb_212, tb_213, tb_214, tb_215, tb_216, tb_217, tb_218, tb_219, tb_220, tb_221, tb_222, tb_223, tb_224, tb_ru0, tb_ru1, tb_ru2, tb_wi0, tb_wi1, tb_wi2, tb_pi0, tb_pa0, sr1_0, sr1_1, sr1_2, sr1_3, sr1_4, sr1_5, sr1_6, sr1_7, sr1_8, sr1_9, sr5_0, sr47_0, sr47_1, sr50_0, sr50_1, sr50_3, sr50_4, sr56_0, sr56_1, sr59_0, sr61_0, sr184_1, sr184_3, sr184_4, sr184_5, sr184_7, sr184_8, sr184_9, sr184_10, sr184_11, sr184_12, sr184_13, sr184_14, sr184_16, sr184_18, sr184_19, sr184_20, sr184_21, sr184_22, sr184_23, sr184_24, sr184_25, sr184_27, sr184_32, sr184_33, sr184_34, sr184_35, sr184_36, sr184_37, sr184_38, sr184_40, sr184_41, sr184_44, sr184_45, sr184_50, sr184_51, sr184_52, sr184_53, sr184_54, sr184_55, sr184_57, sr2, sr3, sr4, sr6, srru0, srru1, srru2, srwi0, srwi1, srwi2, srpi0, srpa0, Sh_wI, Sh_wL, Sh_wC, if_true, zb_0, zb_1, Option.bind_some, has_wI, has_wL, has_wC, rR_wI, rR_wL, rR_wC, h.shA, h40, k1, k2, k3, k5]
  by_cases q0 : f = 0
  · simp [vf, q0]
  · by_cases q1 : f = 1
    · simp [vf, q1]
    · by_cases q2 : f = 2
      · simp [vf, q2]
      · by_cases q3 : f = 3 <;> simp [vf, q0, q1, q2, q3]
theorem e_val11 (hB : Sh B) {p : Nat} (hp : p < 40) (f a : Int32) : s_m11_valueOf 184 f (nI p) a B = some (vf B f p a, B) := by
  have i1 : inb (nI p) 40 = true := inb_nI hp (by omega)
  have i2 := nI_clamp (show p < 2 ^ 31 by omega)
  simp only [s_m11_valueOf, gI, gL, gR, pI, pZ, pL, pR, aI, aR, sI, sR, al, dz, rz, cl, cp, tL, tC, has_sh, hs_1, hs_2, hs_3, hs_4, hs_5, hs_6, hs_47, hs_48, hs_49, hs_50, hs_51, hs_52, hs_54, hs_55, hs_56, hs_57, hs_58, hs_59, hs_60, hs_61, hs_62, hs_63, hs_184, hs_185, hs_186, hs_187, hs_188, hs_189, hs_190, hs_191, hs_192, hs_193, hs_194, hs_195, hs_196, hs_197, hs_198, hs_199, hs_200, hs_201, hs_202, hs_203, hs_204, hs_205, hs_206, hs_207, hs_208, hs_209, hs_210, hs_211, hs_212, hs_213, hs_214, hs_215, hs_216, hs_217, hs_218, hs_219, hs_220, hs_221, hs_222, hs_223, hs_224, hs_ru, hs_ru0, hs_ru1, hs_ru2, hs_wi, hs_wi0, hs_wi1, hs_wi2, hs_pi, hs_pi0, hs_pa, hs_pa0, tb_2, tb_3, tb_4, tb_6, tb_48, tb_49, tb_51, tb_52, tb_54, tb_55, tb_57, tb_58, tb_60, tb_62, tb_63, tb_185, tb_186, tb_187, tb_188, tb_189, tb_190, tb_191, tb_192, tb_193, tb_194, tb_195, tb_196, tb_197, tb_198, tb_199, tb_200, tb_201, tb_202, tb_203, tb_204, tb_205, tb_206, tb_207, tb_208, tb_209, tb_210, tb_211, tb_212, tb_213, tb_214, tb_215, tb_216, tb_217, tb_218, tb_219, tb_220, tb_221, tb_222, tb_223, tb_224, tb_ru0, tb_ru1, tb_ru2, tb_wi0, tb_wi1, tb_wi2, tb_pi0, tb_pa0, sr1_0, sr1_1, sr1_2, sr1_3, sr1_4, sr1_5, sr1_6, sr1_7, sr1_8, sr1_9, sr5_0, sr47_0, sr47_1, sr50_0, sr50_1, sr50_3, sr50_4, sr56_0, sr56_1, sr59_0, sr61_0, sr184_1, sr184_3, sr184_4, sr184_5, sr184_7, sr184_8, sr184_9, sr184_10, sr184_11, sr184_12, sr184_13, sr184_14, sr184_16, sr184_18, sr184_19, sr184_20, sr184_21, sr184_22, sr184_23, sr184_24, sr184_25, sr184_27, sr184_32, sr184_33, sr184_34, sr184_35, sr184_36, sr184_37, sr184_38, sr184_40, sr184_41, sr184_44, sr184_45, sr184_50, sr184_51, sr184_52, sr184_53, sr184_54, sr184_55, sr184_57, sr2, sr3, sr4, sr6, srru0, srru1, srru2, srwi0, srwi1, srwi2, srpi0, srpa0, Sh_wI, Sh_wL, Sh_wC, if_true, zb_0, zb_1, Option.bind_some, has_wI, has_wL, has_wC, rR_wI, rR_wL, rR_wC, hB, i1, i2]
  by_cases q0 : f = 0
  · simp [vf, q0]
  · by_cases q1 : f = 1
    · simp [vf, q1]
    · by_cases q2 : f = 2
      · simp [vf, q2]
      · by_cases q3 : f = 3 <;> simp [vf, q0, q1, q2, q3]
/-- the class's test -/
theorem e_isSo21 (h : Inv c (mg A B)) {r : Nat} (hr : r < nQ B) {p : Nat} (hp : p < nP B) (a : Int32) {m : Nat} (hm : rI B 202 r = nI m) (m3 : m ≤ 3) : ∀ d k n, k + d = m → d < n → s_m5_isSo_21 n (7 + 4 * r) (88 + 2 * p) a (nI k) A = some (hl B r p a d k, A)
  | 0, k, n + 1, hk, _ => by
    have h1 := h.qle
    have hr10 : r < 10 := by omega
    obtain ⟨⟨q1, q2, q3, q4, q5⟩, -⟩ := h.qk hr
    have e : k = m := by omega
    subst e
    simp only [s_m5_isSo_21, gI, gL, gR, pI, pZ, pL, pR, aI, aR, sI, sR, al, dz, rz, cl, cp, tL, tC, has_sh, hs_1, hs_2, hs_3, hs_4, hs_5, hs_6, hs_47, hs_48, hs_49, hs_50, hs_51, hs_52, hs_54, hs_55, hs_56, hs_57, hs_58, hs_59, hs_60, hs_61, hs_62, hs_63, hs_184, hs_185, hs_186, hs_187, hs_188, hs_189, hs_190, hs_191, hs_192, hs_193, hs_194, hs_195, hs_196, hs_197, hs_198, hs_199, hs_200, hs_201, hs_202, hs_203, hs_204, hs_205, hs_206, hs_207, hs_208, hs_209, hs_210, hs_211, hs_212, hs_213, hs_214, hs_215, hs_216, hs_217, hs_218, hs_219, hs_220, hs_221, hs_222, hs_223, hs_224, hs_ru, hs_ru0, hs_ru1, hs_ru2, hs_wi, hs_wi0, hs_wi1, hs_wi2, hs_pi, hs_pi0, hs_pa, hs_pa0, tb_2, tb_3, tb_4, tb_6, tb_48, tb_49, tb_51, tb_52, tb_54, tb_55, tb_57, tb_58, tb_60, tb_62, tb_63, tb_185, tb_186, tb_187, tb_188, tb_189, tb_190, tb_191, tb_192, tb_193, tb_194, tb_195, tb_196, tb_197, tb_198, tb_199, tb_200, tb_201, tb_202, tb_203, tb_204, tb_205, tb_206, tb_207, tb_208, tb_209, tb_210, tb_211, tb_212, tb_213, tb_214, tb_215, tb_216, tb_217, tb_218, tb_219, tb_220, tb_221, tb_222, tb_223, tb_224, tb_ru0, tb_ru1, tb_ru2, tb_wi0, tb_wi1, tb_wi2, tb_pi0, tb_pa0, sr1_0, sr1_1, sr1_2, sr1_3, sr1_4, sr1_5, sr1_6, sr1_7, sr1_8, sr1_9, sr5_0, sr47_0, sr47_1, sr50_0, sr50_1, sr50_3, sr50_4, sr56_0, sr56_1, sr59_0, sr61_0, sr184_1, sr184_3, sr184_4, sr184_5, sr184_7, sr184_8, sr184_9, sr184_10, sr184_11, sr184_12, sr184_13, sr184_14, sr184_16, sr184_18, sr184_19, sr184_20, sr184_21, sr184_22, sr184_23, sr184_24, sr184_25, sr184_27, sr184_32, sr184_33, sr184_34, sr184_35, sr184_36, sr184_37, sr184_38, sr184_40, sr184_41, sr184_44, sr184_45, sr184_50, sr184_51, sr184_52, sr184_53, sr184_54, sr184_55, sr184_57, sr2, sr3, sr4, sr6, srru0, srru1, srru2, srwi0, srwi1, srwi2, srpi0, srpa0, Sh_wI, Sh_wL, Sh_wC, if_true, zb_0, zb_1, Option.bind_some, has_wI, has_wL, has_wC, rR_wI, rR_wL, rR_wC, h.shA, hr10, q5, hm, show nI k ≤ nI k from nI_le (Nat.le_refl k) (by omega), hl]
  | d + 1, k, n + 1, hk, hd => by
    have h1 := h.qle
    have hr10 : r < 10 := by omega
    obtain ⟨⟨q1, q2, q3, q4, q5⟩, kk, nn, mm, -, -, -, -, hmm, mm3, ht⟩ := h.qk hr
    have e9 : mm = m := by
      rw [hm] at hmm
      exact ((nI_eq (by omega) (by omega)).1 hmm).symm
    subst e9
    obtain ⟨t1, t2, t3, t4⟩ := ht k (by omega)
    have q : ¬ nI mm ≤ nI k := nI_ge (by omega) (by omega)
    have i1 : inb (nI k) 3 = true := inb_nI (by omega) (by omega)
    have i2 := nI_clamp (show k < 2 ^ 31 by omega)
    have IH := e_isSo21 h hr hp a hm m3 d (k + 1) n (by omega) (by omega)
    have P51 : s_m5_isSo_51 (s_m5_isSo_21 n) (7 + 4 * r) (88 + 2 * p) a (nI k) 0 A = some (if tcmp B r k p a = true then hl B r p a d (k + 1) else 0, A) := by
      simp only [s_m5_isSo_51, s_m5_isSo_79, s_m5_compares_47, s_m5_compares_63, s_m5_compares_79, s_m5_compares, gI, gL, gR, pI, pZ, pL, pR, aI, aR, sI, sR, al, dz, rz, cl, cp, tL, tC, has_sh, hs_1, hs_2, hs_3, hs_4, hs_5, hs_6, hs_47, hs_48, hs_49, hs_50, hs_51, hs_52, hs_54, hs_55, hs_56, hs_57, hs_58, hs_59, hs_60, hs_61, hs_62, hs_63, hs_184, hs_185, hs_186, hs_187, hs_188, hs_189, hs_190, hs_191, hs_192, hs_193, hs_194, hs_195, hs_196, hs_197, hs_198, hs_199, hs_200, hs_201, hs_202, hs_203, hs_204, hs_205, hs_206, hs_207, hs_208, hs_209, hs_210, hs_211, hs_212, hs_213, hs_214, hs_215, hs_216, hs_217, hs_218, hs_219, hs_220, hs_221, hs_222, hs_223, hs_224, hs_ru, hs_ru0, hs_ru1, hs_ru2, hs_wi, hs_wi0, hs_wi1, hs_wi2, hs_pi, hs_pi0, hs_pa, hs_pa0, tb_2, tb_3, tb_4, tb_6, tb_48, tb_49, tb_51, tb_52, tb_54, tb_55, tb_57, tb_58, tb_60, tb_62, tb_63, tb_185, tb_186, tb_187, tb_188, tb_189, tb_190, tb_191, tb_192, tb_193, tb_194, tb_195, tb_196, tb_197, tb_198, tb_199, tb_200, tb_201, tb_202, tb_203, tb_204, tb_205, tb_206, tb_207, tb_208, tb_209, tb_210, tb_211, tb_212, tb_213, tb_214, tb_215, tb_216, tb_217, tb_218, tb_219, tb_220, tb_221, tb_222, tb_223, tb_224, tb_ru0, tb_ru1, tb_ru2, tb_wi0, tb_wi1, tb_wi2, tb_pi0, tb_pa0, sr1_0, sr1_1, sr1_2, sr1_3, sr1_4, sr1_5, sr1_6, sr1_7, sr1_8, sr1_9, sr5_0, sr47_0, sr47_1, sr50_0, sr50_1, sr50_3, sr50_4, sr56_0, sr56_1, sr59_0, sr61_0, sr184_1, sr184_3, sr184_4, sr184_5, sr184_7, sr184_8, sr184_9, sr184_10, sr184_11, sr184_12, sr184_13, sr184_14, sr184_16, sr184_18, sr184_19, sr184_20, sr184_21, sr184_22, sr184_23, sr184_24, sr184_25, sr184_27, sr184_32, sr184_33, sr184_34, sr184_35, sr184_36, sr184_37, sr184_38, sr184_40, sr184_41, sr184_44, sr184_45, sr184_50, sr184_51, sr184_52, sr184_53, sr184_54, sr184_55, sr184_57, sr2, sr3, sr4, sr6, srru0, srru1, srru2, srwi0, srwi1, srwi2, srpi0, srpa0, Sh_wI, Sh_wL, Sh_wC, if_true, zb_0, zb_1, Option.bind_some, has_wI, has_wL, has_wC, rR_wI, rR_wL, rR_wC, h.shA, hr10, not_true_eq_false, if_false, i1, i2, t1, t2, t3, e_val10 h hp, nI_1, IH]
      unfold tcmp
      rcases t4 with t4 | t4 | t4
      · simp only [t4, if_true, show ¬ (60 : Int32) = 61 from by decide, if_false]
        by_cases b : rI B 205 (3 * r + k) ≤ vf B (rI B 203 (3 * r + k)) p a
        · simp [b, i_lt, IH]
        · simp [b, i_lt, IH]
      · simp only [t4, if_true, show ¬ (61 : Int32) = 60 from by decide, show ¬ (61 : Int32) = 62 from by decide, if_false]
        by_cases b : vf B (rI B 203 (3 * r + k)) p a = rI B 205 (3 * r + k)
        · simp [b, IH]
        · simp [b]
      · simp only [t4, if_true, show ¬ (62 : Int32) = 60 from by decide, show ¬ (62 : Int32) = 61 from by decide, if_false]
        by_cases b : vf B (rI B 203 (3 * r + k)) p a ≤ rI B 205 (3 * r + k)
        · simp [b, i_lt, IH]
        · simp [b, i_lt, IH]
    simp only [s_m5_isSo_21, s_m5_isSo_50, gI, gL, gR, pI, pZ, pL, pR, aI, aR, sI, sR, al, dz, rz, cl, cp, tL, tC, has_sh, hs_1, hs_2, hs_3, hs_4, hs_5, hs_6, hs_47, hs_48, hs_49, hs_50, hs_51, hs_52, hs_54, hs_55, hs_56, hs_57, hs_58, hs_59, hs_60, hs_61, hs_62, hs_63, hs_184, hs_185, hs_186, hs_187, hs_188, hs_189, hs_190, hs_191, hs_192, hs_193, hs_194, hs_195, hs_196, hs_197, hs_198, hs_199, hs_200, hs_201, hs_202, hs_203, hs_204, hs_205, hs_206, hs_207, hs_208, hs_209, hs_210, hs_211, hs_212, hs_213, hs_214, hs_215, hs_216, hs_217, hs_218, hs_219, hs_220, hs_221, hs_222, hs_223, hs_224, hs_ru, hs_ru0, hs_ru1, hs_ru2, hs_wi, hs_wi0, hs_wi1, hs_wi2, hs_pi, hs_pi0, hs_pa, hs_pa0, tb_2, tb_3, tb_4, tb_6, tb_48, tb_49, tb_51, tb_52, tb_54, tb_55, tb_57, tb_58, tb_60, tb_62, tb_63, tb_185, tb_186, tb_187, tb_188, tb_189, tb_190, tb_191, tb_192, tb_193, tb_194, tb_195, tb_196, tb_197, tb_198, tb_199, tb_200, tb_201, tb_202, tb_203, tb_204, tb_205, tb_206, tb_207, tb_208, tb_209, tb_210, tb_211, tb_212, tb_213, tb_214, tb_215, tb_216, tb_217, tb_218, tb_219, tb_220, tb_221, tb_222, tb_223, tb_224, tb_ru0, tb_ru1, tb_ru2, tb_wi0, tb_wi1, tb_wi2, tb_pi0, tb_pa0, sr1_0, sr1_1, sr1_2, sr1_3, sr1_4, sr1_5, sr1_6, sr1_7, sr1_8, sr1_9, sr5_0, sr47_0, sr47_1, sr50_0, sr50_1, sr50_3, sr50_4, sr56_0, sr56_1, sr59_0, sr61_0, sr184_1, sr184_3, sr184_4, sr184_5, sr184_7, sr184_8, sr184_9, sr184_10, sr184_11, sr184_12, sr184_13, sr184_14, sr184_16, sr184_18, sr184_19, sr184_20, sr184_21, sr184_22, sr184_23, sr184_24, sr184_25, sr184_27, sr184_32, sr184_33, sr184_34, sr184_35, sr184_36, sr184_37, sr184_38, sr184_40, sr184_41, sr184_44, sr184_45, sr184_50, sr184_51, sr184_52, sr184_53, sr184_54, sr184_55, sr184_57, sr2, sr3, sr4, sr6, srru0, srru1, srru2, srwi0, srwi1, srwi2, srpi0, srpa0, Sh_wI, Sh_wL, Sh_wC, if_true, zb_0, zb_1, Option.bind_some, has_wI, has_wL, has_wC, rR_wI, rR_wL, rR_wC, h.shA, hr10, q5, hm, q, if_false, i1, i2, t1, P51]
    by_cases f4 : rI B 203 (3 * r + k) = 4 <;> by_cases a1 : a = -1
    · simp [hl, tok, f4, a1, s_m5_isSo_51, s_m5_isSo_79, rz, zb_0]
    all_goals simp [hl, tok, f4, a1]
theorem e_isSo (h : Inv c (mg A B)) {r : Nat} (hr : r < nQ B) {p : Nat} (hp : p < nP B) (a : Int32) : s_m5_isSo (7 + 4 * r) (88 + 2 * p) a (rI B 184 31) A = some (Hv B r p a, A) := by
  have h1 := h.qle
  have hr10 : r < 10 := by omega
  obtain ⟨⟨q1, q2, q3, q4, q5⟩, kk, nn, mm, -, -, -, -, hmm, mm3, ht⟩ := h.qk hr
  have fu : FU = 5000 := rfl
  have e := e_isSo21 h hr hp a hmm mm3 mm 0 FU (by omega) (by omega)
  rw [nI_0] at e
  simp only [s_m5_isSo, s_m5_isSo_16, gI, gL, gR, pI, pZ, pL, pR, aI, aR, sI, sR, al, dz, rz, cl, cp, tL, tC, has_sh, hs_1, hs_2, hs_3, hs_4, hs_5, hs_6, hs_47, hs_48, hs_49, hs_50, hs_51, hs_52, hs_54, hs_55, hs_56, hs_57, hs_58, hs_59, hs_60, hs_61, hs_62, hs_63, hs_184, hs_185, hs_186, hs_187, hs_188, hs_189, hs_190, hs_191, hs_192, hs_193, hs_194, hs_195, hs_196, hs_197, hs_198, hs_199, hs_200, hs_201, hs_202, hs_203, hs_204, hs_205, hs_206, hs_207, hs_208, hs_209, hs_210, hs_211, hs_212, hs_213, hs_214, hs_215, hs_216, hs_217, hs_218, hs_219, hs_220, hs_221, hs_222, hs_223, hs_224, hs_ru, hs_ru0, hs_ru1, hs_ru2, hs_wi, hs_wi0, hs_wi1, hs_wi2, hs_pi, hs_pi0, hs_pa, hs_pa0, tb_2, tb_3, tb_4, tb_6, tb_48, tb_49, tb_51, tb_52, tb_54, tb_55, tb_57, tb_58, tb_60, tb_62, tb_63, tb_185, tb_186, tb_187, tb_188, tb_189, tb_190, tb_191, tb_192, tb_193, tb_194, tb_195, tb_196, tb_197, tb_198, tb_199, tb_200, tb_201, tb_202, tb_203, tb_204, tb_205, tb_206, tb_207, tb_208, tb_209, tb_210, tb_211, tb_212, tb_213, tb_214, tb_215, tb_216, tb_217, tb_218, tb_219, tb_220, tb_221, tb_222, tb_223, tb_224, tb_ru0, tb_ru1, tb_ru2, tb_wi0, tb_wi1, tb_wi2, tb_pi0, tb_pa0, sr1_0, sr1_1, sr1_2, sr1_3, sr1_4, sr1_5, sr1_6, sr1_7, sr1_8, sr1_9, sr5_0, sr47_0, sr47_1, sr50_0, sr50_1, sr50_3, sr50_4, sr56_0, sr56_1, sr59_0, sr61_0, sr184_1, sr184_3, sr184_4, sr184_5, sr184_7, sr184_8, sr184_9, sr184_10, sr184_11, sr184_12, sr184_13, sr184_14, sr184_16, sr184_18, sr184_19, sr184_20, sr184_21, sr184_22, sr184_23, sr184_24, sr184_25, sr184_27, sr184_32, sr184_33, sr184_34, sr184_35, sr184_36, sr184_37, sr184_38, sr184_40, sr184_41, sr184_44, sr184_45, sr184_50, sr184_51, sr184_52, sr184_53, sr184_54, sr184_55, sr184_57, sr2, sr3, sr4, sr6, srru0, srru1, srru2, srwi0, srwi1, srwi2, srpi0, srpa0, Sh_wI, Sh_wL, Sh_wC, if_true, zb_0, zb_1, Option.bind_some, has_wI, has_wL, has_wC, rR_wI, rR_wL, rR_wC, h.shA, hr10, q3, q4, e, Hv, hmm, nI_clamp (show mm < 2 ^ 31 by omega)]
  by_cases b1 : rI B 184 31 < rI B 200 r
  · simp only [b1, if_true]
  · by_cases b2 : rI B 184 31 < rI B 201 r <;> simp only [b1, b2, if_true, if_false]
/-- the model's -/
theorem e_hf33 (h : Inv c (mg A B)) (hB : Sh B) {r : Nat} (hr : r < nQ B) {p : Nat} (hp : p < nP B) (a : Int32) {m : Nat} (hm : rI B 202 r = nI m) (m3 : m ≤ 3) : ∀ d k n, k + d = m → d < n → s_m11_holdsFor_33 n 184 (nI r) (nI p) a (nI (3 * r + k)) B = some (hl B r p a d k, B)
  | 0, k, n + 1, hk, _ => by
    have h1 := h.qle
    have e : k = m := by omega
    subst e
    have i1 : inb (nI r) 11 = true := inb_nI (by omega) (by omega)
    have i2 := nI_clamp (show r < 2 ^ 31 by omega)
    have j0 : (3 : Int32) * nI r + nI k = nI (3 * r + k) := by rw [← nI_add, ← pk_mul]; rfl
    simp only [s_m11_holdsFor_33, gI, gL, gR, pI, pZ, pL, pR, aI, aR, sI, sR, al, dz, rz, cl, cp, tL, tC, has_sh, hs_1, hs_2, hs_3, hs_4, hs_5, hs_6, hs_47, hs_48, hs_49, hs_50, hs_51, hs_52, hs_54, hs_55, hs_56, hs_57, hs_58, hs_59, hs_60, hs_61, hs_62, hs_63, hs_184, hs_185, hs_186, hs_187, hs_188, hs_189, hs_190, hs_191, hs_192, hs_193, hs_194, hs_195, hs_196, hs_197, hs_198, hs_199, hs_200, hs_201, hs_202, hs_203, hs_204, hs_205, hs_206, hs_207, hs_208, hs_209, hs_210, hs_211, hs_212, hs_213, hs_214, hs_215, hs_216, hs_217, hs_218, hs_219, hs_220, hs_221, hs_222, hs_223, hs_224, hs_ru, hs_ru0, hs_ru1, hs_ru2, hs_wi, hs_wi0, hs_wi1, hs_wi2, hs_pi, hs_pi0, hs_pa, hs_pa0, tb_2, tb_3, tb_4, tb_6, tb_48, tb_49, tb_51, tb_52, tb_54, tb_55, tb_57, tb_58, tb_60, tb_62, tb_63, tb_185, tb_186, tb_187, tb_188, tb_189, tb_190, tb_191, tb_192, tb_193, tb_194, tb_195, tb_196, tb_197, tb_198, tb_199, tb_200, tb_201, tb_202, tb_203, tb_204, tb_205, tb_206, tb_207, tb_208, tb_209, tb_210, tb_211, tb_212, tb_213, tb_214, tb_215, tb_216, tb_217, tb_218, tb_219, tb_220, tb_221, tb_222, tb_223, tb_224, tb_ru0, tb_ru1, tb_ru2, tb_wi0, tb_wi1, tb_wi2, tb_pi0, tb_pa0, sr1_0, sr1_1, sr1_2, sr1_3, sr1_4, sr1_5, sr1_6, sr1_7, sr1_8, sr1_9, sr5_0, sr47_0, sr47_1, sr50_0, sr50_1, sr50_3, sr50_4, sr56_0, sr56_1, sr59_0, sr61_0, sr184_1, sr184_3, sr184_4, sr184_5, sr184_7, sr184_8, sr184_9, sr184_10, sr184_11, sr184_12, sr184_13, sr184_14, sr184_16, sr184_18, sr184_19, sr184_20, sr184_21, sr184_22, sr184_23, sr184_24, sr184_25, sr184_27, sr184_32, sr184_33, sr184_34, sr184_35, sr184_36, sr184_37, sr184_38, sr184_40, sr184_41, sr184_44, sr184_45, sr184_50, sr184_51, sr184_52, sr184_53, sr184_54, sr184_55, sr184_57, sr2, sr3, sr4, sr6, srru0, srru1, srru2, srwi0, srwi1, srwi2, srpi0, srpa0, Sh_wI, Sh_wL, Sh_wC, if_true, zb_0, zb_1, Option.bind_some, has_wI, has_wL, has_wC, rR_wI, rR_wL, rR_wC, hB, i1, i2, hm, j0, show nI (3 * r + k) ≤ nI (3 * r + k) from nI_le (Nat.le_refl _) (by omega), hl]
  | d + 1, k, n + 1, hk, hd => by
    have h1 := h.qle
    have h2 := h.ple
    have i1 : inb (nI r) 11 = true := inb_nI (by omega) (by omega)
    have i2 := nI_clamp (show r < 2 ^ 31 by omega)
    have i3 : inb (nI (3 * r + k)) 33 = true := inb_nI (by omega) (by omega)
    have i4 := nI_clamp (show 3 * r + k < 2 ^ 31 by omega)
    have j0 : (3 : Int32) * nI r + nI m = nI (3 * r + m) := by rw [← nI_add, ← pk_mul]; rfl
    have q : ¬ nI (3 * r + m) ≤ nI (3 * r + k) := nI_ge (by omega) (by omega)
    have IH := e_hf33 h hB hr hp a hm m3 d (k + 1) n (by omega) (by omega)
    rw [show 3 * r + (k + 1) = 3 * r + k + 1 by omega] at IH
    have P79 : s_m11_holdsFor_79 (s_m11_holdsFor_33 n) 184 (nI r) (nI p) a (nI (3 * r + k)) (vf B (rI B 203 (3 * r + k)) p a) B = some (if tcmp B r k p a = true then hl B r p a d (k + 1) else 0, B) := by
      simp only [s_m11_holdsFor_79, s_m11_holdsFor_147, s_m11_holdsFor_145, gI, gL, gR, pI, pZ, pL, pR, aI, aR, sI, sR, al, dz, rz, cl, cp, tL, tC, has_sh, hs_1, hs_2, hs_3, hs_4, hs_5, hs_6, hs_47, hs_48, hs_49, hs_50, hs_51, hs_52, hs_54, hs_55, hs_56, hs_57, hs_58, hs_59, hs_60, hs_61, hs_62, hs_63, hs_184, hs_185, hs_186, hs_187, hs_188, hs_189, hs_190, hs_191, hs_192, hs_193, hs_194, hs_195, hs_196, hs_197, hs_198, hs_199, hs_200, hs_201, hs_202, hs_203, hs_204, hs_205, hs_206, hs_207, hs_208, hs_209, hs_210, hs_211, hs_212, hs_213, hs_214, hs_215, hs_216, hs_217, hs_218, hs_219, hs_220, hs_221, hs_222, hs_223, hs_224, hs_ru, hs_ru0, hs_ru1, hs_ru2, hs_wi, hs_wi0, hs_wi1, hs_wi2, hs_pi, hs_pi0, hs_pa, hs_pa0, tb_2, tb_3, tb_4, tb_6, tb_48, tb_49, tb_51, tb_52, tb_54, tb_55, tb_57, tb_58, tb_60, tb_62, tb_63, tb_185, tb_186, tb_187, tb_188, tb_189, tb_190, tb_191, tb_192, tb_193, tb_194, tb_195, tb_196, tb_197, tb_198, tb_199, tb_200, tb_201, tb_202, tb_203, tb_204, tb_205, tb_206, tb_207, tb_208, tb_209, tb_210, tb_211, tb_212, tb_213, tb_214, tb_215, tb_216, tb_217, tb_218, tb_219, tb_220, tb_221, tb_222, tb_223, tb_224, tb_ru0, tb_ru1, tb_ru2, tb_wi0, tb_wi1, tb_wi2, tb_pi0, tb_pa0, sr1_0, sr1_1, sr1_2, sr1_3, sr1_4, sr1_5, sr1_6, sr1_7, sr1_8, sr1_9, sr5_0, sr47_0, sr47_1, sr50_0, sr50_1, sr50_3, sr50_4, sr56_0, sr56_1, sr59_0, sr61_0, sr184_1, sr184_3, sr184_4, sr184_5, sr184_7, sr184_8, sr184_9, sr184_10, sr184_11, sr184_12, sr184_13, sr184_14, sr184_16, sr184_18, sr184_19, sr184_20, sr184_21, sr184_22, sr184_23, sr184_24, sr184_25, sr184_27, sr184_32, sr184_33, sr184_34, sr184_35, sr184_36, sr184_37, sr184_38, sr184_40, sr184_41, sr184_44, sr184_45, sr184_50, sr184_51, sr184_52, sr184_53, sr184_54, sr184_55, sr184_57, sr2, sr3, sr4, sr6, srru0, srru1, srru2, srwi0, srwi1, srwi2, srpi0, srpa0, Sh_wI, Sh_wL, Sh_wC, if_true, zb_0, zb_1, Option.bind_some, has_wI, has_wL, has_wC, rR_wI, rR_wL, rR_wC, hB, i3, i4, nI_1, IH]
      unfold tcmp
      by_cases s1 : rI B 204 (3 * r + k) = 61
      · by_cases b : vf B (rI B 203 (3 * r + k)) p a = rI B 205 (3 * r + k) <;> simp [s1, b]
      · by_cases s2 : rI B 204 (3 * r + k) = 60
        · by_cases b : vf B (rI B 203 (3 * r + k)) p a < rI B 205 (3 * r + k) <;> simp [s2, b]
        · by_cases b : rI B 205 (3 * r + k) < vf B (rI B 203 (3 * r + k)) p a <;> simp [s1, s2, b]
    simp only [s_m11_holdsFor_33, gI, gL, gR, pI, pZ, pL, pR, aI, aR, sI, sR, al, dz, rz, cl, cp, tL, tC, has_sh, hs_1, hs_2, hs_3, hs_4, hs_5, hs_6, hs_47, hs_48, hs_49, hs_50, hs_51, hs_52, hs_54, hs_55, hs_56, hs_57, hs_58, hs_59, hs_60, hs_61, hs_62, hs_63, hs_184, hs_185, hs_186, hs_187, hs_188, hs_189, hs_190, hs_191, hs_192, hs_193, hs_194, hs_195, hs_196, hs_197, hs_198, hs_199, hs_200, hs_201, hs_202, hs_203, hs_204, hs_205, hs_206, hs_207, hs_208, hs_209, hs_210, hs_211, hs_212, hs_213, hs_214, hs_215, hs_216, hs_217, hs_218, hs_219, hs_220, hs_221, hs_222, hs_223, hs_224, hs_ru, hs_ru0, hs_ru1, hs_ru2, hs_wi, hs_wi0, hs_wi1, hs_wi2, hs_pi, hs_pi0, hs_pa, hs_pa0, tb_2, tb_3, tb_4, tb_6, tb_48, tb_49, tb_51, tb_52, tb_54, tb_55, tb_57, tb_58, tb_60, tb_62, tb_63, tb_185, tb_186, tb_187, tb_188, tb_189, tb_190, tb_191, tb_192, tb_193, tb_194, tb_195, tb_196, tb_197, tb_198, tb_199, tb_200, tb_201, tb_202, tb_203, tb_204, tb_205, tb_206, tb_207, tb_208, tb_209, tb_210, tb_211, tb_212, tb_213, tb_214, tb_215, tb_216, tb_217, tb_218, tb_219, tb_220, tb_221, tb_222, tb_223, tb_224, tb_ru0, tb_ru1, tb_ru2, tb_wi0, tb_wi1, tb_wi2, tb_pi0, tb_pa0, sr1_0, sr1_1, sr1_2, sr1_3, sr1_4, sr1_5, sr1_6, sr1_7, sr1_8, sr1_9, sr5_0, sr47_0, sr47_1, sr50_0, sr50_1, sr50_3, sr50_4, sr56_0, sr56_1, sr59_0, sr61_0, sr184_1, sr184_3, sr184_4, sr184_5, sr184_7, sr184_8, sr184_9, sr184_10, sr184_11, sr184_12, sr184_13, sr184_14, sr184_16, sr184_18, sr184_19, sr184_20, sr184_21, sr184_22, sr184_23, sr184_24, sr184_25, sr184_27, sr184_32, sr184_33, sr184_34, sr184_35, sr184_36, sr184_37, sr184_38, sr184_40, sr184_41, sr184_44, sr184_45, sr184_50, sr184_51, sr184_52, sr184_53, sr184_54, sr184_55, sr184_57, sr2, sr3, sr4, sr6, srru0, srru1, srru2, srwi0, srwi1, srwi2, srpi0, srpa0, Sh_wI, Sh_wL, Sh_wC, if_true, zb_0, zb_1, Option.bind_some, has_wI, has_wL, has_wC, rR_wI, rR_wL, rR_wC, hB, i1, i2, hm, j0, q, if_false, i3, i4, e_val11 hB (show p < 40 by omega), P79]
    by_cases f4 : rI B 203 (3 * r + k) = 4 <;> by_cases a1 : a = -1
    · simp [hl, tok, f4, a1, s_m11_holdsFor_145, rz, zb_0]
    all_goals simp [hl, tok, f4, a1]
theorem e_holdsFor (h : Inv c (mg A B)) (hB : Sh B) {r : Nat} (hr : r < nQ B) {p : Nat} (hp : p < nP B) (a : Int32) : s_m11_holdsFor 184 (nI r) (nI p) a B = some (Hv B r p a, B) := by
  have h1 := h.qle
  obtain ⟨-, kk, nn, mm, -, -, -, -, hmm, mm3, ht⟩ := h.qk hr
  have i1 : inb (nI r) 11 = true := inb_nI (by omega) (by omega)
  have i2 := nI_clamp (show r < 2 ^ 31 by omega)
  have j0 : (3 : Int32) * nI r = nI (3 * r + 0) := by rw [Nat.add_zero, ← pk_mul]; rfl
  have fu : FU = 5000 := rfl
  have e := e_hf33 h hB hr hp a hmm mm3 mm 0 FU (by omega) (by omega)
  simp only [s_m11_holdsFor, s_m11_holdsFor_26, gI, gL, gR, pI, pZ, pL, pR, aI, aR, sI, sR, al, dz, rz, cl, cp, tL, tC, has_sh, hs_1, hs_2, hs_3, hs_4, hs_5, hs_6, hs_47, hs_48, hs_49, hs_50, hs_51, hs_52, hs_54, hs_55, hs_56, hs_57, hs_58, hs_59, hs_60, hs_61, hs_62, hs_63, hs_184, hs_185, hs_186, hs_187, hs_188, hs_189, hs_190, hs_191, hs_192, hs_193, hs_194, hs_195, hs_196, hs_197, hs_198, hs_199, hs_200, hs_201, hs_202, hs_203, hs_204, hs_205, hs_206, hs_207, hs_208, hs_209, hs_210, hs_211, hs_212, hs_213, hs_214, hs_215, hs_216, hs_217, hs_218, hs_219, hs_220, hs_221, hs_222, hs_223, hs_224, hs_ru, hs_ru0, hs_ru1, hs_ru2, hs_wi, hs_wi0, hs_wi1, hs_wi2, hs_pi, hs_pi0, hs_pa, hs_pa0, tb_2, tb_3, tb_4, tb_6, tb_48, tb_49, tb_51, tb_52, tb_54, tb_55, tb_57, tb_58, tb_60, tb_62, tb_63, tb_185, tb_186, tb_187, tb_188, tb_189, tb_190, tb_191, tb_192, tb_193, tb_194, tb_195, tb_196, tb_197, tb_198, tb_199, tb_200, tb_201, tb_202, tb_203, tb_204, tb_205, tb_206, tb_207, tb_208, tb_209, tb_210, tb_211, tb_212, tb_213, tb_214, tb_215, tb_216, tb_217, tb_218, tb_219, tb_220, tb_221, tb_222, tb_223, tb_224, tb_ru0, tb_ru1, tb_ru2, tb_wi0, tb_wi1, tb_wi2, tb_pi0, tb_pa0, sr1_0, sr1_1, sr1_2, sr1_3, sr1_4, sr1_5, sr1_6, sr1_7, sr1_8, sr1_9, sr5_0, sr47_0, sr47_1, sr50_0, sr50_1, sr50_3, sr50_4, sr56_0, sr56_1, sr59_0, sr61_0, sr184_1, sr184_3, sr184_4, sr184_5, sr184_7, sr184_8, sr184_9, sr184_10, sr184_11, sr184_12, sr184_13, sr184_14, sr184_16, sr184_18, sr184_19, sr184_20, sr184_21, sr184_22, sr184_23, sr184_24, sr184_25, sr184_27, sr184_32, sr184_33, sr184_34, sr184_35, sr184_36, sr184_37, sr184_38, sr184_40, sr184_41, sr184_44, sr184_45, sr184_50, sr184_51, sr184_52, sr184_53, sr184_54, sr184_55, sr184_57, sr2, sr3, sr4, sr6, srru0, srru1, srru2, srwi0, srwi1, srwi2, srpi0, srpa0, Sh_wI, Sh_wL, Sh_wC, if_true, zb_0, zb_1, Option.bind_some, has_wI, has_wL, has_wC, rR_wI, rR_wL, rR_wC, hB, i1, i2, j0, e, Hv, hmm, nI_clamp (show mm < 2 ^ 31 by omega)]
  by_cases b1 : rI B 184 31 < rI B 200 r
  · simp only [b1, if_true]
  · by_cases b2 : rI B 184 31 < rI B 201 r <;> simp only [b1, b2, if_true, if_false]
end RUL
