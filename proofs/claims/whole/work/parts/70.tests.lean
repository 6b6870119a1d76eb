/-! LAYER 2: rule, one test, all of them -/
def f2 (nx : Nat → Int32) (q : Nat × Bool) : Nat × Bool := stw nx (sbyt.getD (fdt (nx q.1)) []) q
def f3 (nx : Nat → Int32) (q : Nat × Bool) : Nat × Bool := stw nx (sbyt.getD (sgt (nx (f2 nx q).1)) []) (f2 nx q)
def f4 (nx : Nat → Int32) (q : Nat × Bool) : Nat × (Nat × Bool) := nmv nx (f3 nx q)
theorem f2_t (nx : Nat → Int32) (q : Nat × Bool) (h : q.2 = true) : f2 nx q = q := stw_t nx _ q h
theorem f3_t (nx : Nat → Int32) (q : Nat × Bool) (h : (f2 nx q).2 = true) : f3 nx q = f2 nx q := stw_t nx _ _ h
theorem f4_t (nx : Nat → Int32) (q : Nat × Bool) (h : (f3 nx q).2 = true) : (f4 nx q).2 = f3 nx q := by unfold f4; rw [nmv_t _ h]
section TST
variable {nx : Nat → Int32} {L : Nat} {A B : Mm}
def Sit (r t k s : Nat) : Prop := Sat k s ∨ (k = 7 + 4 * r ∧ s = 3) ∨ (8 + 4 * r ≤ k ∧ k ≤ 10 + 4 * r ∧ s = t)
def Tit (r t k s : Nat) : Prop := Tat k s ∨ (k = 202 ∧ s = r) ∨ (203 ≤ k ∧ k ≤ 205 ∧ s = 3 * r + t)
theorem Sit_o {r t k s : Nat} (hr : r < 10) (h : Sit r t k s) : k < 50 ∨ (k = 59 ∧ 2 ≤ s) := by unfold Sit Sat at h; omega
theorem Tit_o {r t k s : Nat} (h : Tit r t k s) : (k = 184 ∧ 27 ≤ s) ∨ (198 ≤ k ∧ k ≤ 205) := by unfold Tit Tat at h; omega
/-- the class reads one test -/
theorem e_it10 (hA : TpA nx L A) (hn : ∀ i, L ≤ i → nx i = -1) {q : Nat × Bool} (hs : TSA A q) (hq : q.1 ≤ L) {r t tx : Nat} (hr : r < 10) (ht : t < 3) (h3 : rI A (7 + 4 * r) 3 = nI t) (htx : tx < 14) (k : Nat → Nat → Mm → Option (Int32 × Mm)) :
    ∃ A', s_m5_readFrom_61 k (7 + 4 * r) 59 59 tx A = k (7 + 4 * r) 59 A' ∧ Wr (Sit r t) A A' ∧ TSA A' (f4 nx (stw nx (sbyt.getD tx []) q)).2 ∧ (f4 nx (stw nx (sbyt.getD tx []) q)).2.1 ≤ L ∧ rI A' (7 + 4 * r) 3 = nI (t + 1) ∧ rI A' (8 + 4 * r) t = fdv (nx (stw nx (sbyt.getD tx []) q).1) ∧ rI A' (9 + 4 * r) t = sgv (nx (f2 nx (stw nx (sbyt.getD tx []) q)).1) ∧ rI A' (10 + 4 * r) t = nI (f4 nx (stw nx (sbyt.getD tx []) q)).1 := by
  have i1 : inb (nI t) 3 = true := inb_nI ht (by omega)
  have i2 := nI_clamp (show t < 2 ^ 31 by omega)
  have hA0 := hA.1
  obtain ⟨A1, e1, w1, z1, l1⟩ := e_exp hA hn hs hq htx
  generalize stw nx (sbyt.getD tx []) q = q1 at *
  have hA1 := hA.wr w1 (fun k s z => Or.inr z)
  obtain ⟨A2, e2, w2, z2, l2⟩ := e_rdF hA1 hn z1 l1
  have g1 : rI A1 (7 + 4 * r) 3 = nI t := by rw [w1.2.2 _ _ (by unfold Sat; omega)]; exact h3
  have g2 : rI A2 (7 + 4 * r) 3 = nI t := by rw [w2.2.2 _ _ (by unfold Sat; omega)]; exact g1
  have hA2 := hA1.wr w2 (fun k s z => Or.inr z)
  have w3 : Wr (Sit r t) A2 (wI A2 (8 + 4 * r) t (fdv (nx q1.1))) := (Wr.rf _ _).wI (by unfold Sit; omega)
  have hA3 := hA2.wr w3 (fun k s z => Sit_o hr z)
  have z3 : TSA (wI A2 (8 + 4 * r) t (fdv (nx q1.1))) (f2 nx q1) := ⟨by rw [rI_wI, if_neg (by omega)]; exact z2.1, by rw [rI_wI, if_neg (by omega)]; exact z2.2⟩
  obtain ⟨A4, e4, w4, z4, l4⟩ := e_rdS hA3 hn z3 l2
  have g3 : rI (wI A2 (8 + 4 * r) t (fdv (nx q1.1))) (7 + 4 * r) 3 = nI t := by rw [rI_wI, if_neg (by omega)]; exact g2
  have g4 : rI A4 (7 + 4 * r) 3 = nI t := by rw [w4.2.2 _ _ (by unfold Sat; omega)]; exact g3
  have hA4 := hA3.wr w4 (fun k s z => Or.inr z)
  have w5 : Wr (Sit r t) A4 (wI A4 (9 + 4 * r) t (sgv (nx (f2 nx q1).1))) := (Wr.rf _ _).wI (by unfold Sit; omega)
  have hA5 := hA4.wr w5 (fun k s z => Sit_o hr z)
  have z5 : TSA (wI A4 (9 + 4 * r) t (sgv (nx (f2 nx q1).1))) (f3 nx q1) := ⟨by rw [rI_wI, if_neg (by omega)]; exact z4.1, by rw [rI_wI, if_neg (by omega)]; exact z4.2⟩
  obtain ⟨A6, e6, w6, z6, l6⟩ := e_num10 hA5 hn z5 l4
  have g5 : rI (wI A4 (9 + 4 * r) t (sgv (nx (f2 nx q1).1))) (7 + 4 * r) 3 = nI t := by rw [rI_wI, if_neg (by omega)]; exact g4
  have hA6 := hA5.wr w6 (fun k s z => Or.inr z)
  have g7 : rI (wI A6 (10 + 4 * r) t (nI (nmv nx (f3 nx q1)).1)) (7 + 4 * r) 3 = nI t := by rw [rI_wI, if_neg (by omega), w6.2.2 _ _ (by unfold Sat; omega)]; exact g5
  have s1 := hA1.1
  have s2 := hA2.1
  have s4 := hA4.1
  have s6 := hA6.1
  refine ⟨wI (wI A6 (10 + 4 * r) t (nI (nmv nx (f3 nx q1)).1)) (7 + 4 * r) 3 (nI (t + 1)), ?_, ?_, ?_, l6, by simp [rI_wI], ?_, ?_, ?_⟩
  · simp only [s_m5_readFrom_61, gI, gL, gR, pI, pZ, pL, pR, aI, aR, sI, sR, al, dz, rz, cl, cp, tL, tC, has_sh, hs_1, hs_2, hs_3, hs_4, hs_5, hs_6, hs_47, hs_48, hs_49, hs_50, hs_51, hs_52, hs_54, hs_55, hs_56, hs_57, hs_58, hs_59, hs_60, hs_61, hs_62, hs_63, hs_184, hs_185, hs_186, hs_187, hs_188, hs_189, hs_190, hs_191, hs_192, hs_193, hs_194, hs_195, hs_196, hs_197, hs_198, hs_199, hs_200, hs_201, hs_202, hs_203, hs_204, hs_205, hs_206, hs_207, hs_208, hs_209, hs_210, hs_211, hs_212, hs_213, hs_214, hs_215, hs_216, hs_217, hs_218, hs_219, hs_220, hs_221, hs_222, hs_223, hs_224, hs_ru, hs_ru0, hs_ru1, hs_ru2, hs_wi, hs_wi0, hs_wi1, hs_wi2, hs_pi, hs_pi0, hs_pa, hs_pa0, tb_2, tb_3, tb_4, tb_6, tb_48, tb_49, tb_51, tb_52, tb_54, tb_55, tb_57, tb_58, tb_60, tb_62, tb_63, tb_185, tb_186, tb_187, tb_188, tb_189, tb_190, tb_191, tb_192, tb_193, tb_194, tb_195, tb_196, tb_197, tb_198, tb_199, tb_200, tb_201, tb_202, tb_203, tb_204, tb_205, tb_206, tb_207, tb_208, tb_209, tb_210, tb_211, tb_212, tb_213, tb_214, tb_215, tb_216, tb_217, tb_218, tb_219, tb_220, tb_221, tb_222, tb_223, tb_224, tb_ru0, tb_ru1, tb_ru2, tb_wi0, tb_wi1, tb_wi2, tb_pi0, tb_pa0, sr1_0, sr1_1, sr1_2, sr1_3, sr1_4, sr1_5, sr1_6, sr1_7, sr1_8, sr1_9, sr5_0, sr47_0, sr47_1, sr50_0, sr50_1, sr50_3, sr50_4, sr56_0, sr56_1, sr59_0, sr61_0, sr184_1, sr184_3, sr184_4, sr184_5, sr184_7, sr184_8, sr184_9, sr184_10, sr184_11, sr184_12, sr184_13, sr184_14, sr184_16, sr184_18, sr184_19, sr184_20, sr184_21, sr184_22, sr184_23, sr184_24, sr184_25, sr184_27, sr184_32, sr184_33, sr184_34, sr184_35, sr184_36, sr184_37, sr184_38, sr184_40, sr184_41, sr184_44, sr184_45, sr184_50, sr184_51, sr184_52, sr184_53, sr184_54, sr184_55, sr184_57, sr2, sr3, sr4, sr6, srru0, srru1, srru2, srwi0, srwi1, srwi2, srpi0, srpa0, Sh_wI, Sh_wL, Sh_wC, if_true, zb_0, zb_1, Option.bind_some, has_wI, has_wL, has_wC, rR_wI, rR_wL, rR_wC, hA0, s1, s2, s4, s6, hr, e1, g1, e2, g2, i1, i2, g3, e4, g4, g5, e6, g7, nI_1]
  · have a1 : Wr (Sit r t) A A4 := ((w1.mono (fun k s z => Or.inl z)).tr (w2.mono (fun k s z => Or.inl z))).tr (w3.tr (w4.mono (fun k s z => Or.inl z)))
    have a2 : Wr (Sit r t) A4 A6 := w5.tr (w6.mono (fun k s z => Or.inl z))
    exact ((a1.tr a2).wI (by unfold Sit; omega)).wI (by unfold Sit; omega)
  · exact ⟨by rw [rI_wI, if_neg (by omega), rI_wI, if_neg (by omega)]; exact z6.1, by rw [rI_wI, if_neg (by omega), rI_wI, if_neg (by omega)]; exact z6.2⟩
  · rw [rI_wI, if_neg (by omega), rI_wI, if_neg (by omega), w6.2.2 _ _ (by unfold Sat; omega), rI_wI, if_neg (by omega), w4.2.2 _ _ (by unfold Sat; omega), rI_wI, if_pos ⟨rfl, rfl⟩]
  · rw [rI_wI, if_neg (by omega), rI_wI, if_neg (by omega), w6.2.2 _ _ (by unfold Sat; omega), rI_wI, if_pos ⟨rfl, rfl⟩]
  · rw [rI_wI, if_neg (by omega), rI_wI, if_pos ⟨rfl, rfl⟩]; rfl
/-- the sign: what the model keeps is the class's, where no fault is -/
theorem sg_ok (q : Nat × Bool) (h : (stw nx (sbyt.getD (sgt (nx q.1)) []) q).2 = false) : nx q.1 = sgv (nx q.1) := by
  have h0 : ¬ q.2 = true := fun z => by rw [stw_t nx _ q z, z] at h; cases h
  unfold sgt at h
  unfold sgv
  by_cases h1 : nx q.1 = 60
  · rw [if_pos h1]; exact h1
  · rw [if_neg h1] at h ⊢
    by_cases h2 : nx q.1 = 62
    · rw [if_pos h2]; exact h2
    · rw [if_neg h2] at h ⊢
      by_cases h3 : nx q.1 = 61
      · exact h3
      · have : stw nx (sbyt.getD 13 []) q = (q.1, true) := by
          show st1 nx 61 q = _
          unfold st1
          rw [if_neg h0, if_neg h3]
        rw [this] at h
        cases h
theorem sgv_3 (x : Int32) : sgv x = 60 ∨ sgv x = 61 ∨ sgv x = 62 := by
  unfold sgv
  by_cases h1 : x = 60
  · rw [if_pos h1]; exact Or.inl rfl
  · rw [if_neg h1]
    by_cases h2 : x = 62
    · rw [if_pos h2]; exact Or.inr (Or.inr rfl)
    · rw [if_neg h2]; exact Or.inr (Or.inl rfl)
/-- the model's sign -/
theorem e_sign (hB : TpB nx L B) (hn : ∀ i, L ≤ i → nx i = -1) {q : Nat × Bool} (hs : TSB B q) (h2 : q.2 = false) (hq : q.1 ≤ L) (X : Int32) :
    ∃ B', (if nx q.1 = 60 then s_m11_testHere_63 184 X B else if ¬ nx q.1 = 62 then (s_m11_one 184 61 B).bind (fun p => s_m11_testHere_82 184 X p.2) else s_m11_testHere_63 184 X B) = s_m11_testHere_82 184 X B' ∧ Wr Tat B B' ∧ TSB B' (stw nx (sbyt.getD (sgt (nx q.1)) []) q) ∧ (stw nx (sbyt.getD (sgt (nx q.1)) []) q).1 ≤ L := by
  have hB1 := hB.1
  have en := e_here hB hn hs hq
  have f : ¬ q.2 = true := by rw [h2]; decide
  have h29 : rI B 184 29 = 0 := by rw [hs.2, if_neg f]
  have up : Wr Tat B (wI B 184 28 (nI (q.1 + 1))) := (Wr.rf _ _).wI ⟨rfl, Or.inl rfl⟩
  unfold sgt
  by_cases h60 : nx q.1 = 60
  · rw [if_pos h60, if_pos h60]
    have s1 : stw nx (sbyt.getD 11 []) q = (q.1 + 1, false) := by
      show st1 nx 60 q = _
      unfold st1; rw [if_neg f, if_pos h60]
    refine ⟨wI B 184 28 (nI (q.1 + 1)), ?_, up, ?_, stw_le hn _ q (by decide) hq⟩
    · simp only [s_m11_testHere_63, gI, gL, gR, pI, pZ, pL, pR, aI, aR, sI, sR, al, dz, rz, cl, cp, tL, tC, has_sh, hs_1, hs_2, hs_3, hs_4, hs_5, hs_6, hs_47, hs_48, hs_49, hs_50, hs_51, hs_52, hs_54, hs_55, hs_56, hs_57, hs_58, hs_59, hs_60, hs_61, hs_62, hs_63, hs_184, hs_185, hs_186, hs_187, hs_188, hs_189, hs_190, hs_191, hs_192, hs_193, hs_194, hs_195, hs_196, hs_197, hs_198, hs_199, hs_200, hs_201, hs_202, hs_203, hs_204, hs_205, hs_206, hs_207, hs_208, hs_209, hs_210, hs_211, hs_212, hs_213, hs_214, hs_215, hs_216, hs_217, hs_218, hs_219, hs_220, hs_221, hs_222, hs_223, hs_224, hs_ru, hs_ru0, hs_ru1, hs_ru2, hs_wi, hs_wi0, hs_wi1, hs_wi2, hs_pi, hs_pi0, hs_pa, hs_pa0, tb_2, tb_3, tb_4, tb_6, tb_48, tb_49, tb_51, tb_52, tb_54, tb_55, tb_57, tb_58, tb_60, tb_62, tb_63, tb_185, tb_186, tb_187, tb_188, tb_189, tb_190, tb_191, tb_192, tb_193, tb_194, tb_195, tb_196, tb_197, tb_198, tb_199, tb_200, tb_201, tb_202, tb_203, tb_204, tb_205, tb_206, tb_207, tb_208, tb_209, tb_210, tb_211, tb_212, tb_213, tb_214, tb_215, tb_216, tb_217, tb_218, tb_219, tb_220, tb_221, tb_222, tb_223, tb_224, tb_ru0, tb_ru1, tb_ru2, tb_wi0, tb_wi1, tb_wi2, tb_pi0, tb_pa0, sr1_0, sr1_1, sr1_2, sr1_3, sr1_4, sr1_5, sr1_6, sr1_7, sr1_8, sr1_9, sr5_0, sr47_0, sr47_1, sr50_0, sr50_1, sr50_3, sr50_4, sr56_0, sr56_1, sr59_0, sr61_0, sr184_1, sr184_3, sr184_4, sr184_5, sr184_7, sr184_8, sr184_9, sr184_10, sr184_11, sr184_12, sr184_13, sr184_14, sr184_16, sr184_18, sr184_19, sr184_20, sr184_21, sr184_22, sr184_23, sr184_24, sr184_25, sr184_27, sr184_32, sr184_33, sr184_34, sr184_35, sr184_36, sr184_37, sr184_38, sr184_40, sr184_41, sr184_44, sr184_45, sr184_50, sr184_51, sr184_52, sr184_53, sr184_54, sr184_55, sr184_57, sr2, sr3, sr4, sr6, srru0, srru1, srru2, srwi0, srwi1, srwi2, srpi0, srpa0, Sh_wI, Sh_wL, Sh_wC, if_true, zb_0, zb_1, Option.bind_some, has_wI, has_wL, has_wC, rR_wI, rR_wL, rR_wC, hB1, hs.1, nI_1]
    · rw [s1]; exact ⟨by simp [rI_wI], by rw [rI_wI, if_neg (by omega), h29]; rfl⟩
  · rw [if_neg h60, if_neg h60]
    by_cases h62 : nx q.1 = 62
    · rw [if_pos h62]
      have s1 : stw nx (sbyt.getD 12 []) q = (q.1 + 1, false) := by
        show st1 nx 62 q = _
        unfold st1; rw [if_neg f, if_pos h62]
      refine ⟨wI B 184 28 (nI (q.1 + 1)), ?_, up, ?_, stw_le hn _ q (by decide) hq⟩
      · simp only [s_m11_testHere_63, gI, gL, gR, pI, pZ, pL, pR, aI, aR, sI, sR, al, dz, rz, cl, cp, tL, tC, has_sh, hs_1, hs_2, hs_3, hs_4, hs_5, hs_6, hs_47, hs_48, hs_49, hs_50, hs_51, hs_52, hs_54, hs_55, hs_56, hs_57, hs_58, hs_59, hs_60, hs_61, hs_62, hs_63, hs_184, hs_185, hs_186, hs_187, hs_188, hs_189, hs_190, hs_191, hs_192, hs_193, hs_194, hs_195, hs_196, hs_197, hs_198, hs_199, hs_200, hs_201, hs_202, hs_203, hs_204, hs_205, hs_206, hs_207, hs_208, hs_209, hs_210, hs_211, hs_212, hs_213, hs_214, hs_215, hs_216, hs_217, hs_218, hs_219, hs_220, hs_221, hs_222, hs_223, hs_224, hs_ru, hs_ru0, hs_ru1, hs_ru2, hs_wi, hs_wi0, hs_wi1, hs_wi2, hs_pi, hs_pi0, hs_pa, hs_pa0, tb_2, tb_3, tb_4, tb_6, tb_48, tb_49, tb_51, tb_52, tb_54, tb_55, tb_57, tb_58, tb_60, tb_62, tb_63, tb_185, tb_186, tb_187, tb_188, tb_189, tb_190, tb_191, tb_192, tb_193, tb_194, tb_195, tb_196, tb_197, tb_198, tb_199, tb_200, tb_201, tb_202, tb_203, tb_204, tb_205, tb_206, tb_207, tb_208, tb_209, tb_210, tb_211, tb_212, tb_213, tb_214, tb_215, tb_216, tb_217, tb_218, tb_219, tb_220, tb_221, tb_222, tb_223, tb_224, tb_ru0, tb_ru1, tb_ru2, tb_wi0, tb_wi1, tb_wi2, tb_pi0, tb_pa0, sr1_0, sr1_1, sr1_2, sr1_3, sr1_4, sr1_5, sr1_6, sr1_7, sr1_8, sr1_9, sr5_0, sr47_0, sr47_1, sr50_0, sr50_1, sr50_3, sr50_4, sr56_0, sr56_1, sr59_0, sr61_0, sr184_1, sr184_3, sr184_4, sr184_5, sr184_7, sr184_8, sr184_9, sr184_10, sr184_11, sr184_12, sr184_13, sr184_14, sr184_16, sr184_18, sr184_19, sr184_20, sr184_21, sr184_22, sr184_23, sr184_24, sr184_25, sr184_27, sr184_32, sr184_33, sr184_34, sr184_35, sr184_36, sr184_37, sr184_38, sr184_40, sr184_41, sr184_44, sr184_45, sr184_50, sr184_51, sr184_52, sr184_53, sr184_54, sr184_55, sr184_57, sr2, sr3, sr4, sr6, srru0, srru1, srru2, srwi0, srwi1, srwi2, srpi0, srpa0, Sh_wI, Sh_wL, Sh_wC, if_true, zb_0, zb_1, Option.bind_some, has_wI, has_wL, has_wC, rR_wI, rR_wL, rR_wC, hB1, en, h62, eq_self, not_true_eq_false, if_false, hs.1, nI_1]
      · rw [s1]; exact ⟨by simp [rI_wI], by rw [rI_wI, if_neg (by omega), h29]; rfl⟩
    · rw [if_neg h62]
      obtain ⟨B', e, w, z⟩ := e_one hB hn hs hq 61
      exact ⟨B', by simp only [gI, gL, gR, pI, pZ, pL, pR, aI, aR, sI, sR, al, dz, rz, cl, cp, tL, tC, has_sh, hs_1, hs_2, hs_3, hs_4, hs_5, hs_6, hs_47, hs_48, hs_49, hs_50, hs_51, hs_52, hs_54, hs_55, hs_56, hs_57, hs_58, hs_59, hs_60, hs_61, hs_62, hs_63, hs_184, hs_185, hs_186, hs_187, hs_188, hs_189, hs_190, hs_191, hs_192, hs_193, hs_194, hs_195, hs_196, hs_197, hs_198, hs_199, hs_200, hs_201, hs_202, hs_203, hs_204, hs_205, hs_206, hs_207, hs_208, hs_209, hs_210, hs_211, hs_212, hs_213, hs_214, hs_215, hs_216, hs_217, hs_218, hs_219, hs_220, hs_221, hs_222, hs_223, hs_224, hs_ru, hs_ru0, hs_ru1, hs_ru2, hs_wi, hs_wi0, hs_wi1, hs_wi2, hs_pi, hs_pi0, hs_pa, hs_pa0, tb_2, tb_3, tb_4, tb_6, tb_48, tb_49, tb_51, tb_52, tb_54, tb_55, tb_57, tb_58, tb_60, tb_62, tb_63, tb_185, tb_186, tb_187, tb_188, tb_189, tb_190, tb_191, tb_192, tb_193, tb_194, tb_195, tb_196, tb_197, tb_198, tb_199, tb_200, tb_201, tb_202, tb_203, tb_204, tb_205, tb_206, tb_207, tb_208, tb_209, tb_210, tb_211, tb_212, tb_213, tb_214, tb_215, tb_216, tb_217, tb_218, tb_219, tb_220, tb_221, tb_222, tb_223, tb_224, tb_ru0, tb_ru1, tb_ru2, tb_wi0, tb_wi1, tb_wi2, tb_pi0, tb_pa0, sr1_0, sr1_1, sr1_2, sr1_3, sr1_4, sr1_5, sr1_6, sr1_7, sr1_8, sr1_9, sr5_0, sr47_0, sr47_1, sr50_0, sr50_1, sr50_3, sr50_4, sr56_0, sr56_1, sr59_0, sr61_0, sr184_1, sr184_3, sr184_4, sr184_5, sr184_7, sr184_8, sr184_9, sr184_10, sr184_11, sr184_12, sr184_13, sr184_14, sr184_16, sr184_18, sr184_19, sr184_20, sr184_21, sr184_22, sr184_23, sr184_24, sr184_25, sr184_27, sr184_32, sr184_33, sr184_34, sr184_35, sr184_36, sr184_37, sr184_38, sr184_40, sr184_41, sr184_44, sr184_45, sr184_50, sr184_51, sr184_52, sr184_53, sr184_54, sr184_55, sr184_57, sr2, sr3, sr4, sr6, srru0, srru1, srru2, srwi0, srwi1, srwi2, srpi0, srpa0, Sh_wI, Sh_wL, Sh_wC, if_true, zb_0, zb_1, Option.bind_some, has_wI, has_wL, has_wC, rR_wI, rR_wL, rR_wC, hB1, en, h62, not_false_eq_true, e], w, z, stw_le hn (sbyt.getD 13 []) q (by decide) hq⟩
/-- the model reads one test -/
theorem e_test (hB : TpB nx L B) (hn : ∀ i, L ≤ i → nx i = -1) {q : Nat × Bool} (hs : TSB B q) (hq2 : q.2 = false) (hq : q.1 ≤ L) {r t : Nat} (hr : r < 10) (ht : t < 3) (h2 : rI B 202 r = nI t) (h30 : rI B 184 30 = nI r) :
    ∃ B', s_m11_testHere 184 B = some ((), B') ∧ Wr (Tit r t) B B' ∧ TSB B' (f4 nx q).2 ∧ ((f4 nx q).2.2 = false → rI B' 202 r = nI (t + 1) ∧ rI B' 203 (3 * r + t) = fdv (nx q.1) ∧ rI B' 204 (3 * r + t) = sgv (nx (f2 nx q).1) ∧ rI B' 205 (3 * r + t) = nI (f4 nx q).1) := by
  have hB0 := hB.1
  have i1 : inb (nI r) 11 = true := inb_nI (by omega) (by omega)
  have i2 := nI_clamp (show r < 2 ^ 31 by omega)
  have i0 : (3 : Int32) * nI r + nI t = nI (3 * r + t) := by rw [show (3 : Int32) = nI 3 from rfl, pk_mul, nI_add]
  have i3 : inb (nI (3 * r + t)) 33 = true := inb_nI (by omega) (by omega)
  have i4 := nI_clamp (show 3 * r + t < 2 ^ 31 by omega)
  obtain ⟨B1, e1, w1, z1, l1⟩ := e_mdF hB hn hs hq
  have hB1 := hB.wr w1 (fun k s q => by unfold Tat at q; omega)
  have w2 : Wr (Tit r t) B1 (wI B1 203 (3 * r + t) (fdv (nx q.1))) := (Wr.rf _ _).wI (by unfold Tit; omega)
  have hB2 := hB1.wr w2 (fun k s z => Tit_o z)
  have z2 : TSB (wI B1 203 (3 * r + t) (fdv (nx q.1))) (f2 nx q) := ⟨by rw [rI_wI, if_neg (by omega)]; exact z1.1, by rw [rI_wI, if_neg (by omega)]; exact z1.2⟩
  have a2 : Wr (Tit r t) B (wI B1 203 (3 * r + t) (fdv (nx q.1))) := (w1.mono (fun k s z => Or.inl z)).tr w2
  have s1 := hB1.1
  by_cases c : (f2 nx q).2 = true
  · have e9 : rI (wI B1 203 (3 * r + t) (fdv (nx q.1))) 184 29 = 1 := by rw [z2.2, if_pos c]
    have q3 := f3_t nx q c
    have q4 := f4_t nx q (by rw [q3]; exact c)
    refine ⟨_, ?_, a2, by rw [q4, q3]; exact z2, fun z => by rw [q4, q3, c] at z; cases z⟩
    simp only [s_m11_testHere, gI, gL, gR, pI, pZ, pL, pR, aI, aR, sI, sR, al, dz, rz, cl, cp, tL, tC, has_sh, hs_1, hs_2, hs_3, hs_4, hs_5, hs_6, hs_47, hs_48, hs_49, hs_50, hs_51, hs_52, hs_54, hs_55, hs_56, hs_57, hs_58, hs_59, hs_60, hs_61, hs_62, hs_63, hs_184, hs_185, hs_186, hs_187, hs_188, hs_189, hs_190, hs_191, hs_192, hs_193, hs_194, hs_195, hs_196, hs_197, hs_198, hs_199, hs_200, hs_201, hs_202, hs_203, hs_204, hs_205, hs_206, hs_207, hs_208, hs_209, hs_210, hs_211, hs_212, hs_213, hs_214, hs_215, hs_216, hs_217, hs_218, hs_219, hs_220, hs_221, hs_222, hs_223, hs_224, hs_ru, hs_ru0, hs_ru1, hs_ru2, hs_wi, hs_wi0, hs_wi1, hs_wi2, hs_pi, hs_pi0, hs_pa, hs_pa0, tb_2, tb_3, tb_4, tb_6, tb_48, tb_49, tb_51, tb_52, tb_54, tb_55, tb_57, tb_58, tb_60, tb_62, tb_63, tb_185, tb_186, tb_187, tb_188, tb_189, tb_190, tb_191, tb_192, tb_193, tb_194, tb_195, tb_196, tb_197, tb_198, tb_199, tb_200, tb_201, tb_202, tb_203, tb_204, tb_205, tb_206, tb_207, tb_208, tb_209, tb_210, tb_211, tb_212, tb_213, tb_214, tb_215, tb_216, tb_217, tb_218, tb_219, tb_220, tb_221, tb_222, tb_223, tb_224, tb_ru0, tb_ru1, tb_ru2, tb_wi0, tb_wi1, tb_wi2, tb_pi0, tb_pa0, sr1_0, sr1_1, sr1_2, sr1_3, sr1_4, sr1_5, sr1_6, sr1_7, sr1_8, sr1_9, sr5_0, sr47_0, sr47_1, sr50_0, sr50_1, sr50_3, sr50_4, sr56_0, sr56_1, sr59_0, sr61_0, sr184_1, sr184_3, sr184_4, sr184_5, sr184_7, sr184_8, sr184_9, sr184_10, sr184_11, sr184_12, sr184_13, sr184_14, sr184_16, sr184_18, sr184_19, sr184_20, sr184_21, sr184_22, sr184_23, sr184_24, sr184_25, sr184_27, sr184_32, sr184_33, sr184_34, sr184_35, sr184_36, sr184_37, sr184_38, sr184_40, sr184_41, sr184_44, sr184_45, sr184_50, sr184_51, sr184_52, sr184_53, sr184_54, sr184_55, sr184_57, sr2, sr3, sr4, sr6, srru0, srru1, srru2, srwi0, srwi1, srwi2, srpi0, srpa0, Sh_wI, Sh_wL, Sh_wC, if_true, zb_0, zb_1, Option.bind_some, has_wI, has_wL, has_wC, rR_wI, rR_wL, rR_wC, hB0, s1, h30, i1, i2, h2, e1, i0, i3, i4, e9, ne_1, if_false]
  · have c' : (f2 nx q).2 = false := by simpa using c
    have e9 : rI (wI B1 203 (3 * r + t) (fdv (nx q.1))) 184 29 = 0 := by rw [z2.2, if_neg c]
    have en2 := e_here hB2 hn z2 l1
    have w3 : Wr (Tit r t) (wI B1 203 (3 * r + t) (fdv (nx q.1))) (wI (wI B1 203 (3 * r + t) (fdv (nx q.1))) 204 (3 * r + t) (nx (f2 nx q).1)) := (Wr.rf _ _).wI (by unfold Tit; omega)
    have hB3 := hB2.wr w3 (fun k s z => Tit_o z)
    have z3 : TSB (wI (wI B1 203 (3 * r + t) (fdv (nx q.1))) 204 (3 * r + t) (nx (f2 nx q).1)) (f2 nx q) := ⟨by rw [rI_wI, if_neg (by omega)]; exact z2.1, by rw [rI_wI, if_neg (by omega)]; exact z2.2⟩
    have en3 := e_here hB3 hn z3 l1
    obtain ⟨B4, e4, w4, z4, l4⟩ := e_sign hB3 hn z3 c' l1 (nI (3 * r + t))
    have hB4 := hB3.wr w4 (fun k s q => by unfold Tat at q; omega)
    have z4' : TSB B4 (f3 nx q) := z4
    have l4' : (f3 nx q).1 ≤ L := l4
    obtain ⟨B5, e5, w5, z5, l5⟩ := e_num11 hB4 hn z4' l4'
    have hB5 := hB4.wr w5 (fun k s q => by unfold Tat at q; omega)
    have s4 := hB4.1
    have s5 := hB5.1
    have g30 : rI (wI B5 205 (3 * r + t) (nI (nmv nx (f3 nx q)).1)) 184 30 = nI r := by
      rw [rI_wI, if_neg (by omega), w5.2.2 _ _ (by unfold Tat; omega), w4.2.2 _ _ (by unfold Tat; omega), w3.2.2 _ _ (by unfold Tit Tat; omega), w2.2.2 _ _ (by unfold Tit Tat; omega), w1.2.2 _ _ (by unfold Tat; omega)]; exact h30
    have g2 : rI (wI B5 205 (3 * r + t) (nI (nmv nx (f3 nx q)).1)) 202 r = nI t := by
      rw [rI_wI, if_neg (by omega), w5.2.2 _ _ (by unfold Tat; omega), w4.2.2 _ _ (by unfold Tat; omega), rI_wI, if_neg (by omega), rI_wI, if_neg (by omega), w1.2.2 _ _ (by unfold Tat; omega)]; exact h2
    refine ⟨wI (wI B5 205 (3 * r + t) (nI (nmv nx (f3 nx q)).1)) 202 r (nI (t + 1)), ?_, ?_, ?_, fun z => ⟨by simp [rI_wI], ?_, ?_, ?_⟩⟩
    · have hst := hB2.1
      have hs3 := hB3.1
      simp only [s_m11_testHere, gI, gL, gR, pI, pZ, pL, pR, aI, aR, sI, sR, al, dz, rz, cl, cp, tL, tC, has_sh, hs_1, hs_2, hs_3, hs_4, hs_5, hs_6, hs_47, hs_48, hs_49, hs_50, hs_51, hs_52, hs_54, hs_55, hs_56, hs_57, hs_58, hs_59, hs_60, hs_61, hs_62, hs_63, hs_184, hs_185, hs_186, hs_187, hs_188, hs_189, hs_190, hs_191, hs_192, hs_193, hs_194, hs_195, hs_196, hs_197, hs_198, hs_199, hs_200, hs_201, hs_202, hs_203, hs_204, hs_205, hs_206, hs_207, hs_208, hs_209, hs_210, hs_211, hs_212, hs_213, hs_214, hs_215, hs_216, hs_217, hs_218, hs_219, hs_220, hs_221, hs_222, hs_223, hs_224, hs_ru, hs_ru0, hs_ru1, hs_ru2, hs_wi, hs_wi0, hs_wi1, hs_wi2, hs_pi, hs_pi0, hs_pa, hs_pa0, tb_2, tb_3, tb_4, tb_6, tb_48, tb_49, tb_51, tb_52, tb_54, tb_55, tb_57, tb_58, tb_60, tb_62, tb_63, tb_185, tb_186, tb_187, tb_188, tb_189, tb_190, tb_191, tb_192, tb_193, tb_194, tb_195, tb_196, tb_197, tb_198, tb_199, tb_200, tb_201, tb_202, tb_203, tb_204, tb_205, tb_206, tb_207, tb_208, tb_209, tb_210, tb_211, tb_212, tb_213, tb_214, tb_215, tb_216, tb_217, tb_218, tb_219, tb_220, tb_221, tb_222, tb_223, tb_224, tb_ru0, tb_ru1, tb_ru2, tb_wi0, tb_wi1, tb_wi2, tb_pi0, tb_pa0, sr1_0, sr1_1, sr1_2, sr1_3, sr1_4, sr1_5, sr1_6, sr1_7, sr1_8, sr1_9, sr5_0, sr47_0, sr47_1, sr50_0, sr50_1, sr50_3, sr50_4, sr56_0, sr56_1, sr59_0, sr61_0, sr184_1, sr184_3, sr184_4, sr184_5, sr184_7, sr184_8, sr184_9, sr184_10, sr184_11, sr184_12, sr184_13, sr184_14, sr184_16, sr184_18, sr184_19, sr184_20, sr184_21, sr184_22, sr184_23, sr184_24, sr184_25, sr184_27, sr184_32, sr184_33, sr184_34, sr184_35, sr184_36, sr184_37, sr184_38, sr184_40, sr184_41, sr184_44, sr184_45, sr184_50, sr184_51, sr184_52, sr184_53, sr184_54, sr184_55, sr184_57, sr2, sr3, sr4, sr6, srru0, srru1, srru2, srwi0, srwi1, srwi2, srpi0, srpa0, Sh_wI, Sh_wL, Sh_wC, if_true, zb_0, zb_1, Option.bind_some, has_wI, has_wL, has_wC, rR_wI, rR_wL, rR_wC, hB0, s1, h30, i1, i2, h2, e1, i0, i3, i4, e9, en2, en3]
      rw [e4]
      simp only [s_m11_testHere_82, gI, gL, gR, pI, pZ, pL, pR, aI, aR, sI, sR, al, dz, rz, cl, cp, tL, tC, has_sh, hs_1, hs_2, hs_3, hs_4, hs_5, hs_6, hs_47, hs_48, hs_49, hs_50, hs_51, hs_52, hs_54, hs_55, hs_56, hs_57, hs_58, hs_59, hs_60, hs_61, hs_62, hs_63, hs_184, hs_185, hs_186, hs_187, hs_188, hs_189, hs_190, hs_191, hs_192, hs_193, hs_194, hs_195, hs_196, hs_197, hs_198, hs_199, hs_200, hs_201, hs_202, hs_203, hs_204, hs_205, hs_206, hs_207, hs_208, hs_209, hs_210, hs_211, hs_212, hs_213, hs_214, hs_215, hs_216, hs_217, hs_218, hs_219, hs_220, hs_221, hs_222, hs_223, hs_224, hs_ru, hs_ru0, hs_ru1, hs_ru2, hs_wi, hs_wi0, hs_wi1, hs_wi2, hs_pi, hs_pi0, hs_pa, hs_pa0, tb_2, tb_3, tb_4, tb_6, tb_48, tb_49, tb_51, tb_52, tb_54, tb_55, tb_57, tb_58, tb_60, tb_62, tb_63, tb_185, tb_186, tb_187, tb_188, tb_189, tb_190, tb_191, tb_192, tb_193, tb_194, tb_195, tb_196, tb_197, tb_198, tb_199, tb_200, tb_201, tb_202, tb_203, tb_204, tb_205, tb_206, tb_207, tb_208, tb_209, tb_210, tb_211, tb_212, tb_213, tb_214, tb_215, tb_216, tb_217, tb_218, tb_219, tb_220, tb_221, tb_222, tb_223, tb_224, tb_ru0, tb_ru1, tb_ru2, tb_wi0, tb_wi1, tb_wi2, tb_pi0, tb_pa0, sr1_0, sr1_1, sr1_2, sr1_3, sr1_4, sr1_5, sr1_6, sr1_7, sr1_8, sr1_9, sr5_0, sr47_0, sr47_1, sr50_0, sr50_1, sr50_3, sr50_4, sr56_0, sr56_1, sr59_0, sr61_0, sr184_1, sr184_3, sr184_4, sr184_5, sr184_7, sr184_8, sr184_9, sr184_10, sr184_11, sr184_12, sr184_13, sr184_14, sr184_16, sr184_18, sr184_19, sr184_20, sr184_21, sr184_22, sr184_23, sr184_24, sr184_25, sr184_27, sr184_32, sr184_33, sr184_34, sr184_35, sr184_36, sr184_37, sr184_38, sr184_40, sr184_41, sr184_44, sr184_45, sr184_50, sr184_51, sr184_52, sr184_53, sr184_54, sr184_55, sr184_57, sr2, sr3, sr4, sr6, srru0, srru1, srru2, srwi0, srwi1, srwi2, srpi0, srpa0, Sh_wI, Sh_wL, Sh_wC, if_true, zb_0, zb_1, Option.bind_some, has_wI, has_wL, has_wC, rR_wI, rR_wL, rR_wC, s4, s5, e5, i1, i2, i3, i4, g30, g2, nI_1]
    · have b1 : Wr (Tit r t) B B4 := a2.tr (w3.tr (w4.mono (fun k s z => Or.inl z)))
      exact ((b1.tr (w5.mono (fun k s z => Or.inl z))).wI (by unfold Tit; omega)).wI (by unfold Tit; omega)
    · exact ⟨by rw [rI_wI, if_neg (by omega), rI_wI, if_neg (by omega)]; exact z5.1, by rw [rI_wI, if_neg (by omega), rI_wI, if_neg (by omega)]; exact z5.2⟩
    · rw [rI_wI, if_neg (by omega), rI_wI, if_neg (by omega), w5.2.2 _ _ (by unfold Tat; omega), w4.2.2 _ _ (by unfold Tat; omega), rI_wI, if_neg (by omega), rI_wI, if_pos ⟨rfl, rfl⟩]
    · rw [rI_wI, if_neg (by omega), rI_wI, if_neg (by omega), w5.2.2 _ _ (by unfold Tat; omega), w4.2.2 _ _ (by unfold Tat; omega), rI_wI, if_pos ⟨rfl, rfl⟩]
      refine sg_ok (f2 nx q) ?_
      by_cases y : (f3 nx q).2 = true
      · rw [f4_t nx q y, y] at z; cases z
      · exact Bool.eq_false_iff.2 y
    · rw [rI_wI, if_neg (by omega), rI_wI, if_pos ⟨rfl, rfl⟩]; rfl
end TST
