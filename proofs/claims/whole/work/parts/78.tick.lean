/-! LAYER 2: run: a wire's tick -/
section TCK
variable {c : Nat} {A B : Mm}
/-- what waits on a wire, both ways -/
theorem Inv.qw (h : Inv c (mg A B)) {w : Nat} (hw : w < nW B) : ∃ F, Fm B w F ∧ (∀ k, k < F → fl B w k < nP B) ∧ (Qr B w 0 F).length ≤ 12 ∧ rI A (64 + 4 * w) 3 = nI (Qr B w 0 F).length ∧ (∀ i, i < (Qr B w 0 F).length → rI A (65 + 4 * w) i = nI ((Qr B w 0 F).getD i 0)) ∧ ∀ q ∈ Qr B w 0 F, q < nP B := by
  obtain ⟨F, hF, -, h3, h12, h5⟩ := h.fF hw
  obtain ⟨F', f1, f2, f3, -⟩ := h.fk hw
  have hP := h.ple
  have f40 := hF.2.1
  have hfl : ∀ k, k < F → fl B w k < nP B := fun k hk => by
    have e : F' = F := (nI_eq (by omega) (by omega)).1 (f2.symm.trans hF.1)
    obtain ⟨p', q1, q2, -⟩ := f3 k (by omega)
    have : fl B w k = p' := by unfold fl; rw [q2, nI_clamp (by omega)]
    omega
  refine ⟨F, hF, hfl, h12, h3, h5, fun q hq => ?_⟩
  obtain ⟨-, j, -, j2, rfl⟩ := Qr_mem hq
  exact hfl j (by omega)
/-- which is next: the class's place, the model's piece -/
theorem e_pick (h : Inv c (mg A B)) (hB : Sh B) {w F : Nat} (hw : w < nW B) (hF : Fm B w F) (hfl : ∀ k, k < F → fl B w k < nP B) (h12 : (Qr B w 0 F).length ≤ 12) (h3 : rI A (64 + 4 * w) 3 = nI (Qr B w 0 F).length) (h5 : ∀ i, i < (Qr B w 0 F).length → rI A (65 + 4 * w) i = nI ((Qr B w 0 F).getD i 0)) (hm : ∀ q ∈ Qr B w 0 F, q < nP B) :
    (Qr B w 0 F = [] ∧ s_m11_nextOn 184 (nI w) B = some (-1, B)) ∨ ∃ pl p, (Qr B w 0 F)[pl]? = some p ∧ p < nP B ∧ s_m10_placeOfGreatest 1 (64 + 4 * w) A = some (nI pl, A) ∧ s_m11_nextOn 184 (nI w) B = some (nI p, B) := by
  have hwle := h.wle
  have fu : FU = 5000 := rfl
  have e1 := e_nextOn h hB (show w < 6 by omega) hF hfl
  have e2 := e_pog7 h (show w < 6 by omega) (Qr B w 0 F) h12 h3 h5 hm (Qr B w 0 F).length 0 FU 0 (-1) (by omega) (by omega)
  rw [nI_0, List.drop_zero] at e2
  by_cases c : Qr B w 0 F = []
  · rw [c] at e1
    exact Or.inl ⟨c, e1⟩
  · obtain ⟨pl, p, g1, g2, g3⟩ := sel_ne (f := rho B) (Qr B w 0 F) c (fun p hp => by
      obtain ⟨m, m9, em⟩ := rho_nn h (hm p hp)
      rw [em, Int32.le_iff_toInt_le, nI_toInt (by omega), show (-1 : Int32).toInt = -1 from by decide]
      omega)
    rw [g1] at e2
    rw [g2] at e1
    exact Or.inr ⟨pl, p, g3, hm p (List.mem_of_getElem? g3), e2, e1⟩
theorem Inv.sends (h : Inv c (mg A B)) : Inv c (mg (wI A 1 13 (rI B 184 42 + 1)) (wI B 184 42 (rI B 184 42 + 1))) := by
  have wa : Wr SR A (wI A 1 13 (rI B 184 42 + 1)) := (Wr.rf _ _).wI (by unfold SR; omega)
  have wb : Wr TR B (wI B 184 42 (rI B 184 42 + 1)) := (Wr.rf _ _).wI (by unfold TR; omega)
  have hM := mg_wr (S := fun k s => k = 1 ∧ s = 13) (T := fun k s => k = 184 ∧ s = 42) ((Wr.rf _ A).wI (v := rI B 184 42 + 1) ⟨rfl, rfl⟩) ((Wr.rf _ B).wI (v := rI B 184 42 + 1) ⟨rfl, rfl⟩)
  have hP := h.ple
  have hW := h.wle
  refine h.runs wa wb ?_ ?_ (fun a ha => ?_) (fun a q ha q1 q2 => ?_) (fun w hw => ?_) (fun w q1 q2 => ?_)
  · simp [rI_wI]
  · rw [rI_wI, if_neg (by omega), rI_wI, if_neg (by omega)]; exact h.hc
  · obtain ⟨s1, s2⟩ := h.sn ha
    refine ⟨by rw [rI_wI, if_neg (by omega), rI_wI, if_neg (by omega)]; exact s1, fun q hq => ?_⟩
    have hq' : q < nP B := by rw [← show nP (wI B 184 42 (rI B 184 42 + 1)) = nP B from nP_eq (by rw [rI_wI, if_neg (by omega)])]; exact hq
    rw [rI_wI, if_neg (by omega), rI_wI, if_neg (by omega)]
    exact (s2 q (by omega)).1 hq'
  · rw [rI_wI, if_neg (by omega)]; exact ((h.sn ha).2 q q2).2 q1
  · exact (h.2.2.2.2.2.2.2.2.2.2.1.1 w hw).kp (show nP (mg A B) ≤ 40 from hP) (fun k s q => (hM k s (by unfold Lf at q; omega)).1)
  · rw [rI_wI, if_neg (by omega)]; exact (h.fn q1 q2).1
theorem rho_eq {B B' : Mm} (e : ∀ k s, (189 ≤ k ∧ k ≤ 205) ∨ (k = 184 ∧ (s = 17 ∨ s = 31)) → rI B' k s = rI B k s) : rho B' = rho B := by
  have m : ∀ k s, 189 ≤ k → k ≤ 205 → rI B' k s = rI B k s := fun k s h1 h2 => e k s (Or.inl ⟨h1, h2⟩)
  have hvf : ∀ f p a, vf B' f p a = vf B f p a := fun f p a => by
    unfold vf
    rw [m 189 p (by omega) (by omega), m 190 p (by omega) (by omega), m 191 p (by omega) (by omega), m 193 p (by omega) (by omega)]
  have htok : ∀ r j p a, tok B' r j p a = tok B r j p a := fun r j p a => by
    unfold tok tcmp
    rw [m 203 _ (by omega) (by omega), m 204 _ (by omega) (by omega), m 205 _ (by omega) (by omega), hvf]
  have hhl : ∀ r p a d k, hl B' r p a d k = hl B r p a d k := fun r p a d => by
    induction d with
    | zero => intro k; rfl
    | succ d ih => intro k; unfold hl; rw [htok, ih]
  have hHv : ∀ r p a, Hv B' r p a = Hv B r p a := fun r p a => by
    unfold Hv
    rw [e 184 31 (by omega), m 200 _ (by omega) (by omega), m 201 _ (by omega) (by omega), m 202 _ (by omega) (by omega), hhl]
  have hnl : ∀ key p a o r, nl B' key p a o r = nl B key p a o r := fun key p a o r => by
    induction r with
    | zero => rfl
    | succ r ih => unfold nl; rw [m 198 _ (by omega) (by omega), m 199 _ (by omega) (by omega), hHv, ih]
  funext q
  unfold rho
  rw [hnl, m 192 q (by omega) (by omega), nQ_eq (e 184 17 (by omega))]
theorem e_send31 {w : Nat} (k36 : Nat → Int32 → Int32 → Int32 → Mm → Option (Int32 × Mm)) (k44 : Nat → Int32 → Int32 → Int32 → Int32 → Mm → Option (Int32 × Mm)) (x1 x2 x3 g : Int32) {v : Nat} (hv : v ≤ 9) : ∀ (d i n m : Nat) (A B : Mm) (pn : Int32), i + d = v → d < n → d < m → Inv c (mg A B) → Sh B → w < nW B → rI B 188 w = nI v → s_m11_nextOn 184 (nI w) B = some (pn, B) →
    ∃ A' B', s_m10_sendOneTick_31 n 1 (64 + 4 * w) g (nI i) A = some ((), A') ∧ s_m11_run_76 k36 k44 m 184 x1 x2 x3 (nI w) g pn (nI i) B = k44 184 x1 x2 x3 (nI (w + 1)) B' ∧ Inv c (mg A' B') ∧ Wr SR A A' ∧ Wr TR B B'
  | 0, i, n + 1, m + 1, A, B, pn, hi, _, _, h, hB, hw, hs, hp => by
    have hA := h.shA
    have hW := h.wle
    have w6 : w < 6 := by omega
    have i1 : inb (nI w) 6 = true := inb_nI w6 (by omega)
    have i2 := nI_clamp (show w < 2 ^ 31 by omega)
    obtain ⟨⟨-, -, wk3⟩, -⟩ := h.wk hw
    rw [hs] at wk3
    refine ⟨A, B, ?_, ?_, h, Wr.rf _ _, Wr.rf _ _⟩
    · simp only [s_m10_sendOneTick_31, s_m10_sendOneTick_77, gI, gL, gR, pI, pZ, pL, pR, aI, aR, sI, sR, al, dz, rz, cl, cp, tL, tC, has_sh, hs_1, hs_2, hs_3, hs_4, hs_5, hs_6, hs_47, hs_48, hs_49, hs_50, hs_51, hs_52, hs_54, hs_55, hs_56, hs_57, hs_58, hs_59, hs_60, hs_61, hs_62, hs_63, hs_184, hs_185, hs_186, hs_187, hs_188, hs_189, hs_190, hs_191, hs_192, hs_193, hs_194, hs_195, hs_196, hs_197, hs_198, hs_199, hs_200, hs_201, hs_202, hs_203, hs_204, hs_205, hs_206, hs_207, hs_208, hs_209, hs_210, hs_211, hs_212, hs_213, hs_214, hs_215, hs_216, hs_217, hs_218, hs_219, hs_220, hs_221, hs_222, hs_223, hs_224, hs_ru, hs_ru0, hs_ru1, hs_ru2, hs_wi, hs_wi0, hs_wi1, hs_wi2, hs_pi, hs_pi0, hs_pa, hs_pa0, tb_2, tb_3, tb_4, tb_6, tb_48, tb_49, tb_51, tb_52, tb_54, tb_55, tb_57, tb_58, tb_60, tb_62, tb_63, tb_185, tb_186, tb_187, tb_188, tb_189, tb_190, tb_191, tb_192, tb_193, tb_194, tb_195, tb_196, tb_197, tb_198, tb_199, tb_200, tb_201, tb_202, tb_203, tb_204, tb_205, tb_206, tb_207, tb_208, tb_209, tb_210, tb_211, tb_212, tb_213, tb_214, tb_215, tb_216, tb_217, tb_218, tb_219, tb_220, tb_221, tb_222, tb_223, tb_224, tb_ru0, tb_ru1, tb_ru2, tb_wi0, tb_wi1, tb_wi2, tb_pi0, tb_pa0, sr1_0, sr1_1, sr1_2, sr1_3, sr1_4, sr1_5, sr1_6, sr1_7, sr1_8, sr1_9, sr5_0, sr47_0, sr47_1, sr50_0, sr50_1, sr50_3, sr50_4, sr56_0, sr56_1, sr59_0, sr61_0, sr184_1, sr184_3, sr184_4, sr184_5, sr184_7, sr184_8, sr184_9, sr184_10, sr184_11, sr184_12, sr184_13, sr184_14, sr184_16, sr184_18, sr184_19, sr184_20, sr184_21, sr184_22, sr184_23, sr184_24, sr184_25, sr184_27, sr184_32, sr184_33, sr184_34, sr184_35, sr184_36, sr184_37, sr184_38, sr184_40, sr184_41, sr184_44, sr184_45, sr184_50, sr184_51, sr184_52, sr184_53, sr184_54, sr184_55, sr184_57, sr2, sr3, sr4, sr6, srru0, srru1, srru2, srwi0, srwi1, srwi2, srpi0, srpa0, Sh_wI, Sh_wL, Sh_wC, if_true, zb_0, zb_1, Option.bind_some, has_wI, has_wL, has_wC, rR_wI, rR_wL, rR_wC, hA, w6, wk3, nI_le (show v ≤ i by omega) (by omega)]
    · simp only [s_m11_run_76, s_m11_run_131, gI, gL, gR, pI, pZ, pL, pR, aI, aR, sI, sR, al, dz, rz, cl, cp, tL, tC, has_sh, hs_1, hs_2, hs_3, hs_4, hs_5, hs_6, hs_47, hs_48, hs_49, hs_50, hs_51, hs_52, hs_54, hs_55, hs_56, hs_57, hs_58, hs_59, hs_60, hs_61, hs_62, hs_63, hs_184, hs_185, hs_186, hs_187, hs_188, hs_189, hs_190, hs_191, hs_192, hs_193, hs_194, hs_195, hs_196, hs_197, hs_198, hs_199, hs_200, hs_201, hs_202, hs_203, hs_204, hs_205, hs_206, hs_207, hs_208, hs_209, hs_210, hs_211, hs_212, hs_213, hs_214, hs_215, hs_216, hs_217, hs_218, hs_219, hs_220, hs_221, hs_222, hs_223, hs_224, hs_ru, hs_ru0, hs_ru1, hs_ru2, hs_wi, hs_wi0, hs_wi1, hs_wi2, hs_pi, hs_pi0, hs_pa, hs_pa0, tb_2, tb_3, tb_4, tb_6, tb_48, tb_49, tb_51, tb_52, tb_54, tb_55, tb_57, tb_58, tb_60, tb_62, tb_63, tb_185, tb_186, tb_187, tb_188, tb_189, tb_190, tb_191, tb_192, tb_193, tb_194, tb_195, tb_196, tb_197, tb_198, tb_199, tb_200, tb_201, tb_202, tb_203, tb_204, tb_205, tb_206, tb_207, tb_208, tb_209, tb_210, tb_211, tb_212, tb_213, tb_214, tb_215, tb_216, tb_217, tb_218, tb_219, tb_220, tb_221, tb_222, tb_223, tb_224, tb_ru0, tb_ru1, tb_ru2, tb_wi0, tb_wi1, tb_wi2, tb_pi0, tb_pa0, sr1_0, sr1_1, sr1_2, sr1_3, sr1_4, sr1_5, sr1_6, sr1_7, sr1_8, sr1_9, sr5_0, sr47_0, sr47_1, sr50_0, sr50_1, sr50_3, sr50_4, sr56_0, sr56_1, sr59_0, sr61_0, sr184_1, sr184_3, sr184_4, sr184_5, sr184_7, sr184_8, sr184_9, sr184_10, sr184_11, sr184_12, sr184_13, sr184_14, sr184_16, sr184_18, sr184_19, sr184_20, sr184_21, sr184_22, sr184_23, sr184_24, sr184_25, sr184_27, sr184_32, sr184_33, sr184_34, sr184_35, sr184_36, sr184_37, sr184_38, sr184_40, sr184_41, sr184_44, sr184_45, sr184_50, sr184_51, sr184_52, sr184_53, sr184_54, sr184_55, sr184_57, sr2, sr3, sr4, sr6, srru0, srru1, srru2, srwi0, srwi1, srwi2, srpi0, srpa0, Sh_wI, Sh_wL, Sh_wC, if_true, zb_0, zb_1, Option.bind_some, has_wI, has_wL, has_wC, rR_wI, rR_wL, rR_wC, hB, i1, i2, hs, nI_le (show v ≤ i by omega) (by omega), nI_1]
  | d + 1, i, n + 1, m + 1, A, B, pn, hi, hn, hm, h, hB, hw, hs, hp => by
    have hA := h.shA
    have hW := h.wle
    have w6 : w < 6 := by omega
    have i1 : inb (nI w) 6 = true := inb_nI w6 (by omega)
    have i2 := nI_clamp (show w < 2 ^ 31 by omega)
    obtain ⟨⟨-, -, wk3⟩, -⟩ := h.wk hw
    rw [hs] at wk3
    have nle : ¬ nI v ≤ nI i := nI_ge (by omega) (by omega)
    obtain ⟨F, hF, hfl, h12, h3, h5, hmem⟩ := h.qw hw
    have hP := h.ple
    rcases e_pick h hB hw hF hfl h12 h3 h5 hmem with ⟨q0, q1⟩ | ⟨pl, p, q1, q2, q3, q4⟩
    · have epn : pn = -1 := by rw [q1] at hp; exact (Prod.mk.inj (Option.some.inj hp)).1.symm
      have l0 : rI A (64 + 4 * w) 3 = 0 := by rw [h3, q0]; rfl
      refine ⟨A, B, ?_, ?_, h, Wr.rf _ _, Wr.rf _ _⟩
      · simp only [s_m10_sendOneTick_31, s_m10_sendOneTick_77, gI, gL, gR, pI, pZ, pL, pR, aI, aR, sI, sR, al, dz, rz, cl, cp, tL, tC, has_sh, hs_1, hs_2, hs_3, hs_4, hs_5, hs_6, hs_47, hs_48, hs_49, hs_50, hs_51, hs_52, hs_54, hs_55, hs_56, hs_57, hs_58, hs_59, hs_60, hs_61, hs_62, hs_63, hs_184, hs_185, hs_186, hs_187, hs_188, hs_189, hs_190, hs_191, hs_192, hs_193, hs_194, hs_195, hs_196, hs_197, hs_198, hs_199, hs_200, hs_201, hs_202, hs_203, hs_204, hs_205, hs_206, hs_207, hs_208, hs_209, hs_210, hs_211, hs_212, hs_213, hs_214, hs_215, hs_216, hs_217, hs_218, hs_219, hs_220, hs_221, hs_222, hs_223, hs_224, hs_ru, hs_ru0, hs_ru1, hs_ru2, hs_wi, hs_wi0, hs_wi1, hs_wi2, hs_pi, hs_pi0, hs_pa, hs_pa0, tb_2, tb_3, tb_4, tb_6, tb_48, tb_49, tb_51, tb_52, tb_54, tb_55, tb_57, tb_58, tb_60, tb_62, tb_63, tb_185, tb_186, tb_187, tb_188, tb_189, tb_190, tb_191, tb_192, tb_193, tb_194, tb_195, tb_196, tb_197, tb_198, tb_199, tb_200, tb_201, tb_202, tb_203, tb_204, tb_205, tb_206, tb_207, tb_208, tb_209, tb_210, tb_211, tb_212, tb_213, tb_214, tb_215, tb_216, tb_217, tb_218, tb_219, tb_220, tb_221, tb_222, tb_223, tb_224, tb_ru0, tb_ru1, tb_ru2, tb_wi0, tb_wi1, tb_wi2, tb_pi0, tb_pa0, sr1_0, sr1_1, sr1_2, sr1_3, sr1_4, sr1_5, sr1_6, sr1_7, sr1_8, sr1_9, sr5_0, sr47_0, sr47_1, sr50_0, sr50_1, sr50_3, sr50_4, sr56_0, sr56_1, sr59_0, sr61_0, sr184_1, sr184_3, sr184_4, sr184_5, sr184_7, sr184_8, sr184_9, sr184_10, sr184_11, sr184_12, sr184_13, sr184_14, sr184_16, sr184_18, sr184_19, sr184_20, sr184_21, sr184_22, sr184_23, sr184_24, sr184_25, sr184_27, sr184_32, sr184_33, sr184_34, sr184_35, sr184_36, sr184_37, sr184_38, sr184_40, sr184_41, sr184_44, sr184_45, sr184_50, sr184_51, sr184_52, sr184_53, sr184_54, sr184_55, sr184_57, sr2, sr3, sr4, sr6, srru0, srru1, srru2, srwi0, srwi1, srwi2, srpi0, srpa0, Sh_wI, Sh_wL, Sh_wC, if_true, zb_0, zb_1, Option.bind_some, has_wI, has_wL, has_wC, rR_wI, rR_wL, rR_wC, hA, w6, wk3, nle, if_false, l0, show (0 : Int32) ≤ 0 from by decide]
      · simp only [s_m11_run_76, s_m11_run_131, gI, gL, gR, pI, pZ, pL, pR, aI, aR, sI, sR, al, dz, rz, cl, cp, tL, tC, has_sh, hs_1, hs_2, hs_3, hs_4, hs_5, hs_6, hs_47, hs_48, hs_49, hs_50, hs_51, hs_52, hs_54, hs_55, hs_56, hs_57, hs_58, hs_59, hs_60, hs_61, hs_62, hs_63, hs_184, hs_185, hs_186, hs_187, hs_188, hs_189, hs_190, hs_191, hs_192, hs_193, hs_194, hs_195, hs_196, hs_197, hs_198, hs_199, hs_200, hs_201, hs_202, hs_203, hs_204, hs_205, hs_206, hs_207, hs_208, hs_209, hs_210, hs_211, hs_212, hs_213, hs_214, hs_215, hs_216, hs_217, hs_218, hs_219, hs_220, hs_221, hs_222, hs_223, hs_224, hs_ru, hs_ru0, hs_ru1, hs_ru2, hs_wi, hs_wi0, hs_wi1, hs_wi2, hs_pi, hs_pi0, hs_pa, hs_pa0, tb_2, tb_3, tb_4, tb_6, tb_48, tb_49, tb_51, tb_52, tb_54, tb_55, tb_57, tb_58, tb_60, tb_62, tb_63, tb_185, tb_186, tb_187, tb_188, tb_189, tb_190, tb_191, tb_192, tb_193, tb_194, tb_195, tb_196, tb_197, tb_198, tb_199, tb_200, tb_201, tb_202, tb_203, tb_204, tb_205, tb_206, tb_207, tb_208, tb_209, tb_210, tb_211, tb_212, tb_213, tb_214, tb_215, tb_216, tb_217, tb_218, tb_219, tb_220, tb_221, tb_222, tb_223, tb_224, tb_ru0, tb_ru1, tb_ru2, tb_wi0, tb_wi1, tb_wi2, tb_pi0, tb_pa0, sr1_0, sr1_1, sr1_2, sr1_3, sr1_4, sr1_5, sr1_6, sr1_7, sr1_8, sr1_9, sr5_0, sr47_0, sr47_1, sr50_0, sr50_1, sr50_3, sr50_4, sr56_0, sr56_1, sr59_0, sr61_0, sr184_1, sr184_3, sr184_4, sr184_5, sr184_7, sr184_8, sr184_9, sr184_10, sr184_11, sr184_12, sr184_13, sr184_14, sr184_16, sr184_18, sr184_19, sr184_20, sr184_21, sr184_22, sr184_23, sr184_24, sr184_25, sr184_27, sr184_32, sr184_33, sr184_34, sr184_35, sr184_36, sr184_37, sr184_38, sr184_40, sr184_41, sr184_44, sr184_45, sr184_50, sr184_51, sr184_52, sr184_53, sr184_54, sr184_55, sr184_57, sr2, sr3, sr4, sr6, srru0, srru1, srru2, srwi0, srwi1, srwi2, srpi0, srpa0, Sh_wI, Sh_wL, Sh_wC, if_true, zb_0, zb_1, Option.bind_some, has_wI, has_wL, has_wC, rR_wI, rR_wL, rR_wC, hB, i1, i2, hs, nle, if_false, epn, eq_self, nI_1]
    · have epn : pn = nI p := by rw [q4] at hp; exact (Prod.mk.inj (Option.some.inj hp)).1.symm
      subst epn
      have lq := (List.getElem?_eq_some_iff.1 q1).1
      have l0 : ¬ rI A (64 + 4 * w) 3 ≤ 0 := by rw [h3]; exact nI_nle (by omega) (by omega)
      have pm1 : ¬ nI p = -1 := ne_m1 (by omega)
      have sc := h.sc
      have h1 := h.sends
      have wa1 : Wr SR A (wI A 1 13 (rI B 184 42 + 1)) := (Wr.rf _ _).wI (by unfold SR; omega)
      have wb1 : Wr TR B (wI B 184 42 (rI B 184 42 + 1)) := (Wr.rf _ _).wI (by unfold TR; omega)
      have hw1 : w < nW (wI B 184 42 (rI B 184 42 + 1)) := by rw [show nW (wI B 184 42 (rI B 184 42 + 1)) = nW B from nW_eq (by rw [rI_wI, if_neg (by omega)])]; exact hw
      have hs1 : rI (wI B 184 42 (rI B 184 42 + 1)) 188 w = nI v := by rw [rI_wI, if_neg (by omega)]; exact hs
      have hB1 : Sh (wI B 184 42 (rI B 184 42 + 1)) := hB
      have eQ1 : Qr (wI B 184 42 (rI B 184 42 + 1)) w 0 F = Qr B w 0 F := by
        have m8 : ∀ s, rI (wI B 184 42 (rI B 184 42 + 1)) 208 s = rI B 208 s := fun s => by rw [rI_wI, if_neg (by omega)]
        have m11 : ∀ s, rI (wI B 184 42 (rI B 184 42 + 1)) 211 s = rI B 211 s := fun s => by rw [rI_wI, if_neg (by omega)]
        unfold Qr fl
        simp only [m8, m11]
      have hF1 : Fm (wI B 184 42 (rI B 184 42 + 1)) w F := by
        obtain ⟨g1, g2, g3⟩ := hF
        refine ⟨by rw [rI_wI, if_neg (by omega)]; exact g1, g2, fun k hk => ?_⟩
        obtain ⟨p', p1, p2, p3⟩ := g3 k hk
        exact ⟨p', p1, by rw [rI_wI, if_neg (by omega)]; exact p2, by rw [rI_wI, if_neg (by omega)]; exact p3⟩
      obtain ⟨F1, hF1', hfl1, h121, h31, h51, hmem1⟩ := h1.qw hw1
      have eF1 : F1 = F := (nI_eq (by have := hF1'.2.1; omega) (by have := hF1.2.1; omega)).1 (hF1'.1.symm.trans hF1.1)
      subst eF1
      generalize eA1 : wI A 1 13 (rI B 184 42 + 1) = A1 at *
      generalize eB1 : wI B 184 42 (rI B 184 42 + 1) = B1 at *
      have hA1 := h1.shA
      by_cases g0 : g = 0
      · rcases e_pick h1 hB1 hw1 hF1 hfl1 h121 h31 h51 hmem1 with ⟨r0, -⟩ | ⟨pl', p', r1, r2, r3, r4⟩
        · rw [eQ1] at r0; rw [r0] at lq; exact absurd lq (by simp)
        · -- the model chose p ahead of the count of words sent
          have same : p' = p := by
            have e1 := e_nextOn h1 hB1 w6 hF1 hfl1
            have e2 := e_nextOn h hB w6 hF hfl
            have er : rho B1 = rho B := rho_eq (fun k s z => by rw [← eB1, rI_wI, if_neg (by omega)])
            rw [eQ1, er] at e1
            rw [r4] at e1
            rw [q4] at e2
            have a1 := (Prod.mk.inj (Option.some.inj e1)).1
            have a2 := (Prod.mk.inj (Option.some.inj e2)).1
            have := h1.ple
            exact (nI_eq (by omega) (by omega)).1 (a1.trans a2.symm)
          subst same
          obtain ⟨A2, B2, d1, d2, d3, d4, d5⟩ := e_hear h1 hB1 hw1 hF1 r1
          have hB2 := d5.sh hB1
          have hw2 : w < nW B2 := by rw [nW_eq (d5.2.2 184 2 (by unfold TR; omega))]; exact hw1
          obtain ⟨F2, hF2, hfl2, h122, h32, h52, hmem2⟩ := d3.qw hw2
          have e2 := e_nextOn d3 hB2 w6 hF2 hfl2
          obtain ⟨A', B', u1, u2, u3, u4, u5⟩ := e_send31 k36 k44 x1 x2 x3 g hv d (i + 1) n m A2 B2 _ (by omega) (by omega) (by omega) d3 hB2 hw2 (by rw [d5.2.2 188 w (by unfold TR; omega)]; exact hs1) e2
          refine ⟨A', B', ?_, ?_, u3, (wa1.tr d4).tr u4, (wb1.tr d5).tr u5⟩
          · rw [← u1]
            simp only [s_m10_sendOneTick_31, s_m10_sendOneTick_71, gI, gL, gR, pI, pZ, pL, pR, aI, aR, sI, sR, al, dz, rz, cl, cp, tL, tC, has_sh, hs_1, hs_2, hs_3, hs_4, hs_5, hs_6, hs_47, hs_48, hs_49, hs_50, hs_51, hs_52, hs_54, hs_55, hs_56, hs_57, hs_58, hs_59, hs_60, hs_61, hs_62, hs_63, hs_184, hs_185, hs_186, hs_187, hs_188, hs_189, hs_190, hs_191, hs_192, hs_193, hs_194, hs_195, hs_196, hs_197, hs_198, hs_199, hs_200, hs_201, hs_202, hs_203, hs_204, hs_205, hs_206, hs_207, hs_208, hs_209, hs_210, hs_211, hs_212, hs_213, hs_214, hs_215, hs_216, hs_217, hs_218, hs_219, hs_220, hs_221, hs_222, hs_223, hs_224, hs_ru, hs_ru0, hs_ru1, hs_ru2, hs_wi, hs_wi0, hs_wi1, hs_wi2, hs_pi, hs_pi0, hs_pa, hs_pa0, tb_2, tb_3, tb_4, tb_6, tb_48, tb_49, tb_51, tb_52, tb_54, tb_55, tb_57, tb_58, tb_60, tb_62, tb_63, tb_185, tb_186, tb_187, tb_188, tb_189, tb_190, tb_191, tb_192, tb_193, tb_194, tb_195, tb_196, tb_197, tb_198, tb_199, tb_200, tb_201, tb_202, tb_203, tb_204, tb_205, tb_206, tb_207, tb_208, tb_209, tb_210, tb_211, tb_212, tb_213, tb_214, tb_215, tb_216, tb_217, tb_218, tb_219, tb_220, tb_221, tb_222, tb_223, tb_224, tb_ru0, tb_ru1, tb_ru2, tb_wi0, tb_wi1, tb_wi2, tb_pi0, tb_pa0, sr1_0, sr1_1, sr1_2, sr1_3, sr1_4, sr1_5, sr1_6, sr1_7, sr1_8, sr1_9, sr5_0, sr47_0, sr47_1, sr50_0, sr50_1, sr50_3, sr50_4, sr56_0, sr56_1, sr59_0, sr61_0, sr184_1, sr184_3, sr184_4, sr184_5, sr184_7, sr184_8, sr184_9, sr184_10, sr184_11, sr184_12, sr184_13, sr184_14, sr184_16, sr184_18, sr184_19, sr184_20, sr184_21, sr184_22, sr184_23, sr184_24, sr184_25, sr184_27, sr184_32, sr184_33, sr184_34, sr184_35, sr184_36, sr184_37, sr184_38, sr184_40, sr184_41, sr184_44, sr184_45, sr184_50, sr184_51, sr184_52, sr184_53, sr184_54, sr184_55, sr184_57, sr2, sr3, sr4, sr6, srru0, srru1, srru2, srwi0, srwi1, srwi2, srpi0, srpa0, Sh_wI, Sh_wL, Sh_wC, if_true, zb_0, zb_1, Option.bind_some, has_wI, has_wL, has_wC, rR_wI, rR_wL, rR_wC, hA, w6, wk3, nle, if_false, l0, sc, eA1, hA1, g0, eq_self, not_true_eq_false, r3, d1, nI_1]
          · rw [← u2]
            simp only [s_m11_run_76, s_m11_run_125, gI, gL, gR, pI, pZ, pL, pR, aI, aR, sI, sR, al, dz, rz, cl, cp, tL, tC, has_sh, hs_1, hs_2, hs_3, hs_4, hs_5, hs_6, hs_47, hs_48, hs_49, hs_50, hs_51, hs_52, hs_54, hs_55, hs_56, hs_57, hs_58, hs_59, hs_60, hs_61, hs_62, hs_63, hs_184, hs_185, hs_186, hs_187, hs_188, hs_189, hs_190, hs_191, hs_192, hs_193, hs_194, hs_195, hs_196, hs_197, hs_198, hs_199, hs_200, hs_201, hs_202, hs_203, hs_204, hs_205, hs_206, hs_207, hs_208, hs_209, hs_210, hs_211, hs_212, hs_213, hs_214, hs_215, hs_216, hs_217, hs_218, hs_219, hs_220, hs_221, hs_222, hs_223, hs_224, hs_ru, hs_ru0, hs_ru1, hs_ru2, hs_wi, hs_wi0, hs_wi1, hs_wi2, hs_pi, hs_pi0, hs_pa, hs_pa0, tb_2, tb_3, tb_4, tb_6, tb_48, tb_49, tb_51, tb_52, tb_54, tb_55, tb_57, tb_58, tb_60, tb_62, tb_63, tb_185, tb_186, tb_187, tb_188, tb_189, tb_190, tb_191, tb_192, tb_193, tb_194, tb_195, tb_196, tb_197, tb_198, tb_199, tb_200, tb_201, tb_202, tb_203, tb_204, tb_205, tb_206, tb_207, tb_208, tb_209, tb_210, tb_211, tb_212, tb_213, tb_214, tb_215, tb_216, tb_217, tb_218, tb_219, tb_220, tb_221, tb_222, tb_223, tb_224, tb_ru0, tb_ru1, tb_ru2, tb_wi0, tb_wi1, tb_wi2, tb_pi0, tb_pa0, sr1_0, sr1_1, sr1_2, sr1_3, sr1_4, sr1_5, sr1_6, sr1_7, sr1_8, sr1_9, sr5_0, sr47_0, sr47_1, sr50_0, sr50_1, sr50_3, sr50_4, sr56_0, sr56_1, sr59_0, sr61_0, sr184_1, sr184_3, sr184_4, sr184_5, sr184_7, sr184_8, sr184_9, sr184_10, sr184_11, sr184_12, sr184_13, sr184_14, sr184_16, sr184_18, sr184_19, sr184_20, sr184_21, sr184_22, sr184_23, sr184_24, sr184_25, sr184_27, sr184_32, sr184_33, sr184_34, sr184_35, sr184_36, sr184_37, sr184_38, sr184_40, sr184_41, sr184_44, sr184_45, sr184_50, sr184_51, sr184_52, sr184_53, sr184_54, sr184_55, sr184_57, sr2, sr3, sr4, sr6, srru0, srru1, srru2, srwi0, srwi1, srwi2, srpi0, srpa0, Sh_wI, Sh_wL, Sh_wC, if_true, zb_0, zb_1, Option.bind_some, has_wI, has_wL, has_wC, rR_wI, rR_wL, rR_wC, hB, i1, i2, hs, nle, if_false, pm1, eB1, hB1, g0, eq_self, not_true_eq_false, d2, hB2, e2, nI_1]
      · obtain ⟨A', B', u1, u2, u3, u4, u5⟩ := e_send31 k36 k44 x1 x2 x3 g hv d (i + 1) n m A1 B1 (nI p) (by omega) (by omega) (by omega) h1 hB1 hw1 hs1 (by
            rcases e_pick h1 hB1 hw1 hF1 hfl1 h121 h31 h51 hmem1 with ⟨r0, -⟩ | ⟨pl', p', r1, r2, r3, r4⟩
            · rw [eQ1] at r0; rw [r0] at lq; exact absurd lq (by simp)
            · have e1 := e_nextOn h1 hB1 w6 hF1 hfl1
              have e2 := e_nextOn h hB w6 hF hfl
              have er : rho B1 = rho B := rho_eq (fun k s z => by rw [← eB1, rI_wI, if_neg (by omega)])
              rw [eQ1, er] at e1
              rw [q4] at e2
              rw [e1, ← (Prod.mk.inj (Option.some.inj e2)).1])
        refine ⟨A', B', ?_, ?_, u3, wa1.tr u4, wb1.tr u5⟩
        · rw [← u1]
          simp only [s_m10_sendOneTick_31, s_m10_sendOneTick_71, gI, gL, gR, pI, pZ, pL, pR, aI, aR, sI, sR, al, dz, rz, cl, cp, tL, tC, has_sh, hs_1, hs_2, hs_3, hs_4, hs_5, hs_6, hs_47, hs_48, hs_49, hs_50, hs_51, hs_52, hs_54, hs_55, hs_56, hs_57, hs_58, hs_59, hs_60, hs_61, hs_62, hs_63, hs_184, hs_185, hs_186, hs_187, hs_188, hs_189, hs_190, hs_191, hs_192, hs_193, hs_194, hs_195, hs_196, hs_197, hs_198, hs_199, hs_200, hs_201, hs_202, hs_203, hs_204, hs_205, hs_206, hs_207, hs_208, hs_209, hs_210, hs_211, hs_212, hs_213, hs_214, hs_215, hs_216, hs_217, hs_218, hs_219, hs_220, hs_221, hs_222, hs_223, hs_224, hs_ru, hs_ru0, hs_ru1, hs_ru2, hs_wi, hs_wi0, hs_wi1, hs_wi2, hs_pi, hs_pi0, hs_pa, hs_pa0, tb_2, tb_3, tb_4, tb_6, tb_48, tb_49, tb_51, tb_52, tb_54, tb_55, tb_57, tb_58, tb_60, tb_62, tb_63, tb_185, tb_186, tb_187, tb_188, tb_189, tb_190, tb_191, tb_192, tb_193, tb_194, tb_195, tb_196, tb_197, tb_198, tb_199, tb_200, tb_201, tb_202, tb_203, tb_204, tb_205, tb_206, tb_207, tb_208, tb_209, tb_210, tb_211, tb_212, tb_213, tb_214, tb_215, tb_216, tb_217, tb_218, tb_219, tb_220, tb_221, tb_222, tb_223, tb_224, tb_ru0, tb_ru1, tb_ru2, tb_wi0, tb_wi1, tb_wi2, tb_pi0, tb_pa0, sr1_0, sr1_1, sr1_2, sr1_3, sr1_4, sr1_5, sr1_6, sr1_7, sr1_8, sr1_9, sr5_0, sr47_0, sr47_1, sr50_0, sr50_1, sr50_3, sr50_4, sr56_0, sr56_1, sr59_0, sr61_0, sr184_1, sr184_3, sr184_4, sr184_5, sr184_7, sr184_8, sr184_9, sr184_10, sr184_11, sr184_12, sr184_13, sr184_14, sr184_16, sr184_18, sr184_19, sr184_20, sr184_21, sr184_22, sr184_23, sr184_24, sr184_25, sr184_27, sr184_32, sr184_33, sr184_34, sr184_35, sr184_36, sr184_37, sr184_38, sr184_40, sr184_41, sr184_44, sr184_45, sr184_50, sr184_51, sr184_52, sr184_53, sr184_54, sr184_55, sr184_57, sr2, sr3, sr4, sr6, srru0, srru1, srru2, srwi0, srwi1, srwi2, srpi0, srpa0, Sh_wI, Sh_wL, Sh_wC, if_true, zb_0, zb_1, Option.bind_some, has_wI, has_wL, has_wC, rR_wI, rR_wL, rR_wC, hA, w6, wk3, nle, if_false, l0, sc, eA1, hA1, g0, not_false_eq_true, nI_1]
        · rw [← u2]
          simp only [s_m11_run_76, s_m11_run_125, gI, gL, gR, pI, pZ, pL, pR, aI, aR, sI, sR, al, dz, rz, cl, cp, tL, tC, has_sh, hs_1, hs_2, hs_3, hs_4, hs_5, hs_6, hs_47, hs_48, hs_49, hs_50, hs_51, hs_52, hs_54, hs_55, hs_56, hs_57, hs_58, hs_59, hs_60, hs_61, hs_62, hs_63, hs_184, hs_185, hs_186, hs_187, hs_188, hs_189, hs_190, hs_191, hs_192, hs_193, hs_194, hs_195, hs_196, hs_197, hs_198, hs_199, hs_200, hs_201, hs_202, hs_203, hs_204, hs_205, hs_206, hs_207, hs_208, hs_209, hs_210, hs_211, hs_212, hs_213, hs_214, hs_215, hs_216, hs_217, hs_218, hs_219, hs_220, hs_221, hs_222, hs_223, hs_224, hs_ru, hs_ru0, hs_ru1, hs_ru2, hs_wi, hs_wi0, hs_wi1, hs_wi2, hs_pi, hs_pi0, hs_pa, hs_pa0, tb_2, tb_3, tb_4, tb_6, tb_48, tb_49, tb_51, tb_52, tb_54, tb_55, tb_57, tb_58, tb_60, tb_62, tb_63, tb_185, tb_186, tb_187, tb_188, tb_189, tb_190, tb_191, tb_192, tb_193, tb_194, tb_195, tb_196, tb_197, tb_198, tb_199, tb_200, tb_201, tb_202, tb_203, tb_204, tb_205, tb_206, tb_207, tb_208, tb_209, tb_210, tb_211, tb_212, tb_213, tb_214, tb_215, tb_216, tb_217, tb_218, tb_219, tb_220, tb_221, tb_222, tb_223, tb_224, tb_ru0, tb_ru1, tb_ru2, tb_wi0, tb_wi1, tb_wi2, tb_pi0, tb_pa0, sr1_0, sr1_1, sr1_2, sr1_3, sr1_4, sr1_5, sr1_6, sr1_7, sr1_8, sr1_9, sr5_0, sr47_0, sr47_1, sr50_0, sr50_1, sr50_3, sr50_4, sr56_0, sr56_1, sr59_0, sr61_0, sr184_1, sr184_3, sr184_4, sr184_5, sr184_7, sr184_8, sr184_9, sr184_10, sr184_11, sr184_12, sr184_13, sr184_14, sr184_16, sr184_18, sr184_19, sr184_20, sr184_21, sr184_22, sr184_23, sr184_24, sr184_25, sr184_27, sr184_32, sr184_33, sr184_34, sr184_35, sr184_36, sr184_37, sr184_38, sr184_40, sr184_41, sr184_44, sr184_45, sr184_50, sr184_51, sr184_52, sr184_53, sr184_54, sr184_55, sr184_57, sr2, sr3, sr4, sr6, srru0, srru1, srru2, srwi0, srwi1, srwi2, srpi0, srpa0, Sh_wI, Sh_wL, Sh_wC, if_true, zb_0, zb_1, Option.bind_some, has_wI, has_wL, has_wC, rR_wI, rR_wL, rR_wC, hB, i1, i2, hs, nle, if_false, pm1, eB1, hB1, g0, not_false_eq_true, nI_1]
end TCK
