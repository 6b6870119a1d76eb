/-! LAYER 2: what holds, read for the class's memory A and the model's memory B -/
section ACC
variable {c : Nat} {A B : Mm}
theorem Inv.shA (h : Inv c (mg A B)) : Sh A := h.1
theorem Inv.wle (h : Inv c (mg A B)) : nW B ≤ 6 := h.2.1.1.2.2
theorem Inv.mwc (h : Inv c (mg A B)) : rI B 184 2 = nI (nW B) := h.2.1.1.2.1
theorem Inv.wc (h : Inv c (mg A B)) : rI A 1 10 = nI (nW B) := (show rI A 1 10 = rI B 184 2 from h.2.1.1.1).trans h.mwc
theorem Inv.ple (h : Inv c (mg A B)) : nP B ≤ 40 := h.2.1.2.1.2.2
theorem Inv.mpc (h : Inv c (mg A B)) : rI B 184 6 = nI (nP B) := h.2.1.2.1.2.1
theorem Inv.pc (h : Inv c (mg A B)) : rI A 1 11 = nI (nP B) := (show rI A 1 11 = rI B 184 6 from h.2.1.2.1.1).trans h.mpc
theorem Inv.qle (h : Inv c (mg A B)) : nQ B ≤ 10 := h.2.1.2.2.1.2.2
theorem Inv.mqc (h : Inv c (mg A B)) : rI B 184 17 = nI (nQ B) := h.2.1.2.2.1.2.1
theorem Inv.qc (h : Inv c (mg A B)) : rI A 5 1 = nI (nQ B) := (show rI A 5 1 = rI B 184 17 from h.2.1.2.2.1.1).trans h.mqc
theorem Inv.tle (h : Inv c (mg A B)) : nTk B ≤ 500 * c := h.2.1.2.2.2.1.2.2
theorem Inv.mtc (h : Inv c (mg A B)) : rI B 184 31 = nI (nTk B) := h.2.1.2.2.2.1.2.1
theorem Inv.tc (h : Inv c (mg A B)) : rI A 1 12 = nI (nTk B) := (show rI A 1 12 = rI B 184 31 from h.2.1.2.2.2.1.1).trans h.mtc
theorem Inv.sc (h : Inv c (mg A B)) : rI A 1 13 = rI B 184 42 := h.2.1.2.2.2.2.1
theorem Inv.hc (h : Inv c (mg A B)) : rI A 1 14 = rI B 184 43 := h.2.1.2.2.2.2.2.1
theorem Inv.lc (h : Inv c (mg A B)) : rI A 1 15 = rI B 184 56 := h.2.1.2.2.2.2.2.2
theorem Inv.rf (h : Inv c (mg A B)) {i : Nat} (hi : i < 7) : rI A 63 i = rI B 185 (i + 2) := h.2.2.1 i hi
theorem Inv.wk (h : Inv c (mg A B)) {w : Nat} (hw : w < nW B) : (rI A (64 + 4 * w) 4 = rI B 186 w ∧ rI A (64 + 4 * w) 5 = rI B 187 w ∧ rI A (64 + 4 * w) 6 = rI B 188 w) ∧ (∃ b, b < 6 ∧ rI B 186 w = nI b) ∧ (∃ s, 1 ≤ s ∧ s < 256 ∧ rI B 187 w = nI s) ∧ (∃ v, 1 ≤ v ∧ v ≤ 9 ∧ rI B 188 w = nI v) := by
  have h1 := h.2.2.2.1 w hw
  have h2 := h.wle
  unfold Wok at h1
  simp (disch := omega) only [mg_lo, mg_hi] at h1
  exact ⟨⟨h1.1, h1.2.1, h1.2.2.1⟩, h1.2.2.2⟩
theorem Inv.pk (h : Inv c (mg A B)) {p : Nat} (hp : p < nP B) : rI A (88 + 2 * p) 1 = rI B 189 p ∧ rI A (88 + 2 * p) 2 = rI B 190 p ∧ rI A (88 + 2 * p) 3 = rI B 191 p ∧ rI A (88 + 2 * p) 4 = rI B 192 p ∧ rI A (88 + 2 * p) 5 = rI B 193 p ∧ rI A (88 + 2 * p) 6 = rI B 194 p ∧ rI A (88 + 2 * p) 7 = rI B 195 p := by
  have h1 := (h.2.2.2.2.1 p hp).1
  have h2 := h.ple
  simp (disch := omega) only [mg_lo, mg_hi] at h1
  exact h1
/-- what a piece may be, in the model -/
def Pm (A B : Mm) (p : Nat) : Prop := ∃ k s b t z : Nat, rI B 189 p = nI k ∧ k ≤ 5 ∧ rI B 190 p = nI s ∧ s < 8 ∧ rI B 191 p = nI b ∧ b < 6 ∧ rI B 192 p = nI t ∧ t ≤ 9 ∧ rI B 193 p = nI z ∧ 1 ≤ z ∧ z ≤ 12 ∧ (∀ j, j < z → rI A (89 + 2 * p) j = rI B 196 (12 * p + j)) ∧
  (k = 0 ∨ k = 5 → ∃ x, x < 8 ∧ rI B 194 p = nI x) ∧ (k = 5 → ∃ y, y ≤ 100000 ∧ rI B 195 p = nI y) ∧
  (2 ≤ k ∧ k ≤ 4 → ∃ q kq zq, q < p ∧ rI B 194 p = nI q ∧ rI B 190 q = nI s ∧ rI B 189 q = nI kq ∧ rI B 193 q = nI zq ∧ zq ≤ 12 ∧ (k = 4 → kq ≠ 4) ∧ (k = 2 ∨ k = 3 → kq = 0 ∨ kq = 1 ∨ kq = 5) ∧ (k = 2 → ∃ y, y ≤ zq ∧ rI B 195 p = nI y) ∧ (k = 3 → ∃ y, y + z ≤ zq ∧ rI B 195 p = nI y))
theorem Inv.pm (h : Inv c (mg A B)) {p : Nat} (hp : p < nP B) : Pm A B p := by
  have h1 := (h.2.2.2.2.1 p hp).2
  have h2 := h.ple
  simp (disch := omega) only [mg_lo, mg_hi] at h1
  exact h1
theorem Inv.ro (h : Inv c (mg A B)) : rI A 61 1 = rI B 184 15 ∧ ∃ z, z ≤ 16 ∧ rI B 184 15 = nI z ∧ ∀ i, i < z → rI A 62 i = rI B 197 i := h.2.2.2.2.2.1
theorem Inv.ta (h : Inv c (mg A B)) : rI A 59 1 = rI B 184 26 ∧ ∃ b, b ≤ 80 ∧ rI B 184 26 = nI b ∧ ∀ i, i < b → rI A 60 i = rI B 206 i := h.2.2.2.2.2.2.1
theorem Inv.qk (h : Inv c (mg A B)) {r : Nat} (hr : r < nQ B) : (rI A (7 + 4 * r) 4 = rI B 198 r ∧ rI A (7 + 4 * r) 5 = rI B 199 r ∧ rI A (7 + 4 * r) 6 = rI B 200 r ∧ rI A (7 + 4 * r) 7 = rI B 201 r ∧ rI A (7 + 4 * r) 3 = rI B 202 r) ∧
    ∃ k n m : Nat, rI B 198 r = nI k ∧ k ≤ 2 ∧ rI B 199 r = nI n ∧ n ≤ 9 ∧ rI B 202 r = nI m ∧ m ≤ 3 ∧ ∀ j, j < m → rI A (8 + 4 * r) j = rI B 203 (3 * r + j) ∧ rI A (9 + 4 * r) j = rI B 204 (3 * r + j) ∧ rI A (10 + 4 * r) j = rI B 205 (3 * r + j) ∧ (rI B 204 (3 * r + j) = 60 ∨ rI B 204 (3 * r + j) = 61 ∨ rI B 204 (3 * r + j) = 62) := by
  have h1 := h.2.2.2.2.2.2.2.1 r hr
  have h2 := h.qle
  unfold Rok at h1
  simp (disch := omega) only [mg_lo, mg_hi] at h1
  exact h1
theorem Inv.ga (h : Inv c (mg A B)) : rI A 47 2 = rI B 184 39 ∧ ∃ g, g ≤ 40 ∧ rI B 184 39 = nI g ∧ ∀ i, i < g → rI A 48 i = rI B 214 i ∧ rI A 49 i = rI B 215 i := h.2.2.2.2.2.2.2.2.1
theorem Inv.sn (h : Inv c (mg A B)) {a : Nat} (ha : a < 8) : rI A (168 + 2 * a) 1 = rI B 213 a ∧ ∀ p, p < 40 → (p < nP B → rI A (169 + 2 * a) p = rI B 212 (40 * a + p)) ∧ (nP B ≤ p → rI A (169 + 2 * a) p = -1) := by
  have h1 := h.2.2.2.2.2.2.2.2.2.1 a ha
  simp (disch := omega) only [mg_lo, mg_hi] at h1
  exact h1
theorem Inv.ed (h : Inv c (mg A B)) {a : Nat} (ha : a < 8) : (rI B 220 a = 0 ∧ rI A (168 + 2 * a) 2 = -1) ∨ (rI B 220 a = 1 ∧ rI A (168 + 2 * a) 2 = rI B 221 a ∧ 0 ≤ rI B 221 a ∧ rI A (168 + 2 * a) 3 = rI B 222 a ∧ ∀ p, p < 40 → rI B 223 (40 * a + p) = if bit (rL A (168 + 2 * a) 4) p then 1 else 0) := by
  have h1 := h.2.2.2.2.2.2.2.2.2.2.2 a ha
  simp (disch := omega) only [mg_lo, mg_hi, mgL_lo] at h1
  exact h1
/-- the pieces that wait on a wire, the model's -/
def Qm (B : Mm) (w F : Nat) : List Nat := ((List.range F).map (fun k => (rI B 208 (40 * w + k)).toNatClampNeg)).filter (fun p => decide (rI B 211 (40 * w + p) = -1))
theorem Inv.fk (h : Inv c (mg A B)) {w : Nat} (hw : w < nW B) : ∃ F, F ≤ nP B ∧ rI B 207 w = nI F ∧ (∀ k, k < F → ∃ p, p < nP B ∧ rI B 208 (40 * w + k) = nI p ∧ rI B 209 (40 * w + p) = nI k) ∧
    (∀ p, p < nP B → (rI B 209 (40 * w + p) = -1 ∧ rI A (66 + 4 * w) p = -1 ∧ rI A (67 + 4 * w) p = -1) ∨
      (∃ k h z, k < F ∧ rI B 208 (40 * w + k) = nI p ∧ rI B 209 (40 * w + p) = nI k ∧ rI B 210 (40 * w + p) = nI h ∧ rI A (66 + 4 * w) p = nI h ∧ rI A (67 + 4 * w) p = rI B 211 (40 * w + p) ∧ rI B 193 p = nI z ∧ z ≤ 12 ∧ ((rI B 211 (40 * w + p) = -1 ∧ h < z) ∨ (0 ≤ rI B 211 (40 * w + p) ∧ h = z)))) ∧
    (∀ p, nP B ≤ p → p < 40 → rI A (66 + 4 * w) p = -1 ∧ rI A (67 + 4 * w) p = -1) ∧ rI A (64 + 4 * w) 3 = nI (Qm B w F).length ∧ (Qm B w F).length ≤ 12 ∧ ∀ i, i < (Qm B w F).length → rI A (65 + 4 * w) i = nI ((Qm B w F).getD i 0) := by
  have h1 := h.2.2.2.2.2.2.2.2.2.2.1.1 w hw
  have h2 := h.wle
  unfold Fok Ql at h1
  simp (disch := omega) only [mg_lo, mg_hi] at h1
  exact h1
theorem Inv.fn (h : Inv c (mg A B)) {w : Nat} (h1 : nW B ≤ w) (h2 : w < 6) : rI A (64 + 4 * w) 3 = 0 ∧ ∀ p, p < nP B → rI B 209 (40 * w + p) = -1 := by
  have h3 := h.2.2.2.2.2.2.2.2.2.2.1.2 w h1 h2
  simp (disch := omega) only [mg_hi, mg_lo] at h3
  exact h3
end ACC
/-! LAYER 2: which arguments are in range -/
theorem nI_m1 (N : Nat) (hN : N < 2 ^ 30) : (nI N - 1).toInt = (N : Int) - 1 := pk_sub_toInt (b := 1) hN (by omega)
theorem in_iff {x : Int32} {N : Nat} (hN : N < 2 ^ 30) : (0 ≤ x ∧ x ≤ nI N - 1) ↔ ∃ p, p < N ∧ x = nI p := by
  constructor
  · rintro ⟨h1, h2⟩
    have h3 : ¬ x < 0 := by rw [i_lt]; simpa using h1
    obtain ⟨j, hj, rfl⟩ := nI_of h3
    rw [Int32.le_iff_toInt_le, nI_m1 N hN, nI_toInt hj] at h2
    exact ⟨j, by omega, rfl⟩
  · rintro ⟨p, hp, rfl⟩
    refine ⟨nI_pos' (by omega), ?_⟩
    rw [Int32.le_iff_toInt_le, nI_m1 N hN, nI_toInt (by omega)]
    omega
theorem in_y (M : Mm) {p N : Nat} (hN : N < 2 ^ 30) (hp : p < N) : s_m11_in (nI p) 0 (nI N - 1) M = some (1, M) := by
  rw [e_in, if_pos (in_iff hN |>.2 ⟨p, hp, rfl⟩)]
theorem in_n (M : Mm) {x : Int32} {N : Nat} (hN : N < 2 ^ 30) (h : ¬ ∃ p, p < N ∧ x = nI p) : s_m11_in x 0 (nI N - 1) M = some (0, M) := by
  rw [e_in, if_neg (fun q => h (in_iff hN |>.1 q))]
theorem o_of {x : Int32} {N : Nat} (hN : N < 2 ^ 31) (h : ¬ ∃ p, p < N ∧ x = nI p) : x < 0 ∨ nI N ≤ x := by
  rcases pk_ix x hN with q | q | q
  · exact Or.inl q
  · exact Or.inr q
  · exact absurd q h
theorem ne_1 : ¬ (1 : Int32) = 0 := by decide
section ISX
variable {c : Nat} {A B : Mm}
theorem isP10y (h : Inv c (mg A B)) {p : Nat} (hp : p < nP B) : s_m10_isPiece 1 (nI p) A = some (1, A) := by
  have h1 := h.ple
  simp only [s_m10_isPiece_17, s_m10_isPiece_16, s_m10_isPiece, gI, gL, gR, pI, pZ, pL, pR, aI, aR, sI, sR, al, dz, rz, cl, cp, tL, tC, has_sh, hs_1, hs_2, hs_3, hs_4, hs_5, hs_6, hs_47, hs_48, hs_49, hs_50, hs_51, hs_52, hs_54, hs_55, hs_56, hs_57, hs_58, hs_59, hs_60, hs_61, hs_62, hs_63, hs_184, hs_185, hs_186, hs_187, hs_188, hs_189, hs_190, hs_191, hs_192, hs_193, hs_194, hs_195, hs_196, hs_197, hs_198, hs_199, hs_200, hs_201, hs_202, hs_203, hs_204, hs_205, hs_206, hs_207, hs_208, hs_209, hs_210, hs_211, hs_212, hs_213, hs_214, hs_215, hs_216, hs_217, hs_218, hs_219, hs_220, hs_221, hs_222, hs_223, hs_224, hs_ru, hs_ru0, hs_ru1, hs_ru2, hs_wi, hs_wi0, hs_wi1, hs_wi2, hs_pi, hs_pi0, hs_pa, hs_pa0, tb_2, tb_3, tb_4, tb_6, tb_48, tb_49, tb_51, tb_52, tb_54, tb_55, tb_57, tb_58, tb_60, tb_62, tb_63, tb_185, tb_186, tb_187, tb_188, tb_189, tb_190, tb_191, tb_192, tb_193, tb_194, tb_195, tb_196, tb_197, tb_198, tb_199, tb_200, tb_201, tb_202, tb_203, tb_204, tb_205, tb_206, tb_207, tb_208, tb_209, tb_210, tb_211, tb_212, tb_213, tb_214, tb_215, tb_216, tb_217, tb_218, tb_219, tb_220, tb_221, tb_222, tb_223, tb_224, tb_ru0, tb_ru1, tb_ru2, tb_wi0, tb_wi1, tb_wi2, tb_pi0, tb_pa0, sr1_0, sr1_1, sr1_2, sr1_3, sr1_4, sr1_5, sr1_6, sr1_7, sr1_8, sr1_9, sr5_0, sr47_0, sr47_1, sr50_0, sr50_1, sr50_3, sr50_4, sr56_0, sr56_1, sr59_0, sr61_0, sr184_1, sr184_3, sr184_4, sr184_5, sr184_7, sr184_8, sr184_9, sr184_10, sr184_11, sr184_12, sr184_13, sr184_14, sr184_16, sr184_18, sr184_19, sr184_20, sr184_21, sr184_22, sr184_23, sr184_24, sr184_25, sr184_27, sr184_32, sr184_33, sr184_34, sr184_35, sr184_36, sr184_37, sr184_38, sr184_40, sr184_41, sr184_44, sr184_45, sr184_50, sr184_51, sr184_52, sr184_53, sr184_54, sr184_55, sr184_57, sr2, sr3, sr4, sr6, srru0, srru1, srru2, srwi0, srwi1, srwi2, srpi0, srpa0, Sh_wI, Sh_wL, Sh_wC, if_true, zb_0, zb_1, Option.bind_some, h.shA, h.pc, rz, nI_pos (show p < 2 ^ 31 by omega), if_false, nI_ge hp (by omega)]
theorem isP10n (h : Inv c (mg A B)) {x : Int32} (hx : ¬ ∃ p, p < nP B ∧ x = nI p) : s_m10_isPiece 1 x A = some (0, A) := by
  have h1 := h.ple
  simp only [s_m10_isPiece_17, s_m10_isPiece_16, s_m10_isPiece, gI, gL, gR, pI, pZ, pL, pR, aI, aR, sI, sR, al, dz, rz, cl, cp, tL, tC, has_sh, hs_1, hs_2, hs_3, hs_4, hs_5, hs_6, hs_47, hs_48, hs_49, hs_50, hs_51, hs_52, hs_54, hs_55, hs_56, hs_57, hs_58, hs_59, hs_60, hs_61, hs_62, hs_63, hs_184, hs_185, hs_186, hs_187, hs_188, hs_189, hs_190, hs_191, hs_192, hs_193, hs_194, hs_195, hs_196, hs_197, hs_198, hs_199, hs_200, hs_201, hs_202, hs_203, hs_204, hs_205, hs_206, hs_207, hs_208, hs_209, hs_210, hs_211, hs_212, hs_213, hs_214, hs_215, hs_216, hs_217, hs_218, hs_219, hs_220, hs_221, hs_222, hs_223, hs_224, hs_ru, hs_ru0, hs_ru1, hs_ru2, hs_wi, hs_wi0, hs_wi1, hs_wi2, hs_pi, hs_pi0, hs_pa, hs_pa0, tb_2, tb_3, tb_4, tb_6, tb_48, tb_49, tb_51, tb_52, tb_54, tb_55, tb_57, tb_58, tb_60, tb_62, tb_63, tb_185, tb_186, tb_187, tb_188, tb_189, tb_190, tb_191, tb_192, tb_193, tb_194, tb_195, tb_196, tb_197, tb_198, tb_199, tb_200, tb_201, tb_202, tb_203, tb_204, tb_205, tb_206, tb_207, tb_208, tb_209, tb_210, tb_211, tb_212, tb_213, tb_214, tb_215, tb_216, tb_217, tb_218, tb_219, tb_220, tb_221, tb_222, tb_223, tb_224, tb_ru0, tb_ru1, tb_ru2, tb_wi0, tb_wi1, tb_wi2, tb_pi0, tb_pa0, sr1_0, sr1_1, sr1_2, sr1_3, sr1_4, sr1_5, sr1_6, sr1_7, sr1_8, sr1_9, sr5_0, sr47_0, sr47_1, sr50_0, sr50_1, sr50_3, sr50_4, sr56_0, sr56_1, sr59_0, sr61_0, sr184_1, sr184_3, sr184_4, sr184_5, sr184_7, sr184_8, sr184_9, sr184_10, sr184_11, sr184_12, sr184_13, sr184_14, sr184_16, sr184_18, sr184_19, sr184_20, sr184_21, sr184_22, sr184_23, sr184_24, sr184_25, sr184_27, sr184_32, sr184_33, sr184_34, sr184_35, sr184_36, sr184_37, sr184_38, sr184_40, sr184_41, sr184_44, sr184_45, sr184_50, sr184_51, sr184_52, sr184_53, sr184_54, sr184_55, sr184_57, sr2, sr3, sr4, sr6, srru0, srru1, srru2, srwi0, srwi1, srwi2, srpi0, srpa0, Sh_wI, Sh_wL, Sh_wC, if_true, zb_0, zb_1, Option.bind_some, h.shA, h.pc, rz]
  rcases o_of (by omega) hx with q | q <;> simp [q]
theorem isP11y (h : Inv c (mg A B)) (hB : Sh B) {p : Nat} (hp : p < nP B) : s_m11_isPiece 184 (nI p) B = some (1, B) := by
  have h1 := h.ple
  simp only [s_m11_isPiece, gI, gL, gR, pI, pZ, pL, pR, aI, aR, sI, sR, al, dz, rz, cl, cp, tL, tC, has_sh, hs_1, hs_2, hs_3, hs_4, hs_5, hs_6, hs_47, hs_48, hs_49, hs_50, hs_51, hs_52, hs_54, hs_55, hs_56, hs_57, hs_58, hs_59, hs_60, hs_61, hs_62, hs_63, hs_184, hs_185, hs_186, hs_187, hs_188, hs_189, hs_190, hs_191, hs_192, hs_193, hs_194, hs_195, hs_196, hs_197, hs_198, hs_199, hs_200, hs_201, hs_202, hs_203, hs_204, hs_205, hs_206, hs_207, hs_208, hs_209, hs_210, hs_211, hs_212, hs_213, hs_214, hs_215, hs_216, hs_217, hs_218, hs_219, hs_220, hs_221, hs_222, hs_223, hs_224, hs_ru, hs_ru0, hs_ru1, hs_ru2, hs_wi, hs_wi0, hs_wi1, hs_wi2, hs_pi, hs_pi0, hs_pa, hs_pa0, tb_2, tb_3, tb_4, tb_6, tb_48, tb_49, tb_51, tb_52, tb_54, tb_55, tb_57, tb_58, tb_60, tb_62, tb_63, tb_185, tb_186, tb_187, tb_188, tb_189, tb_190, tb_191, tb_192, tb_193, tb_194, tb_195, tb_196, tb_197, tb_198, tb_199, tb_200, tb_201, tb_202, tb_203, tb_204, tb_205, tb_206, tb_207, tb_208, tb_209, tb_210, tb_211, tb_212, tb_213, tb_214, tb_215, tb_216, tb_217, tb_218, tb_219, tb_220, tb_221, tb_222, tb_223, tb_224, tb_ru0, tb_ru1, tb_ru2, tb_wi0, tb_wi1, tb_wi2, tb_pi0, tb_pa0, sr1_0, sr1_1, sr1_2, sr1_3, sr1_4, sr1_5, sr1_6, sr1_7, sr1_8, sr1_9, sr5_0, sr47_0, sr47_1, sr50_0, sr50_1, sr50_3, sr50_4, sr56_0, sr56_1, sr59_0, sr61_0, sr184_1, sr184_3, sr184_4, sr184_5, sr184_7, sr184_8, sr184_9, sr184_10, sr184_11, sr184_12, sr184_13, sr184_14, sr184_16, sr184_18, sr184_19, sr184_20, sr184_21, sr184_22, sr184_23, sr184_24, sr184_25, sr184_27, sr184_32, sr184_33, sr184_34, sr184_35, sr184_36, sr184_37, sr184_38, sr184_40, sr184_41, sr184_44, sr184_45, sr184_50, sr184_51, sr184_52, sr184_53, sr184_54, sr184_55, sr184_57, sr2, sr3, sr4, sr6, srru0, srru1, srru2, srwi0, srwi1, srwi2, srpi0, srpa0, Sh_wI, Sh_wL, Sh_wC, if_true, zb_0, zb_1, Option.bind_some, hB, h.mpc, rz, in_y B (show nP B < 2 ^ 30 by omega) hp]
theorem isP11n (h : Inv c (mg A B)) (hB : Sh B) {x : Int32} (hx : ¬ ∃ p, p < nP B ∧ x = nI p) : s_m11_isPiece 184 x B = some (0, B) := by
  have h1 := h.ple
  simp only [s_m11_isPiece, gI, gL, gR, pI, pZ, pL, pR, aI, aR, sI, sR, al, dz, rz, cl, cp, tL, tC, has_sh, hs_1, hs_2, hs_3, hs_4, hs_5, hs_6, hs_47, hs_48, hs_49, hs_50, hs_51, hs_52, hs_54, hs_55, hs_56, hs_57, hs_58, hs_59, hs_60, hs_61, hs_62, hs_63, hs_184, hs_185, hs_186, hs_187, hs_188, hs_189, hs_190, hs_191, hs_192, hs_193, hs_194, hs_195, hs_196, hs_197, hs_198, hs_199, hs_200, hs_201, hs_202, hs_203, hs_204, hs_205, hs_206, hs_207, hs_208, hs_209, hs_210, hs_211, hs_212, hs_213, hs_214, hs_215, hs_216, hs_217, hs_218, hs_219, hs_220, hs_221, hs_222, hs_223, hs_224, hs_ru, hs_ru0, hs_ru1, hs_ru2, hs_wi, hs_wi0, hs_wi1, hs_wi2, hs_pi, hs_pi0, hs_pa, hs_pa0, tb_2, tb_3, tb_4, tb_6, tb_48, tb_49, tb_51, tb_52, tb_54, tb_55, tb_57, tb_58, tb_60, tb_62, tb_63, tb_185, tb_186, tb_187, tb_188, tb_189, tb_190, tb_191, tb_192, tb_193, tb_194, tb_195, tb_196, tb_197, tb_198, tb_199, tb_200, tb_201, tb_202, tb_203, tb_204, tb_205, tb_206, tb_207, tb_208, tb_209, tb_210, tb_211, tb_212, tb_213, tb_214, tb_215, tb_216, tb_217, tb_218, tb_219, tb_220, tb_221, tb_222, tb_223, tb_224, tb_ru0, tb_ru1, tb_ru2, tb_wi0, tb_wi1, tb_wi2, tb_pi0, tb_pa0, sr1_0, sr1_1, sr1_2, sr1_3, sr1_4, sr1_5, sr1_6, sr1_7, sr1_8, sr1_9, sr5_0, sr47_0, sr47_1, sr50_0, sr50_1, sr50_3, sr50_4, sr56_0, sr56_1, sr59_0, sr61_0, sr184_1, sr184_3, sr184_4, sr184_5, sr184_7, sr184_8, sr184_9, sr184_10, sr184_11, sr184_12, sr184_13, sr184_14, sr184_16, sr184_18, sr184_19, sr184_20, sr184_21, sr184_22, sr184_23, sr184_24, sr184_25, sr184_27, sr184_32, sr184_33, sr184_34, sr184_35, sr184_36, sr184_37, sr184_38, sr184_40, sr184_41, sr184_44, sr184_45, sr184_50, sr184_51, sr184_52, sr184_53, sr184_54, sr184_55, sr184_57, sr2, sr3, sr4, sr6, srru0, srru1, srru2, srwi0, srwi1, srwi2, srpi0, srpa0, Sh_wI, Sh_wL, Sh_wC, if_true, zb_0, zb_1, Option.bind_some, hB, h.mpc, rz, in_n B (show nP B < 2 ^ 30 by omega) hx]
theorem isW10y (h : Inv c (mg A B)) {p : Nat} (hp : p < nW B) : s_m10_isWire 1 (nI p) A = some (1, A) := by
  have h1 := h.wle
  simp only [s_m10_isWire_17, s_m10_isWire_16, s_m10_isWire, gI, gL, gR, pI, pZ, pL, pR, aI, aR, sI, sR, al, dz, rz, cl, cp, tL, tC, has_sh, hs_1, hs_2, hs_3, hs_4, hs_5, hs_6, hs_47, hs_48, hs_49, hs_50, hs_51, hs_52, hs_54, hs_55, hs_56, hs_57, hs_58, hs_59, hs_60, hs_61, hs_62, hs_63, hs_184, hs_185, hs_186, hs_187, hs_188, hs_189, hs_190, hs_191, hs_192, hs_193, hs_194, hs_195, hs_196, hs_197, hs_198, hs_199, hs_200, hs_201, hs_202, hs_203, hs_204, hs_205, hs_206, hs_207, hs_208, hs_209, hs_210, hs_211, hs_212, hs_213, hs_214, hs_215, hs_216, hs_217, hs_218, hs_219, hs_220, hs_221, hs_222, hs_223, hs_224, hs_ru, hs_ru0, hs_ru1, hs_ru2, hs_wi, hs_wi0, hs_wi1, hs_wi2, hs_pi, hs_pi0, hs_pa, hs_pa0, tb_2, tb_3, tb_4, tb_6, tb_48, tb_49, tb_51, tb_52, tb_54, tb_55, tb_57, tb_58, tb_60, tb_62, tb_63, tb_185, tb_186, tb_187, tb_188, tb_189, tb_190, tb_191, tb_192, tb_193, tb_194, tb_195, tb_196, tb_197, tb_198, tb_199, tb_200, tb_201, tb_202, tb_203, tb_204, tb_205, tb_206, tb_207, tb_208, tb_209, tb_210, tb_211, tb_212, tb_213, tb_214, tb_215, tb_216, tb_217, tb_218, tb_219, tb_220, tb_221, tb_222, tb_223, tb_224, tb_ru0, tb_ru1, tb_ru2, tb_wi0, tb_wi1, tb_wi2, tb_pi0, tb_pa0, sr1_0, sr1_1, sr1_2, sr1_3, sr1_4, sr1_5, sr1_6, sr1_7, sr1_8, sr1_9, sr5_0, sr47_0, sr47_1, sr50_0, sr50_1, sr50_3, sr50_4, sr56_0, sr56_1, sr59_0, sr61_0, sr184_1, sr184_3, sr184_4, sr184_5, sr184_7, sr184_8, sr184_9, sr184_10, sr184_11, sr184_12, sr184_13, sr184_14, sr184_16, sr184_18, sr184_19, sr184_20, sr184_21, sr184_22, sr184_23, sr184_24, sr184_25, sr184_27, sr184_32, sr184_33, sr184_34, sr184_35, sr184_36, sr184_37, sr184_38, sr184_40, sr184_41, sr184_44, sr184_45, sr184_50, sr184_51, sr184_52, sr184_53, sr184_54, sr184_55, sr184_57, sr2, sr3, sr4, sr6, srru0, srru1, srru2, srwi0, srwi1, srwi2, srpi0, srpa0, Sh_wI, Sh_wL, Sh_wC, if_true, zb_0, zb_1, Option.bind_some, h.shA, h.wc, rz, nI_pos (show p < 2 ^ 31 by omega), if_false, nI_ge hp (by omega)]
theorem isW10n (h : Inv c (mg A B)) {x : Int32} (hx : ¬ ∃ p, p < nW B ∧ x = nI p) : s_m10_isWire 1 x A = some (0, A) := by
  have h1 := h.wle
  simp only [s_m10_isWire_17, s_m10_isWire_16, s_m10_isWire, gI, gL, gR, pI, pZ, pL, pR, aI, aR, sI, sR, al, dz, rz, cl, cp, tL, tC, has_sh, hs_1, hs_2, hs_3, hs_4, hs_5, hs_6, hs_47, hs_48, hs_49, hs_50, hs_51, hs_52, hs_54, hs_55, hs_56, hs_57, hs_58, hs_59, hs_60, hs_61, hs_62, hs_63, hs_184, hs_185, hs_186, hs_187, hs_188, hs_189, hs_190, hs_191, hs_192, hs_193, hs_194, hs_195, hs_196, hs_197, hs_198, hs_199, hs_200, hs_201, hs_202, hs_203, hs_204, hs_205, hs_206, hs_207, hs_208, hs_209, hs_210, hs_211, hs_212, hs_213, hs_214, hs_215, hs_216, hs_217, hs_218, hs_219, hs_220, hs_221, hs_222, hs_223, hs_224, hs_ru, hs_ru0, hs_ru1, hs_ru2, hs_wi, hs_wi0, hs_wi1, hs_wi2, hs_pi, hs_pi0, hs_pa, hs_pa0, tb_2, tb_3, tb_4, tb_6, tb_48, tb_49, tb_51, tb_52, tb_54, tb_55, tb_57, tb_58, tb_60, tb_62, tb_63, tb_185, tb_186, tb_187, tb_188, tb_189, tb_190, tb_191, tb_192, tb_193, tb_194, tb_195, tb_196, tb_197, tb_198, tb_199, tb_200, tb_201, tb_202, tb_203, tb_204, tb_205, tb_206, tb_207, tb_208, tb_209, tb_210, tb_211, tb_212, tb_213, tb_214, tb_215, tb_216, tb_217, tb_218, tb_219, tb_220, tb_221, tb_222, tb_223, tb_224, tb_ru0, tb_ru1, tb_ru2, tb_wi0, tb_wi1, tb_wi2, tb_pi0, tb_pa0, sr1_0, sr1_1, sr1_2, sr1_3, sr1_4, sr1_5, sr1_6, sr1_7, sr1_8, sr1_9, sr5_0, sr47_0, sr47_1, sr50_0, sr50_1, sr50_3, sr50_4, sr56_0, sr56_1, sr59_0, sr61_0, sr184_1, sr184_3, sr184_4, sr184_5, sr184_7, sr184_8, sr184_9, sr184_10, sr184_11, sr184_12, sr184_13, sr184_14, sr184_16, sr184_18, sr184_19, sr184_20, sr184_21, sr184_22, sr184_23, sr184_24, sr184_25, sr184_27, sr184_32, sr184_33, sr184_34, sr184_35, sr184_36, sr184_37, sr184_38, sr184_40, sr184_41, sr184_44, sr184_45, sr184_50, sr184_51, sr184_52, sr184_53, sr184_54, sr184_55, sr184_57, sr2, sr3, sr4, sr6, srru0, srru1, srru2, srwi0, srwi1, srwi2, srpi0, srpa0, Sh_wI, Sh_wL, Sh_wC, if_true, zb_0, zb_1, Option.bind_some, h.shA, h.wc, rz]
  rcases o_of (by omega) hx with q | q <;> simp [q]
theorem isW11y (h : Inv c (mg A B)) (hB : Sh B) {p : Nat} (hp : p < nW B) : s_m11_isWire 184 (nI p) B = some (1, B) := by
  have h1 := h.wle
  simp only [s_m11_isWire, gI, gL, gR, pI, pZ, pL, pR, aI, aR, sI, sR, al, dz, rz, cl, cp, tL, tC, has_sh, hs_1, hs_2, hs_3, hs_4, hs_5, hs_6, hs_47, hs_48, hs_49, hs_50, hs_51, hs_52, hs_54, hs_55, hs_56, hs_57, hs_58, hs_59, hs_60, hs_61, hs_62, hs_63, hs_184, hs_185, hs_186, hs_187, hs_188, hs_189, hs_190, hs_191, hs_192, hs_193, hs_194, hs_195, hs_196, hs_197, hs_198, hs_199, hs_200, hs_201, hs_202, hs_203, hs_204, hs_205, hs_206, hs_207, hs_208, hs_209, hs_210, hs_211, hs_212, hs_213, hs_214, hs_215, hs_216, hs_217, hs_218, hs_219, hs_220, hs_221, hs_222, hs_223, hs_224, hs_ru, hs_ru0, hs_ru1, hs_ru2, hs_wi, hs_wi0, hs_wi1, hs_wi2, hs_pi, hs_pi0, hs_pa, hs_pa0, tb_2, tb_3, tb_4, tb_6, tb_48, tb_49, tb_51, tb_52, tb_54, tb_55, tb_57, tb_58, tb_60, tb_62, tb_63, tb_185, tb_186, tb_187, tb_188, tb_189, tb_190, tb_191, tb_192, tb_193, tb_194, tb_195, tb_196, tb_197, tb_198, tb_199, tb_200, tb_201, tb_202, tb_203, tb_204, tb_205, tb_206, tb_207, tb_208, tb_209, tb_210, tb_211, tb_212, tb_213, tb_214, tb_215, tb_216, tb_217, tb_218, tb_219, tb_220, tb_221, tb_222, tb_223, tb_224, tb_ru0, tb_ru1, tb_ru2, tb_wi0, tb_wi1, tb_wi2, tb_pi0, tb_pa0, sr1_0, sr1_1, sr1_2, sr1_3, sr1_4, sr1_5, sr1_6, sr1_7, sr1_8, sr1_9, sr5_0, sr47_0, sr47_1, sr50_0, sr50_1, sr50_3, sr50_4, sr56_0, sr56_1, sr59_0, sr61_0, sr184_1, sr184_3, sr184_4, sr184_5, sr184_7, sr184_8, sr184_9, sr184_10, sr184_11, sr184_12, sr184_13, sr184_14, sr184_16, sr184_18, sr184_19, sr184_20, sr184_21, sr184_22, sr184_23, sr184_24, sr184_25, sr184_27, sr184_32, sr184_33, sr184_34, sr184_35, sr184_36, sr184_37, sr184_38, sr184_40, sr184_41, sr184_44, sr184_45, sr184_50, sr184_51, sr184_52, sr184_53, sr184_54, sr184_55, sr184_57, sr2, sr3, sr4, sr6, srru0, srru1, srru2, srwi0, srwi1, srwi2, srpi0, srpa0, Sh_wI, Sh_wL, Sh_wC, if_true, zb_0, zb_1, Option.bind_some, hB, h.mwc, rz, in_y B (show nW B < 2 ^ 30 by omega) hp]
theorem isW11n (h : Inv c (mg A B)) (hB : Sh B) {x : Int32} (hx : ¬ ∃ p, p < nW B ∧ x = nI p) : s_m11_isWire 184 x B = some (0, B) := by
  have h1 := h.wle
  simp only [s_m11_isWire, gI, gL, gR, pI, pZ, pL, pR, aI, aR, sI, sR, al, dz, rz, cl, cp, tL, tC, has_sh, hs_1, hs_2, hs_3, hs_4, hs_5, hs_6, hs_47, hs_48, hs_49, hs_50, hs_51, hs_52, hs_54, hs_55, hs_56, hs_57, hs_58, hs_59, hs_60, hs_61, hs_62, hs_63, hs_184, hs_185, hs_186, hs_187, hs_188, hs_189, hs_190, hs_191, hs_192, hs_193, hs_194, hs_195, hs_196, hs_197, hs_198, hs_199, hs_200, hs_201, hs_202, hs_203, hs_204, hs_205, hs_206, hs_207, hs_208, hs_209, hs_210, hs_211, hs_212, hs_213, hs_214, hs_215, hs_216, hs_217, hs_218, hs_219, hs_220, hs_221, hs_222, hs_223, hs_224, hs_ru, hs_ru0, hs_ru1, hs_ru2, hs_wi, hs_wi0, hs_wi1, hs_wi2, hs_pi, hs_pi0, hs_pa, hs_pa0, tb_2, tb_3, tb_4, tb_6, tb_48, tb_49, tb_51, tb_52, tb_54, tb_55, tb_57, tb_58, tb_60, tb_62, tb_63, tb_185, tb_186, tb_187, tb_188, tb_189, tb_190, tb_191, tb_192, tb_193, tb_194, tb_195, tb_196, tb_197, tb_198, tb_199, tb_200, tb_201, tb_202, tb_203, tb_204, tb_205, tb_206, tb_207, tb_208, tb_209, tb_210, tb_211, tb_212, tb_213, tb_214, tb_215, tb_216, tb_217, tb_218, tb_219, tb_220, tb_221, tb_222, tb_223, tb_224, tb_ru0, tb_ru1, tb_ru2, tb_wi0, tb_wi1, tb_wi2, tb_pi0, tb_pa0, sr1_0, sr1_1, sr1_2, sr1_3, sr1_4, sr1_5, sr1_6, sr1_7, sr1_8, sr1_9, sr5_0, sr47_0, sr47_1, sr50_0, sr50_1, sr50_3, sr50_4, sr56_0, sr56_1, sr59_0, sr61_0, sr184_1, sr184_3, sr184_4, sr184_5, sr184_7, sr184_8, sr184_9, sr184_10, sr184_11, sr184_12, sr184_13, sr184_14, sr184_16, sr184_18, sr184_19, sr184_20, sr184_21, sr184_22, sr184_23, sr184_24, sr184_25, sr184_27, sr184_32, sr184_33, sr184_34, sr184_35, sr184_36, sr184_37, sr184_38, sr184_40, sr184_41, sr184_44, sr184_45, sr184_50, sr184_51, sr184_52, sr184_53, sr184_54, sr184_55, sr184_57, sr2, sr3, sr4, sr6, srru0, srru1, srru2, srwi0, srwi1, srwi2, srpi0, srpa0, Sh_wI, Sh_wL, Sh_wC, if_true, zb_0, zb_1, Option.bind_some, hB, h.mwc, rz, in_n B (show nW B < 2 ^ 30 by omega) hx]
theorem isA10y (A : Mm) {p : Nat} (hp : p < 8) : s_m10_isPaper (nI p) A = some (1, A) := by
  have h2 : ¬ (8 : Int32) ≤ nI p := nI_ge (b := 8) hp (by omega)
  simp only [s_m10_isPaper_15, s_m10_isPaper_14, s_m10_isPaper, rz, zb_1, if_true, nI_pos (show p < 2 ^ 31 by omega), if_false, h2]
theorem isA10n (A : Mm) {x : Int32} (hx : ¬ ∃ p, p < 8 ∧ x = nI p) : s_m10_isPaper x A = some (0, A) := by
  simp only [s_m10_isPaper_15, s_m10_isPaper_14, s_m10_isPaper, rz, zb_0, zb_1, if_true]
  rcases o_of (N := 8) (by omega) hx with q | q
  · simp [q]
  · simp [show (8 : Int32) ≤ x from q]
theorem isA11y (A : Mm) {p : Nat} (hp : p < 8) : s_m11_isPaper (nI p) A = some (1, A) := by
  have h2 := in_y A (N := 8) (by omega) hp
  simp only [show nI 8 - 1 = (7 : Int32) from by decide] at h2
  simp only [s_m11_isPaper, rz, zb_1, if_true, h2, cl, Option.bind_some]
theorem isA11n (A : Mm) {x : Int32} (hx : ¬ ∃ p, p < 8 ∧ x = nI p) : s_m11_isPaper x A = some (0, A) := by
  have h2 := in_n A (N := 8) (by omega) hx
  simp only [show nI 8 - 1 = (7 : Int32) from by decide] at h2
  simp only [s_m11_isPaper, rz, zb_0, if_true, h2, cl, Option.bind_some]
end ISX
