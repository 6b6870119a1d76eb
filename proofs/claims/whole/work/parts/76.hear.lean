/-! LAYER 2: run: a word is heard -/
section HER
variable {c : Nat} {A B : Mm}
theorem e_deq24 {w : Nat} (hw : w < 6) {m : Nat} (hm : m ≤ 11) : ∀ (d i n : Nat) (A : Mm), i + d = m → d < n → Sh A → rI A (64 + 4 * w) 3 = nI m → ∃ A', s_m9_dequeue_24 n (64 + 4 * w) (nI i) A = some ((), A') ∧ Wr (fun k _ => k = 65 + 4 * w) A A' ∧ ∀ j, rI A' (65 + 4 * w) j = if i ≤ j ∧ j < m then rI A (65 + 4 * w) (j + 1) else rI A (65 + 4 * w) j
  | 0, i, n + 1, A, hi, _, hA, h3 => by
    refine ⟨A, ?_, Wr.rf _ _, fun j => by rw [if_neg (by omega)]⟩
    simp only [s_m9_dequeue_24, gI, gL, gR, pI, pZ, pL, pR, aI, aR, sI, sR, al, dz, rz, cl, cp, tL, tC, has_sh, hs_1, hs_2, hs_3, hs_4, hs_5, hs_6, hs_47, hs_48, hs_49, hs_50, hs_51, hs_52, hs_54, hs_55, hs_56, hs_57, hs_58, hs_59, hs_60, hs_61, hs_62, hs_63, hs_184, hs_185, hs_186, hs_187, hs_188, hs_189, hs_190, hs_191, hs_192, hs_193, hs_194, hs_195, hs_196, hs_197, hs_198, hs_199, hs_200, hs_201, hs_202, hs_203, hs_204, hs_205, hs_206, hs_207, hs_208, hs_209, hs_210, hs_211, hs_212, hs_213, hs_214, hs_215, hs_216, hs_217, hs_218, hs_219, hs_220, hs_221, hs_222, hs_223, hs_224, hs_ru, hs_ru0, hs_ru1, hs_ru2, hs_wi, hs_wi0, hs_wi1, hs_wi2, hs_pi, hs_pi0, hs_pa, hs_pa0, tb_2, tb_3, tb_4, tb_6, tb_48, tb_49, tb_51, tb_52, tb_54, tb_55, tb_57, tb_58, tb_60, tb_62, tb_63, tb_185, tb_186, tb_187, tb_188, tb_189, tb_190, tb_191, tb_192, tb_193, tb_194, tb_195, tb_196, tb_197, tb_198, tb_199, tb_200, tb_201, tb_202, tb_203, tb_204, tb_205, tb_206, tb_207, tb_208, tb_209, tb_210, tb_211, tb_212, tb_213, tb_214, tb_215, tb_216, tb_217, tb_218, tb_219, tb_220, tb_221, tb_222, tb_223, tb_224, tb_ru0, tb_ru1, tb_ru2, tb_wi0, tb_wi1, tb_wi2, tb_pi0, tb_pa0, sr1_0, sr1_1, sr1_2, sr1_3, sr1_4, sr1_5, sr1_6, sr1_7, sr1_8, sr1_9, sr5_0, sr47_0, sr47_1, sr50_0, sr50_1, sr50_3, sr50_4, sr56_0, sr56_1, sr59_0, sr61_0, sr184_1, sr184_3, sr184_4, sr184_5, sr184_7, sr184_8, sr184_9, sr184_10, sr184_11, sr184_12, sr184_13, sr184_14, sr184_16, sr184_18, sr184_19, sr184_20, sr184_21, sr184_22, sr184_23, sr184_24, sr184_25, sr184_27, sr184_32, sr184_33, sr184_34, sr184_35, sr184_36, sr184_37, sr184_38, sr184_40, sr184_41, sr184_44, sr184_45, sr184_50, sr184_51, sr184_52, sr184_53, sr184_54, sr184_55, sr184_57, sr2, sr3, sr4, sr6, srru0, srru1, srru2, srwi0, srwi1, srwi2, srpi0, srpa0, Sh_wI, Sh_wL, Sh_wC, if_true, zb_0, zb_1, Option.bind_some, has_wI, has_wL, has_wC, rR_wI, rR_wL, rR_wC, hA, hw, h3, nI_le (show m ≤ i by omega) (by omega)]
  | d + 1, i, n + 1, A, hi, hd, hA, h3 => by
    have i1 : inb (nI i) 12 = true := inb_nI (by omega) (by omega)
    have i2 := nI_clamp (show i < 2 ^ 31 by omega)
    have i3 : inb (nI (i + 1)) 12 = true := inb_nI (by omega) (by omega)
    have i4 := nI_clamp (show i + 1 < 2 ^ 31 by omega)
    obtain ⟨A', e, w', f⟩ := e_deq24 hw hm d (i + 1) n (wI A (65 + 4 * w) i (rI A (65 + 4 * w) (i + 1))) (by omega) (by omega) hA (by rw [rI_wI, if_neg (by omega)]; exact h3)
    refine ⟨A', ?_, Wr.tr (Wr.wI (Wr.rf (fun k _ => k = 65 + 4 * w) A) (show 65 + 4 * w = 65 + 4 * w from rfl)) w', fun j => ?_⟩
    · simp only [s_m9_dequeue_24, gI, gL, gR, pI, pZ, pL, pR, aI, aR, sI, sR, al, dz, rz, cl, cp, tL, tC, has_sh, hs_1, hs_2, hs_3, hs_4, hs_5, hs_6, hs_47, hs_48, hs_49, hs_50, hs_51, hs_52, hs_54, hs_55, hs_56, hs_57, hs_58, hs_59, hs_60, hs_61, hs_62, hs_63, hs_184, hs_185, hs_186, hs_187, hs_188, hs_189, hs_190, hs_191, hs_192, hs_193, hs_194, hs_195, hs_196, hs_197, hs_198, hs_199, hs_200, hs_201, hs_202, hs_203, hs_204, hs_205, hs_206, hs_207, hs_208, hs_209, hs_210, hs_211, hs_212, hs_213, hs_214, hs_215, hs_216, hs_217, hs_218, hs_219, hs_220, hs_221, hs_222, hs_223, hs_224, hs_ru, hs_ru0, hs_ru1, hs_ru2, hs_wi, hs_wi0, hs_wi1, hs_wi2, hs_pi, hs_pi0, hs_pa, hs_pa0, tb_2, tb_3, tb_4, tb_6, tb_48, tb_49, tb_51, tb_52, tb_54, tb_55, tb_57, tb_58, tb_60, tb_62, tb_63, tb_185, tb_186, tb_187, tb_188, tb_189, tb_190, tb_191, tb_192, tb_193, tb_194, tb_195, tb_196, tb_197, tb_198, tb_199, tb_200, tb_201, tb_202, tb_203, tb_204, tb_205, tb_206, tb_207, tb_208, tb_209, tb_210, tb_211, tb_212, tb_213, tb_214, tb_215, tb_216, tb_217, tb_218, tb_219, tb_220, tb_221, tb_222, tb_223, tb_224, tb_ru0, tb_ru1, tb_ru2, tb_wi0, tb_wi1, tb_wi2, tb_pi0, tb_pa0, sr1_0, sr1_1, sr1_2, sr1_3, sr1_4, sr1_5, sr1_6, sr1_7, sr1_8, sr1_9, sr5_0, sr47_0, sr47_1, sr50_0, sr50_1, sr50_3, sr50_4, sr56_0, sr56_1, sr59_0, sr61_0, sr184_1, sr184_3, sr184_4, sr184_5, sr184_7, sr184_8, sr184_9, sr184_10, sr184_11, sr184_12, sr184_13, sr184_14, sr184_16, sr184_18, sr184_19, sr184_20, sr184_21, sr184_22, sr184_23, sr184_24, sr184_25, sr184_27, sr184_32, sr184_33, sr184_34, sr184_35, sr184_36, sr184_37, sr184_38, sr184_40, sr184_41, sr184_44, sr184_45, sr184_50, sr184_51, sr184_52, sr184_53, sr184_54, sr184_55, sr184_57, sr2, sr3, sr4, sr6, srru0, srru1, srru2, srwi0, srwi1, srwi2, srpi0, srpa0, Sh_wI, Sh_wL, Sh_wC, if_true, zb_0, zb_1, Option.bind_some, has_wI, has_wL, has_wC, rR_wI, rR_wL, rR_wC, hA, hw, h3, nI_ge (show i < m by omega) (by omega), if_false, nI_1, i1, i2, i3, i4, e]
    · rw [f j, rI_wI, rI_wI]
      by_cases e1 : j = i
      · rw [if_neg (by omega), if_pos ⟨rfl, e1⟩, if_pos (by omega), e1]
      · by_cases e2 : i ≤ j ∧ j < m
        · rw [if_pos (by omega), if_neg (by omega), if_pos e2]
        · rw [if_neg (by omega), if_neg (by omega), if_neg e2]
theorem getD_mid (a b : List Nat) (p j : Nat) : (a ++ b).getD j 0 = if j < a.length then (a ++ p :: b).getD j 0 else (a ++ p :: b).getD (j + 1) 0 := by
  by_cases h : j < a.length
  · rw [if_pos h]
    simp [List.getD, List.getElem?_append_left h]
  · rw [if_neg h]
    simp only [List.getD, List.getElem?_append_right (Nat.le_of_not_lt h), List.getElem?_append_right (show a.length ≤ j + 1 by omega), show j + 1 - a.length = j - a.length + 1 by omega, List.getElem?_cons_succ]
theorem e_dequeue (hA : Sh A) {w : Nat} (hw : w < 6) {a b : List Nat} {p : Nat} (hp : p < 40) (hl : (a ++ p :: b).length ≤ 12) (h3 : rI A (64 + 4 * w) 3 = nI (a ++ p :: b).length) (h5 : ∀ i, i < (a ++ p :: b).length → rI A (65 + 4 * w) i = nI ((a ++ p :: b).getD i 0)) (t : Int32) :
    ∃ A', s_m9_dequeue (64 + 4 * w) (nI a.length) t A = some ((), A') ∧ Wr (fun k s => (k = 64 + 4 * w ∧ s = 3) ∨ k = 65 + 4 * w ∨ (k = 67 + 4 * w ∧ s = p)) A A' ∧ rI A' (67 + 4 * w) p = t ∧ rI A' (64 + 4 * w) 3 = nI (a ++ b).length ∧ ∀ i, i < (a ++ b).length → rI A' (65 + 4 * w) i = nI ((a ++ b).getD i 0) := by
  have len : (a ++ p :: b).length = (a ++ b).length + 1 := by simp; omega
  have la : a.length ≤ (a ++ b).length := by simp
  have fu : FU = 5000 := rfl
  have i1 : inb (nI a.length) 12 = true := inb_nI (by omega) (by omega)
  have i2 := nI_clamp (show a.length < 2 ^ 31 by omega)
  have i3 : inb (nI p) 40 = true := inb_nI hp (by omega)
  have i4 := nI_clamp (show p < 2 ^ 31 by omega)
  have q : rI A (65 + 4 * w) a.length = nI p := by rw [h5 _ (by omega)]; simp [List.getD]
  have r3 : rI (wI A (67 + 4 * w) p t) (64 + 4 * w) 3 = nI ((a ++ b).length + 1) := by rw [rI_wI, if_neg (by omega), h3, len]
  obtain ⟨A', e, w', f⟩ := e_deq24 hw (m := (a ++ b).length) (by omega) ((a ++ b).length - a.length) a.length FU (wI (wI A (67 + 4 * w) p t) (64 + 4 * w) 3 (nI (a ++ b).length)) (by omega) (by omega) hA (by simp [rI_wI])
  refine ⟨A', ?_, (((Wr.rf _ _).wI (Or.inr (Or.inr ⟨rfl, rfl⟩))).wI (Or.inl ⟨rfl, rfl⟩)).tr (w'.mono (fun k s z => Or.inr (Or.inl z))), ?_, ?_, fun i hi => ?_⟩
  · simp only [s_m9_dequeue, gI, gL, gR, pI, pZ, pL, pR, aI, aR, sI, sR, al, dz, rz, cl, cp, tL, tC, has_sh, hs_1, hs_2, hs_3, hs_4, hs_5, hs_6, hs_47, hs_48, hs_49, hs_50, hs_51, hs_52, hs_54, hs_55, hs_56, hs_57, hs_58, hs_59, hs_60, hs_61, hs_62, hs_63, hs_184, hs_185, hs_186, hs_187, hs_188, hs_189, hs_190, hs_191, hs_192, hs_193, hs_194, hs_195, hs_196, hs_197, hs_198, hs_199, hs_200, hs_201, hs_202, hs_203, hs_204, hs_205, hs_206, hs_207, hs_208, hs_209, hs_210, hs_211, hs_212, hs_213, hs_214, hs_215, hs_216, hs_217, hs_218, hs_219, hs_220, hs_221, hs_222, hs_223, hs_224, hs_ru, hs_ru0, hs_ru1, hs_ru2, hs_wi, hs_wi0, hs_wi1, hs_wi2, hs_pi, hs_pi0, hs_pa, hs_pa0, tb_2, tb_3, tb_4, tb_6, tb_48, tb_49, tb_51, tb_52, tb_54, tb_55, tb_57, tb_58, tb_60, tb_62, tb_63, tb_185, tb_186, tb_187, tb_188, tb_189, tb_190, tb_191, tb_192, tb_193, tb_194, tb_195, tb_196, tb_197, tb_198, tb_199, tb_200, tb_201, tb_202, tb_203, tb_204, tb_205, tb_206, tb_207, tb_208, tb_209, tb_210, tb_211, tb_212, tb_213, tb_214, tb_215, tb_216, tb_217, tb_218, tb_219, tb_220, tb_221, tb_222, tb_223, tb_224, tb_ru0, tb_ru1, tb_ru2, tb_wi0, tb_wi1, tb_wi2, tb_pi0, tb_pa0, sr1_0, sr1_1, sr1_2, sr1_3, sr1_4, sr1_5, sr1_6, sr1_7, sr1_8, sr1_9, sr5_0, sr47_0, sr47_1, sr50_0, sr50_1, sr50_3, sr50_4, sr56_0, sr56_1, sr59_0, sr61_0, sr184_1, sr184_3, sr184_4, sr184_5, sr184_7, sr184_8, sr184_9, sr184_10, sr184_11, sr184_12, sr184_13, sr184_14, sr184_16, sr184_18, sr184_19, sr184_20, sr184_21, sr184_22, sr184_23, sr184_24, sr184_25, sr184_27, sr184_32, sr184_33, sr184_34, sr184_35, sr184_36, sr184_37, sr184_38, sr184_40, sr184_41, sr184_44, sr184_45, sr184_50, sr184_51, sr184_52, sr184_53, sr184_54, sr184_55, sr184_57, sr2, sr3, sr4, sr6, srru0, srru1, srru2, srwi0, srwi1, srwi2, srpi0, srpa0, Sh_wI, Sh_wL, Sh_wC, if_true, zb_0, zb_1, Option.bind_some, has_wI, has_wL, has_wC, rR_wI, rR_wL, rR_wC, hA, hw, i1, i2, q, i3, i4, r3, nI_pred, e]
  · rw [w'.2.2 _ _ (by omega), rI_wI, if_neg (by omega), rI_wI, if_pos ⟨rfl, rfl⟩]
  · rw [w'.2.2 _ _ (by omega), rI_wI, if_pos ⟨rfl, rfl⟩]
  · have v : ∀ j, rI (wI (wI A (67 + 4 * w) p t) (64 + 4 * w) 3 (nI (a ++ b).length)) (65 + 4 * w) j = rI A (65 + 4 * w) j := fun j => by rw [rI_wI, if_neg (by omega), rI_wI, if_neg (by omega)]
    rw [f i, v, v, getD_mid a b p i]
    by_cases g : i < a.length
    · rw [if_neg (by omega), if_pos g, h5 i (by omega)]
    · rw [if_pos (by omega), if_neg g, h5 (i + 1) (by omega)]
/-- a piece that waits: its place in the list, and what is left when it is done -/
theorem Qr_spl {B : Mm} {w F p K : Nat} (hF : Fm B w F) (hK : K < F) (h8 : fl B w K = p) (hd : rI B 211 (40 * w + p) = -1) : ∃ e, F = K + (e + 1) ∧ Qr B w 0 F = Qr B w 0 K ++ p :: Qr B w (K + 1) e ∧ p ∉ Qr B w 0 K ∧ p ∉ Qr B w (K + 1) e := by
  have f40 := hF.2.1
  have h9 := (hF.fl hK).2.2
  rw [h8] at h9
  obtain ⟨e, rfl⟩ : ∃ e, F = K + (e + 1) := ⟨F - K - 1, by omega⟩
  have ne : ∀ j, j < K + (e + 1) → j ≠ K → fl B w j ≠ p := fun j hj hne z => by
    have := (hF.fl hj).2.2
    rw [z, h9] at this
    exact hne ((nI_eq (by omega) (by omega)).1 this).symm
  refine ⟨e, rfl, ?_, fun hm => ?_, fun hm => ?_⟩
  · rw [Qr_app, Nat.zero_add, Qr_s, h8, if_pos hd]
  · obtain ⟨-, j, -, j2, j3⟩ := Qr_mem hm
    exact ne j (by omega) (by omega) j3.symm
  · obtain ⟨-, j, j1, j2, j3⟩ := Qr_mem hm
    exact ne j (by omega) (by omega) j3.symm
theorem Qr_same {B B' : Mm} {w k d p : Nat} (h8 : ∀ s, rI B' 208 s = rI B 208 s) (h11 : ∀ s, s ≠ 40 * w + p → rI B' 211 s = rI B 211 s) (hp : ∀ j, k ≤ j → j < k + d → fl B w j ≠ p) : Qr B' w k d = Qr B w k d := by
  unfold Qr
  have e1 : (fl B' w) = (fl B w) := by funext j; unfold fl; rw [h8]
  rw [e1]
  apply List.filter_congr
  intro q hq
  obtain ⟨j, hj, rfl⟩ := List.mem_map.1 hq
  rw [List.mem_range'_1] at hj
  rw [h11 _ (by have := hp j hj.1 (by omega); omega)]
theorem at_len {a b : List Nat} {p pl : Nat} (h : (a ++ p :: b)[pl]? = some p) (ha : p ∉ a) (hb : p ∉ b) : pl = a.length := by
  by_cases c1 : pl < a.length
  · rw [List.getElem?_append_left c1] at h
    exact absurd (List.mem_of_getElem? h) ha
  · rw [List.getElem?_append_right (Nat.le_of_not_lt c1)] at h
    by_cases c2 : pl = a.length
    · exact c2
    · rw [show pl - a.length = (pl - a.length - 1) + 1 by omega, List.getElem?_cons_succ] at h
      exact absurd (List.mem_of_getElem? h) hb
/-- what a run may write -/
def SR (k s : Nat) : Prop := (k = 1 ∧ (s = 13 ∨ s = 14)) ∨ (64 ≤ k ∧ k < 88 ∧ (k % 4 ≠ 0 ∨ s = 3)) ∨ (168 ≤ k ∧ k < 184 ∧ (k % 2 = 1 ∨ s = 1))
def TR (k s : Nat) : Prop := (k = 184 ∧ (s = 42 ∨ s = 43)) ∨ (210 ≤ k ∧ k ≤ 213)
theorem Inv.runs (h : Inv c (mg A B)) {A' B' : Mm} (wa : Wr SR A A') (wb : Wr TR B B') (s1 : rI A' 1 13 = rI B' 184 42) (s2 : rI A' 1 14 = rI B' 184 43) (sn : Sn A' B') (sp : ∀ a q, a < 8 → nP B ≤ q → q < 40 → rI A' (169 + 2 * a) q = -1) (fi : ∀ w, w < nW B → Fok (mg A' B') w) (fo : ∀ w, nW B ≤ w → w < 6 → rI A' (64 + 4 * w) 3 = 0) : Inv c (mg A' B') := by
  have ea := wa.2.2
  have eb := wb.2.2
  have hM := mg_wr wa wb
  have np' : nP B' = nP B := nP_eq (eb 184 6 (by unfold TR; omega))
  have nw' : nW B' = nW B := nW_eq (eb 184 2 (by unfold TR; omega))
  have nq' : nQ B' = nQ B := nQ_eq (eb 184 17 (by unfold TR; omega))
  have nt' : nTk B' = nTk B := nTk_eq (eb 184 31 (by unfold TR; omega))
  have hwle := h.wle
  have hP := h.ple
  have hQ := h.qle
  have hT := h.tle
  refine Inv.down ?_ (show nTk B' ≤ 500 * c by omega)
  refine h.keep (wa.sh h.shA) _ hM (Or.inr ?_) (Or.inl ?_) (Or.inl ?_) (Or.inl ?_) (Or.inl ?_) (Or.inl ?_) (Or.inl ?_) (Or.inl ?_) (Or.inr ?_) (Or.inr ?_) (Or.inl ?_)
  · have x1 : rI A' 1 10 = rI B' 184 2 := by rw [ea 1 10 (by unfold SR; omega), eb 184 2 (by unfold TR; omega), h.wc, h.mwc]
    have x2 : rI A' 1 11 = rI B' 184 6 := by rw [ea 1 11 (by unfold SR; omega), eb 184 6 (by unfold TR; omega), h.pc, h.mpc]
    have x3 : rI A' 5 1 = rI B' 184 17 := by rw [ea 5 1 (by unfold SR; omega), eb 184 17 (by unfold TR; omega), h.qc, h.mqc]
    have x4 : rI A' 1 12 = rI B' 184 31 := by rw [ea 1 12 (by unfold SR; omega), eb 184 31 (by unfold TR; omega), h.tt]
    have x5 : rI A' 1 15 = rI B' 184 56 := by rw [ea 1 15 (by unfold SR; omega), eb 184 56 (by unfold TR; omega), h.lc]
    have y1 : rI B' 184 2 = nI (nW B') := by rw [nw', eb 184 2 (by unfold TR; omega), h.mwc]
    have y2 : rI B' 184 6 = nI (nP B') := by rw [np', eb 184 6 (by unfold TR; omega), h.mpc]
    have y3 : rI B' 184 17 = nI (nQ B') := by rw [nq', eb 184 17 (by unfold TR; omega), h.mqc]
    have y4 : rI B' 184 31 = nI (nTk B') := by rw [nt', eb 184 31 (by unfold TR; omega), h.mtc]
    exact ⟨⟨x1, y1, show nW B' ≤ 6 by omega⟩, ⟨x2, y2, show nP B' ≤ 40 by omega⟩, ⟨x3, y3, show nQ B' ≤ 10 by omega⟩, ⟨x4, y4, show nTk B' ≤ 500 * (c + 1) by omega⟩, s1, s2, x5⟩
  · intro k s; unfold Lref SR TR; omega
  · intro k s; unfold Lwir SR TR; omega
  · intro k s; unfold Lpie SR TR; omega
  · intro k s; unfold Lrow SR TR; omega
  · intro k s; unfold Ltap SR TR; omega
  · intro k s; unfold Lrul SR TR; omega
  · intro k s; unfold Lgar SR TR; omega
  · intro a ha
    simp (disch := omega) only [mg_lo, mg_hi]
    refine ⟨(sn a ha).1, fun q hq => ⟨fun q1 => ?_, fun q1 => ?_⟩⟩
    · exact (sn a ha).2 q q1
    · have q2 : nP B ≤ q := by rw [← np']; exact q1
      exact sp a q ha q2 hq
  · refine ⟨fun w hw => fi w (by rw [← nw']; exact hw), fun w q1 q2 => ?_⟩
    have h3 : nW B ≤ w := by rw [← nw']; exact q1
    simp (disch := omega) only [mg_lo, mg_hi]
    refine ⟨fo w h3 q2, fun q hq => ?_⟩
    have hq2 : q < nP B := by rw [← np']; exact hq
    rw [eb 209 _ (by unfold TR; omega)]
    exact (h.fn h3 q2).2 q hq2
  · intro k s; unfold Ledi SR TR; omega
end HER
