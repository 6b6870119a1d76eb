/-! LAYER 2: wire -/
/-- what is filed on wire w looks only here -/
def Lf (w k s : Nat) : Prop := (k = 184 ∧ s = 6) ∨ (k = 64 + 4 * w ∧ s = 3) ∨ (65 + 4 * w ≤ k ∧ k ≤ 67 + 4 * w) ∨ k = 193 ∨ (k = 207 ∧ s = w) ∨ (208 ≤ k ∧ k ≤ 211 ∧ 40 * w ≤ s ∧ s < 40 * w + 40)
theorem Ql.kp {M M' : Mm} {w F : Nat} (h8 : ∀ k, k < F → rI M' 208 (40 * w + k) = rI M 208 (40 * w + k)) (h11 : ∀ k, k < F → rI M' 211 (40 * w + (rI M 208 (40 * w + k)).toNatClampNeg) = rI M 211 (40 * w + (rI M 208 (40 * w + k)).toNatClampNeg)) : Ql M' w F = Ql M w F := by
  unfold Ql
  have e1 : (List.range F).map (fun k => (rI M' 208 (40 * w + k)).toNatClampNeg) = (List.range F).map (fun k => (rI M 208 (40 * w + k)).toNatClampNeg) := by
    apply List.map_congr_left
    intro k hk
    rw [h8 k (List.mem_range.1 hk)]
  rw [e1]
  apply List.filter_congr
  intro p hp
  obtain ⟨k, hk, rfl⟩ := List.mem_map.1 hp
  rw [h11 k (List.mem_range.1 hk)]
theorem Fok.kp {M M' : Mm} {w : Nat} (hP : nP M ≤ 40) (h : Fok M w) (e : ∀ k s, Lf w k s → rI M' k s = rI M k s) : Fok M' w := by
  have c6 : ∀ s, rI M' (66 + 4 * w) s = rI M (66 + 4 * w) s := fun s => e _ s (by unfold Lf; omega)
  have c7 : ∀ s, rI M' (67 + 4 * w) s = rI M (67 + 4 * w) s := fun s => e _ s (by unfold Lf; omega)
  have c5 : ∀ s, rI M' (65 + 4 * w) s = rI M (65 + 4 * w) s := fun s => e _ s (by unfold Lf; omega)
  have mm : ∀ k j, 208 ≤ k → k ≤ 211 → j < 40 → rI M' k (40 * w + j) = rI M k (40 * w + j) := fun k j h1 h2 h3 => e k _ (by unfold Lf; omega)
  obtain ⟨F, f1, f2, f3, f4, f5, f6, f7, f8⟩ := h
  have eQ : Ql M' w F = Ql M w F := Ql.kp (fun k hk => mm 208 k (by omega) (by omega) (by omega)) (fun k hk => by
    obtain ⟨p, p1, p2, -⟩ := f3 k hk
    rw [p2, nI_clamp (by omega)]
    exact mm 211 p (by omega) (by omega) (by omega))
  have eP : nP M' = nP M := nP_eq (e 184 6 (by unfold Lf; omega))
  refine ⟨F, by rw [eP]; exact f1, by rw [e 207 w (by unfold Lf; omega)]; exact f2, fun k hk => ?_, fun p hp => ?_, fun p h1 h2 => ?_, ?_, ?_, fun i hi => ?_⟩
  · obtain ⟨p, p1, p2, p3⟩ := f3 k hk
    exact ⟨p, by rw [eP]; exact p1, by rw [mm 208 k (by omega) (by omega) (by omega)]; exact p2, by rw [mm 209 p (by omega) (by omega) (by omega)]; exact p3⟩
  · rw [eP] at hp
    rw [mm 209 p (by omega) (by omega) (by omega), mm 210 p (by omega) (by omega) (by omega), mm 211 p (by omega) (by omega) (by omega), c6, c7, e 193 p (by unfold Lf; omega)]
    rcases f4 p hp with q | ⟨k, h, z, q1, q2, q3⟩
    · exact Or.inl q
    · exact Or.inr ⟨k, h, z, q1, by rw [mm 208 k (by omega) (by omega) (by omega)]; exact q2, q3⟩
  · rw [eP] at h1
    rw [c6, c7]
    exact f5 p h1 h2
  · rw [eQ, e (64 + 4 * w) 3 (by unfold Lf; omega)]
    exact f6
  · rw [eQ]; exact f7
  · rw [eQ] at hi ⊢
    rw [c5]
    exact f8 i hi
theorem clamp_lt {x : Int32} : x.toNatClampNeg < 2 ^ 31 := by
  have := Int32.toInt_lt x
  unfold Int32.toNatClampNeg
  omega
def Sopn (w k s : Nat) : Prop := (k = 64 + 4 * w ∧ 4 ≤ s) ∨ k = 66 + 4 * w ∨ k = 67 + 4 * w
theorem e_open18 (w : Nat) (hw : w < 6) : ∀ (d k n : Nat) (A : Mm), k + d = 40 → d < n → Sh A → ∃ A', s_m9_open_18 n (64 + 4 * w) (nI k) A = some ((), A') ∧ Wr (fun i _ => i = 66 + 4 * w ∨ i = 67 + 4 * w) A A' ∧ (∀ j, k ≤ j → j < 40 → rI A' (66 + 4 * w) j = -1 ∧ rI A' (67 + 4 * w) j = -1) ∧ (∀ j, j < k → rI A' (66 + 4 * w) j = rI A (66 + 4 * w) j ∧ rI A' (67 + 4 * w) j = rI A (67 + 4 * w) j)
  | 0, k, n + 1, A, hk, _, h => by
    have e : k = 40 := by omega
    subst e
    refine ⟨A, ?_, Wr.rf _ _, fun j h1 h2 => by omega, fun _ _ => ⟨rfl, rfl⟩⟩
    simp only [s_m9_open_18, show (40 : Int32) ≤ nI 40 from by decide, if_true]
  | d + 1, k, n + 1, A, hk, hd, h => by
    have q : ¬ (40 : Int32) ≤ nI k := nI_ge (b := 40) (by omega) (by omega)
    have i1 : inb (nI k) 40 = true := inb_nI (by omega) (by omega)
    have i2 := nI_clamp (show k < 2 ^ 31 by omega)
    obtain ⟨A', e, w', f, f2⟩ := e_open18 w hw d (k + 1) n (wI (wI A (66 + 4 * w) k (-1)) (67 + 4 * w) k (-1)) (by omega) (by omega) h
    refine ⟨A', ?_, (((Wr.rf _ _).wI (by simp)).wI (by simp)).tr w', fun j h1 h2 => ?_, fun j hj => ?_⟩
    · simp only [s_m9_open_18, gI, gL, gR, pI, pZ, pL, pR, aI, aR, sI, sR, al, dz, rz, cl, cp, tL, tC, has_sh, hs_1, hs_2, hs_3, hs_4, hs_5, hs_6, hs_47, hs_48, hs_49, hs_50, hs_51, hs_52, hs_54, hs_55, hs_56, hs_57, hs_58, hs_59, hs_60, hs_61, hs_62, hs_63, hs_184, hs_185, hs_186, hs_187, hs_188, hs_189, hs_190, hs_191, hs_192, hs_193, hs_194, hs_195, hs_196, hs_197, hs_198, hs_199, hs_200, hs_201, hs_202, hs_203, hs_204, hs_205, hs_206, hs_207, hs_208, hs_209, hs_210, hs_211, hs_212, hs_213, hs_214, hs_215, hs_216, hs_217, hs_218, hs_219, hs_220, hs_221, hs_222, hs_223, hs_224, hs_ru, hs_ru0, hs_ru1, hs_ru2, hs_wi, hs_wi0, hs_wi1, hs_wi2, hs_pi, hs_pi0, hs_pa, hs_pa0, tb_2, tb_3, tb_4, tb_6, tb_48, tb_49, tb_51, tb_52, tb_54, tb_55, tb_57, tb_58, tb_60, tb_62, tb_63, tb_185, tb_186, tb_187, tb_188, tb_189, tb_190, tb_191, tb_192, tb_193, tb_194, tb_195, tb_196, tb_197, tb_198, tb_199, tb_200, tb_201, tb_202, tb_203, tb_204, tb_205, tb_206, tb_207, tb_208, tb_209, tb_210, tb_211, tb_212, tb_213, tb_214, tb_215, tb_216, tb_217, tb_218, tb_219, tb_220, tb_221, tb_222, tb_223, tb_224, tb_ru0, tb_ru1, tb_ru2, tb_wi0, tb_wi1, tb_wi2, tb_pi0, tb_pa0, sr1_0, sr1_1, sr1_2, sr1_3, sr1_4, sr1_5, sr1_6, sr1_7, sr1_8, sr1_9, sr5_0, sr47_0, sr47_1, sr50_0, sr50_1, sr50_3, sr50_4, sr56_0, sr56_1, sr59_0, sr61_0, sr184_1, sr184_3, sr184_4, sr184_5, sr184_7, sr184_8, sr184_9, sr184_10, sr184_11, sr184_12, sr184_13, sr184_14, sr184_16, sr184_18, sr184_19, sr184_20, sr184_21, sr184_22, sr184_23, sr184_24, sr184_25, sr184_27, sr184_32, sr184_33, sr184_34, sr184_35, sr184_36, sr184_37, sr184_38, sr184_40, sr184_41, sr184_44, sr184_45, sr184_50, sr184_51, sr184_52, sr184_53, sr184_54, sr184_55, sr184_57, sr2, sr3, sr4, sr6, srru0, srru1, srru2, srwi0, srwi1, srwi2, srpi0, srpa0, Sh_wI, Sh_wL, Sh_wC, if_true, zb_0, zb_1, Option.bind_some, has_wI, has_wL, has_wC, rR_wI, rR_wL, rR_wC, h, hw, q, if_false, i1, i2, nI_1, e]
    · by_cases e1 : j = k
      · subst e1
        obtain ⟨g1, g2⟩ := f2 j (by omega)
        rw [g1, g2]
        exact ⟨by rw [rI_wI, if_neg (by omega), rI_wI, if_pos ⟨rfl, rfl⟩], by rw [rI_wI, if_pos ⟨rfl, rfl⟩]⟩
      · exact f j (by omega) h2
    · obtain ⟨g1, g2⟩ := f2 j (by omega)
      rw [g1, g2]
      exact ⟨by rw [rI_wI, if_neg (by omega), rI_wI, if_neg (by omega)], by rw [rI_wI, if_neg (by omega), rI_wI, if_neg (by omega)]⟩
theorem in_c (M : Mm) (x : Int32) (a b : Int32) : s_m11_in x a b M = some (if ¬ x < a ∧ ¬ b < x then 1 else 0, M) := by
  rw [e_in]
  simp only [Int32.not_lt]
theorem sim_wire (c : Nat) (x y v : Int32) : Sim c (s_m10_wire 1 x y v) (s_m11_wire 184 x y v) := by
  intro A B h hB
  have hw6 := h.wle
  by_cases n1 : x < 0
  · exact At.refu h hB (-3) 1 (by omega) (by simp only [s_m10_wire_10, s_m10_wire_40, s_m10_wire, gI, gL, gR, pI, pZ, pL, pR, aI, aR, sI, sR, al, dz, rz, cl, cp, tL, tC, has_sh, hs_1, hs_2, hs_3, hs_4, hs_5, hs_6, hs_47, hs_48, hs_49, hs_50, hs_51, hs_52, hs_54, hs_55, hs_56, hs_57, hs_58, hs_59, hs_60, hs_61, hs_62, hs_63, hs_184, hs_185, hs_186, hs_187, hs_188, hs_189, hs_190, hs_191, hs_192, hs_193, hs_194, hs_195, hs_196, hs_197, hs_198, hs_199, hs_200, hs_201, hs_202, hs_203, hs_204, hs_205, hs_206, hs_207, hs_208, hs_209, hs_210, hs_211, hs_212, hs_213, hs_214, hs_215, hs_216, hs_217, hs_218, hs_219, hs_220, hs_221, hs_222, hs_223, hs_224, hs_ru, hs_ru0, hs_ru1, hs_ru2, hs_wi, hs_wi0, hs_wi1, hs_wi2, hs_pi, hs_pi0, hs_pa, hs_pa0, tb_2, tb_3, tb_4, tb_6, tb_48, tb_49, tb_51, tb_52, tb_54, tb_55, tb_57, tb_58, tb_60, tb_62, tb_63, tb_185, tb_186, tb_187, tb_188, tb_189, tb_190, tb_191, tb_192, tb_193, tb_194, tb_195, tb_196, tb_197, tb_198, tb_199, tb_200, tb_201, tb_202, tb_203, tb_204, tb_205, tb_206, tb_207, tb_208, tb_209, tb_210, tb_211, tb_212, tb_213, tb_214, tb_215, tb_216, tb_217, tb_218, tb_219, tb_220, tb_221, tb_222, tb_223, tb_224, tb_ru0, tb_ru1, tb_ru2, tb_wi0, tb_wi1, tb_wi2, tb_pi0, tb_pa0, sr1_0, sr1_1, sr1_2, sr1_3, sr1_4, sr1_5, sr1_6, sr1_7, sr1_8, sr1_9, sr5_0, sr47_0, sr47_1, sr50_0, sr50_1, sr50_3, sr50_4, sr56_0, sr56_1, sr59_0, sr61_0, sr184_1, sr184_3, sr184_4, sr184_5, sr184_7, sr184_8, sr184_9, sr184_10, sr184_11, sr184_12, sr184_13, sr184_14, sr184_16, sr184_18, sr184_19, sr184_20, sr184_21, sr184_22, sr184_23, sr184_24, sr184_25, sr184_27, sr184_32, sr184_33, sr184_34, sr184_35, sr184_36, sr184_37, sr184_38, sr184_40, sr184_41, sr184_44, sr184_45, sr184_50, sr184_51, sr184_52, sr184_53, sr184_54, sr184_55, sr184_57, sr2, sr3, sr4, sr6, srru0, srru1, srru2, srwi0, srwi1, srwi2, srpi0, srpa0, Sh_wI, Sh_wL, Sh_wC, if_true, zb_0, zb_1, Option.bind_some, has_wI, has_wL, has_wC, rR_wI, rR_wL, rR_wC, h.shA, n1, re3]) (by simp only [s_m11_wire_37, s_m11_wire, gI, gL, gR, pI, pZ, pL, pR, aI, aR, sI, sR, al, dz, rz, cl, cp, tL, tC, has_sh, hs_1, hs_2, hs_3, hs_4, hs_5, hs_6, hs_47, hs_48, hs_49, hs_50, hs_51, hs_52, hs_54, hs_55, hs_56, hs_57, hs_58, hs_59, hs_60, hs_61, hs_62, hs_63, hs_184, hs_185, hs_186, hs_187, hs_188, hs_189, hs_190, hs_191, hs_192, hs_193, hs_194, hs_195, hs_196, hs_197, hs_198, hs_199, hs_200, hs_201, hs_202, hs_203, hs_204, hs_205, hs_206, hs_207, hs_208, hs_209, hs_210, hs_211, hs_212, hs_213, hs_214, hs_215, hs_216, hs_217, hs_218, hs_219, hs_220, hs_221, hs_222, hs_223, hs_224, hs_ru, hs_ru0, hs_ru1, hs_ru2, hs_wi, hs_wi0, hs_wi1, hs_wi2, hs_pi, hs_pi0, hs_pa, hs_pa0, tb_2, tb_3, tb_4, tb_6, tb_48, tb_49, tb_51, tb_52, tb_54, tb_55, tb_57, tb_58, tb_60, tb_62, tb_63, tb_185, tb_186, tb_187, tb_188, tb_189, tb_190, tb_191, tb_192, tb_193, tb_194, tb_195, tb_196, tb_197, tb_198, tb_199, tb_200, tb_201, tb_202, tb_203, tb_204, tb_205, tb_206, tb_207, tb_208, tb_209, tb_210, tb_211, tb_212, tb_213, tb_214, tb_215, tb_216, tb_217, tb_218, tb_219, tb_220, tb_221, tb_222, tb_223, tb_224, tb_ru0, tb_ru1, tb_ru2, tb_wi0, tb_wi1, tb_wi2, tb_pi0, tb_pa0, sr1_0, sr1_1, sr1_2, sr1_3, sr1_4, sr1_5, sr1_6, sr1_7, sr1_8, sr1_9, sr5_0, sr47_0, sr47_1, sr50_0, sr50_1, sr50_3, sr50_4, sr56_0, sr56_1, sr59_0, sr61_0, sr184_1, sr184_3, sr184_4, sr184_5, sr184_7, sr184_8, sr184_9, sr184_10, sr184_11, sr184_12, sr184_13, sr184_14, sr184_16, sr184_18, sr184_19, sr184_20, sr184_21, sr184_22, sr184_23, sr184_24, sr184_25, sr184_27, sr184_32, sr184_33, sr184_34, sr184_35, sr184_36, sr184_37, sr184_38, sr184_40, sr184_41, sr184_44, sr184_45, sr184_50, sr184_51, sr184_52, sr184_53, sr184_54, sr184_55, sr184_57, sr2, sr3, sr4, sr6, srru0, srru1, srru2, srwi0, srwi1, srwi2, srpi0, srpa0, Sh_wI, Sh_wL, Sh_wC, if_true, zb_0, zb_1, Option.bind_some, has_wI, has_wL, has_wC, rR_wI, rR_wL, rR_wC, hB, in_c, n1, not_true_eq_false, false_and, if_false, rd3])
  by_cases n2' : ¬ x < 6
  · have n2 : 5 < x := by
      rw [Int32.lt_iff_toInt_lt]
      have := Int32.not_lt.1 n2'
      rw [Int32.le_iff_toInt_le] at this
      have e5 : (5 : Int32).toInt = 5 := by decide
      have e6 : (6 : Int32).toInt = 6 := by decide
      omega
    exact At.refu h hB (-3) 1 (by omega) (by simp only [s_m10_wire_10, s_m10_wire_40, s_m10_wire, gI, gL, gR, pI, pZ, pL, pR, aI, aR, sI, sR, al, dz, rz, cl, cp, tL, tC, has_sh, hs_1, hs_2, hs_3, hs_4, hs_5, hs_6, hs_47, hs_48, hs_49, hs_50, hs_51, hs_52, hs_54, hs_55, hs_56, hs_57, hs_58, hs_59, hs_60, hs_61, hs_62, hs_63, hs_184, hs_185, hs_186, hs_187, hs_188, hs_189, hs_190, hs_191, hs_192, hs_193, hs_194, hs_195, hs_196, hs_197, hs_198, hs_199, hs_200, hs_201, hs_202, hs_203, hs_204, hs_205, hs_206, hs_207, hs_208, hs_209, hs_210, hs_211, hs_212, hs_213, hs_214, hs_215, hs_216, hs_217, hs_218, hs_219, hs_220, hs_221, hs_222, hs_223, hs_224, hs_ru, hs_ru0, hs_ru1, hs_ru2, hs_wi, hs_wi0, hs_wi1, hs_wi2, hs_pi, hs_pi0, hs_pa, hs_pa0, tb_2, tb_3, tb_4, tb_6, tb_48, tb_49, tb_51, tb_52, tb_54, tb_55, tb_57, tb_58, tb_60, tb_62, tb_63, tb_185, tb_186, tb_187, tb_188, tb_189, tb_190, tb_191, tb_192, tb_193, tb_194, tb_195, tb_196, tb_197, tb_198, tb_199, tb_200, tb_201, tb_202, tb_203, tb_204, tb_205, tb_206, tb_207, tb_208, tb_209, tb_210, tb_211, tb_212, tb_213, tb_214, tb_215, tb_216, tb_217, tb_218, tb_219, tb_220, tb_221, tb_222, tb_223, tb_224, tb_ru0, tb_ru1, tb_ru2, tb_wi0, tb_wi1, tb_wi2, tb_pi0, tb_pa0, sr1_0, sr1_1, sr1_2, sr1_3, sr1_4, sr1_5, sr1_6, sr1_7, sr1_8, sr1_9, sr5_0, sr47_0, sr47_1, sr50_0, sr50_1, sr50_3, sr50_4, sr56_0, sr56_1, sr59_0, sr61_0, sr184_1, sr184_3, sr184_4, sr184_5, sr184_7, sr184_8, sr184_9, sr184_10, sr184_11, sr184_12, sr184_13, sr184_14, sr184_16, sr184_18, sr184_19, sr184_20, sr184_21, sr184_22, sr184_23, sr184_24, sr184_25, sr184_27, sr184_32, sr184_33, sr184_34, sr184_35, sr184_36, sr184_37, sr184_38, sr184_40, sr184_41, sr184_44, sr184_45, sr184_50, sr184_51, sr184_52, sr184_53, sr184_54, sr184_55, sr184_57, sr2, sr3, sr4, sr6, srru0, srru1, srru2, srwi0, srwi1, srwi2, srpi0, srpa0, Sh_wI, Sh_wL, Sh_wC, if_true, zb_0, zb_1, Option.bind_some, has_wI, has_wL, has_wC, rR_wI, rR_wL, rR_wC, h.shA, n1, n2', if_false, re3]) (by simp only [s_m11_wire_37, s_m11_wire, gI, gL, gR, pI, pZ, pL, pR, aI, aR, sI, sR, al, dz, rz, cl, cp, tL, tC, has_sh, hs_1, hs_2, hs_3, hs_4, hs_5, hs_6, hs_47, hs_48, hs_49, hs_50, hs_51, hs_52, hs_54, hs_55, hs_56, hs_57, hs_58, hs_59, hs_60, hs_61, hs_62, hs_63, hs_184, hs_185, hs_186, hs_187, hs_188, hs_189, hs_190, hs_191, hs_192, hs_193, hs_194, hs_195, hs_196, hs_197, hs_198, hs_199, hs_200, hs_201, hs_202, hs_203, hs_204, hs_205, hs_206, hs_207, hs_208, hs_209, hs_210, hs_211, hs_212, hs_213, hs_214, hs_215, hs_216, hs_217, hs_218, hs_219, hs_220, hs_221, hs_222, hs_223, hs_224, hs_ru, hs_ru0, hs_ru1, hs_ru2, hs_wi, hs_wi0, hs_wi1, hs_wi2, hs_pi, hs_pi0, hs_pa, hs_pa0, tb_2, tb_3, tb_4, tb_6, tb_48, tb_49, tb_51, tb_52, tb_54, tb_55, tb_57, tb_58, tb_60, tb_62, tb_63, tb_185, tb_186, tb_187, tb_188, tb_189, tb_190, tb_191, tb_192, tb_193, tb_194, tb_195, tb_196, tb_197, tb_198, tb_199, tb_200, tb_201, tb_202, tb_203, tb_204, tb_205, tb_206, tb_207, tb_208, tb_209, tb_210, tb_211, tb_212, tb_213, tb_214, tb_215, tb_216, tb_217, tb_218, tb_219, tb_220, tb_221, tb_222, tb_223, tb_224, tb_ru0, tb_ru1, tb_ru2, tb_wi0, tb_wi1, tb_wi2, tb_pi0, tb_pa0, sr1_0, sr1_1, sr1_2, sr1_3, sr1_4, sr1_5, sr1_6, sr1_7, sr1_8, sr1_9, sr5_0, sr47_0, sr47_1, sr50_0, sr50_1, sr50_3, sr50_4, sr56_0, sr56_1, sr59_0, sr61_0, sr184_1, sr184_3, sr184_4, sr184_5, sr184_7, sr184_8, sr184_9, sr184_10, sr184_11, sr184_12, sr184_13, sr184_14, sr184_16, sr184_18, sr184_19, sr184_20, sr184_21, sr184_22, sr184_23, sr184_24, sr184_25, sr184_27, sr184_32, sr184_33, sr184_34, sr184_35, sr184_36, sr184_37, sr184_38, sr184_40, sr184_41, sr184_44, sr184_45, sr184_50, sr184_51, sr184_52, sr184_53, sr184_54, sr184_55, sr184_57, sr2, sr3, sr4, sr6, srru0, srru1, srru2, srwi0, srwi1, srwi2, srpi0, srpa0, Sh_wI, Sh_wL, Sh_wC, if_true, zb_0, zb_1, Option.bind_some, has_wI, has_wL, has_wC, rR_wI, rR_wL, rR_wC, hB, in_c, n2, not_true_eq_false, and_false, if_false, rd3])
  have n2 := Classical.not_not.1 n2'
  obtain ⟨b, hb, rfl⟩ := nI_of n1
  have b6 : b < 6 := (nI_ltI hb (b := 6) (by omega)).1 n2
  have i5 : ¬ 5 < nI b := nI_nlt (a := 5) (by omega) (by omega)
  by_cases n3 : y < 1
  · exact At.refu h hB (-7) 5 (by omega) (by simp only [s_m10_wire_10, s_m10_wire_40, s_m10_wire, gI, gL, gR, pI, pZ, pL, pR, aI, aR, sI, sR, al, dz, rz, cl, cp, tL, tC, has_sh, hs_1, hs_2, hs_3, hs_4, hs_5, hs_6, hs_47, hs_48, hs_49, hs_50, hs_51, hs_52, hs_54, hs_55, hs_56, hs_57, hs_58, hs_59, hs_60, hs_61, hs_62, hs_63, hs_184, hs_185, hs_186, hs_187, hs_188, hs_189, hs_190, hs_191, hs_192, hs_193, hs_194, hs_195, hs_196, hs_197, hs_198, hs_199, hs_200, hs_201, hs_202, hs_203, hs_204, hs_205, hs_206, hs_207, hs_208, hs_209, hs_210, hs_211, hs_212, hs_213, hs_214, hs_215, hs_216, hs_217, hs_218, hs_219, hs_220, hs_221, hs_222, hs_223, hs_224, hs_ru, hs_ru0, hs_ru1, hs_ru2, hs_wi, hs_wi0, hs_wi1, hs_wi2, hs_pi, hs_pi0, hs_pa, hs_pa0, tb_2, tb_3, tb_4, tb_6, tb_48, tb_49, tb_51, tb_52, tb_54, tb_55, tb_57, tb_58, tb_60, tb_62, tb_63, tb_185, tb_186, tb_187, tb_188, tb_189, tb_190, tb_191, tb_192, tb_193, tb_194, tb_195, tb_196, tb_197, tb_198, tb_199, tb_200, tb_201, tb_202, tb_203, tb_204, tb_205, tb_206, tb_207, tb_208, tb_209, tb_210, tb_211, tb_212, tb_213, tb_214, tb_215, tb_216, tb_217, tb_218, tb_219, tb_220, tb_221, tb_222, tb_223, tb_224, tb_ru0, tb_ru1, tb_ru2, tb_wi0, tb_wi1, tb_wi2, tb_pi0, tb_pa0, sr1_0, sr1_1, sr1_2, sr1_3, sr1_4, sr1_5, sr1_6, sr1_7, sr1_8, sr1_9, sr5_0, sr47_0, sr47_1, sr50_0, sr50_1, sr50_3, sr50_4, sr56_0, sr56_1, sr59_0, sr61_0, sr184_1, sr184_3, sr184_4, sr184_5, sr184_7, sr184_8, sr184_9, sr184_10, sr184_11, sr184_12, sr184_13, sr184_14, sr184_16, sr184_18, sr184_19, sr184_20, sr184_21, sr184_22, sr184_23, sr184_24, sr184_25, sr184_27, sr184_32, sr184_33, sr184_34, sr184_35, sr184_36, sr184_37, sr184_38, sr184_40, sr184_41, sr184_44, sr184_45, sr184_50, sr184_51, sr184_52, sr184_53, sr184_54, sr184_55, sr184_57, sr2, sr3, sr4, sr6, srru0, srru1, srru2, srwi0, srwi1, srwi2, srpi0, srpa0, Sh_wI, Sh_wL, Sh_wC, if_true, zb_0, zb_1, Option.bind_some, has_wI, has_wL, has_wC, rR_wI, rR_wL, rR_wC, h.shA, n1, n2, n3, if_false, re7]) (by simp only [s_m11_wire_37, s_m11_wire, gI, gL, gR, pI, pZ, pL, pR, aI, aR, sI, sR, al, dz, rz, cl, cp, tL, tC, has_sh, hs_1, hs_2, hs_3, hs_4, hs_5, hs_6, hs_47, hs_48, hs_49, hs_50, hs_51, hs_52, hs_54, hs_55, hs_56, hs_57, hs_58, hs_59, hs_60, hs_61, hs_62, hs_63, hs_184, hs_185, hs_186, hs_187, hs_188, hs_189, hs_190, hs_191, hs_192, hs_193, hs_194, hs_195, hs_196, hs_197, hs_198, hs_199, hs_200, hs_201, hs_202, hs_203, hs_204, hs_205, hs_206, hs_207, hs_208, hs_209, hs_210, hs_211, hs_212, hs_213, hs_214, hs_215, hs_216, hs_217, hs_218, hs_219, hs_220, hs_221, hs_222, hs_223, hs_224, hs_ru, hs_ru0, hs_ru1, hs_ru2, hs_wi, hs_wi0, hs_wi1, hs_wi2, hs_pi, hs_pi0, hs_pa, hs_pa0, tb_2, tb_3, tb_4, tb_6, tb_48, tb_49, tb_51, tb_52, tb_54, tb_55, tb_57, tb_58, tb_60, tb_62, tb_63, tb_185, tb_186, tb_187, tb_188, tb_189, tb_190, tb_191, tb_192, tb_193, tb_194, tb_195, tb_196, tb_197, tb_198, tb_199, tb_200, tb_201, tb_202, tb_203, tb_204, tb_205, tb_206, tb_207, tb_208, tb_209, tb_210, tb_211, tb_212, tb_213, tb_214, tb_215, tb_216, tb_217, tb_218, tb_219, tb_220, tb_221, tb_222, tb_223, tb_224, tb_ru0, tb_ru1, tb_ru2, tb_wi0, tb_wi1, tb_wi2, tb_pi0, tb_pa0, sr1_0, sr1_1, sr1_2, sr1_3, sr1_4, sr1_5, sr1_6, sr1_7, sr1_8, sr1_9, sr5_0, sr47_0, sr47_1, sr50_0, sr50_1, sr50_3, sr50_4, sr56_0, sr56_1, sr59_0, sr61_0, sr184_1, sr184_3, sr184_4, sr184_5, sr184_7, sr184_8, sr184_9, sr184_10, sr184_11, sr184_12, sr184_13, sr184_14, sr184_16, sr184_18, sr184_19, sr184_20, sr184_21, sr184_22, sr184_23, sr184_24, sr184_25, sr184_27, sr184_32, sr184_33, sr184_34, sr184_35, sr184_36, sr184_37, sr184_38, sr184_40, sr184_41, sr184_44, sr184_45, sr184_50, sr184_51, sr184_52, sr184_53, sr184_54, sr184_55, sr184_57, sr2, sr3, sr4, sr6, srru0, srru1, srru2, srwi0, srwi1, srwi2, srpi0, srpa0, Sh_wI, Sh_wL, Sh_wC, if_true, zb_0, zb_1, Option.bind_some, has_wI, has_wL, has_wC, rR_wI, rR_wL, rR_wC, hB, in_c, n1, i5, n3, not_true_eq_false, not_false_eq_true, and_self, false_and, ne_1, if_false, rd7])
  by_cases n4 : 256 ≤ y
  · have n4' : 255 < y := by
      rw [Int32.lt_iff_toInt_lt]
      have := n4
      rw [Int32.le_iff_toInt_le] at this
      have e5 : (255 : Int32).toInt = 255 := by decide
      have e6 : (256 : Int32).toInt = 256 := by decide
      omega
    exact At.refu h hB (-7) 5 (by omega) (by simp only [s_m10_wire_10, s_m10_wire_40, s_m10_wire, gI, gL, gR, pI, pZ, pL, pR, aI, aR, sI, sR, al, dz, rz, cl, cp, tL, tC, has_sh, hs_1, hs_2, hs_3, hs_4, hs_5, hs_6, hs_47, hs_48, hs_49, hs_50, hs_51, hs_52, hs_54, hs_55, hs_56, hs_57, hs_58, hs_59, hs_60, hs_61, hs_62, hs_63, hs_184, hs_185, hs_186, hs_187, hs_188, hs_189, hs_190, hs_191, hs_192, hs_193, hs_194, hs_195, hs_196, hs_197, hs_198, hs_199, hs_200, hs_201, hs_202, hs_203, hs_204, hs_205, hs_206, hs_207, hs_208, hs_209, hs_210, hs_211, hs_212, hs_213, hs_214, hs_215, hs_216, hs_217, hs_218, hs_219, hs_220, hs_221, hs_222, hs_223, hs_224, hs_ru, hs_ru0, hs_ru1, hs_ru2, hs_wi, hs_wi0, hs_wi1, hs_wi2, hs_pi, hs_pi0, hs_pa, hs_pa0, tb_2, tb_3, tb_4, tb_6, tb_48, tb_49, tb_51, tb_52, tb_54, tb_55, tb_57, tb_58, tb_60, tb_62, tb_63, tb_185, tb_186, tb_187, tb_188, tb_189, tb_190, tb_191, tb_192, tb_193, tb_194, tb_195, tb_196, tb_197, tb_198, tb_199, tb_200, tb_201, tb_202, tb_203, tb_204, tb_205, tb_206, tb_207, tb_208, tb_209, tb_210, tb_211, tb_212, tb_213, tb_214, tb_215, tb_216, tb_217, tb_218, tb_219, tb_220, tb_221, tb_222, tb_223, tb_224, tb_ru0, tb_ru1, tb_ru2, tb_wi0, tb_wi1, tb_wi2, tb_pi0, tb_pa0, sr1_0, sr1_1, sr1_2, sr1_3, sr1_4, sr1_5, sr1_6, sr1_7, sr1_8, sr1_9, sr5_0, sr47_0, sr47_1, sr50_0, sr50_1, sr50_3, sr50_4, sr56_0, sr56_1, sr59_0, sr61_0, sr184_1, sr184_3, sr184_4, sr184_5, sr184_7, sr184_8, sr184_9, sr184_10, sr184_11, sr184_12, sr184_13, sr184_14, sr184_16, sr184_18, sr184_19, sr184_20, sr184_21, sr184_22, sr184_23, sr184_24, sr184_25, sr184_27, sr184_32, sr184_33, sr184_34, sr184_35, sr184_36, sr184_37, sr184_38, sr184_40, sr184_41, sr184_44, sr184_45, sr184_50, sr184_51, sr184_52, sr184_53, sr184_54, sr184_55, sr184_57, sr2, sr3, sr4, sr6, srru0, srru1, srru2, srwi0, srwi1, srwi2, srpi0, srpa0, Sh_wI, Sh_wL, Sh_wC, if_true, zb_0, zb_1, Option.bind_some, has_wI, has_wL, has_wC, rR_wI, rR_wL, rR_wC, h.shA, n1, n2, n3, n4, if_false, re7]) (by simp only [s_m11_wire_37, s_m11_wire, gI, gL, gR, pI, pZ, pL, pR, aI, aR, sI, sR, al, dz, rz, cl, cp, tL, tC, has_sh, hs_1, hs_2, hs_3, hs_4, hs_5, hs_6, hs_47, hs_48, hs_49, hs_50, hs_51, hs_52, hs_54, hs_55, hs_56, hs_57, hs_58, hs_59, hs_60, hs_61, hs_62, hs_63, hs_184, hs_185, hs_186, hs_187, hs_188, hs_189, hs_190, hs_191, hs_192, hs_193, hs_194, hs_195, hs_196, hs_197, hs_198, hs_199, hs_200, hs_201, hs_202, hs_203, hs_204, hs_205, hs_206, hs_207, hs_208, hs_209, hs_210, hs_211, hs_212, hs_213, hs_214, hs_215, hs_216, hs_217, hs_218, hs_219, hs_220, hs_221, hs_222, hs_223, hs_224, hs_ru, hs_ru0, hs_ru1, hs_ru2, hs_wi, hs_wi0, hs_wi1, hs_wi2, hs_pi, hs_pi0, hs_pa, hs_pa0, tb_2, tb_3, tb_4, tb_6, tb_48, tb_49, tb_51, tb_52, tb_54, tb_55, tb_57, tb_58, tb_60, tb_62, tb_63, tb_185, tb_186, tb_187, tb_188, tb_189, tb_190, tb_191, tb_192, tb_193, tb_194, tb_195, tb_196, tb_197, tb_198, tb_199, tb_200, tb_201, tb_202, tb_203, tb_204, tb_205, tb_206, tb_207, tb_208, tb_209, tb_210, tb_211, tb_212, tb_213, tb_214, tb_215, tb_216, tb_217, tb_218, tb_219, tb_220, tb_221, tb_222, tb_223, tb_224, tb_ru0, tb_ru1, tb_ru2, tb_wi0, tb_wi1, tb_wi2, tb_pi0, tb_pa0, sr1_0, sr1_1, sr1_2, sr1_3, sr1_4, sr1_5, sr1_6, sr1_7, sr1_8, sr1_9, sr5_0, sr47_0, sr47_1, sr50_0, sr50_1, sr50_3, sr50_4, sr56_0, sr56_1, sr59_0, sr61_0, sr184_1, sr184_3, sr184_4, sr184_5, sr184_7, sr184_8, sr184_9, sr184_10, sr184_11, sr184_12, sr184_13, sr184_14, sr184_16, sr184_18, sr184_19, sr184_20, sr184_21, sr184_22, sr184_23, sr184_24, sr184_25, sr184_27, sr184_32, sr184_33, sr184_34, sr184_35, sr184_36, sr184_37, sr184_38, sr184_40, sr184_41, sr184_44, sr184_45, sr184_50, sr184_51, sr184_52, sr184_53, sr184_54, sr184_55, sr184_57, sr2, sr3, sr4, sr6, srru0, srru1, srru2, srwi0, srwi1, srwi2, srpi0, srpa0, Sh_wI, Sh_wL, Sh_wC, if_true, zb_0, zb_1, Option.bind_some, has_wI, has_wL, has_wC, rR_wI, rR_wL, rR_wC, hB, in_c, n1, i5, n3, n4', not_true_eq_false, not_false_eq_true, and_self, and_false, ne_1, if_false, rd7])
  by_cases n5 : v < 1
  · have n4' : ¬ 255 < y := by
      rw [Int32.lt_iff_toInt_lt]
      have := n4
      rw [Int32.le_iff_toInt_le] at this
      have e5 : (255 : Int32).toInt = 255 := by decide
      have e6 : (256 : Int32).toInt = 256 := by decide
      omega
    exact At.refu h hB (-7) 5 (by omega) (by simp only [s_m10_wire_10, s_m10_wire_40, s_m10_wire, gI, gL, gR, pI, pZ, pL, pR, aI, aR, sI, sR, al, dz, rz, cl, cp, tL, tC, has_sh, hs_1, hs_2, hs_3, hs_4, hs_5, hs_6, hs_47, hs_48, hs_49, hs_50, hs_51, hs_52, hs_54, hs_55, hs_56, hs_57, hs_58, hs_59, hs_60, hs_61, hs_62, hs_63, hs_184, hs_185, hs_186, hs_187, hs_188, hs_189, hs_190, hs_191, hs_192, hs_193, hs_194, hs_195, hs_196, hs_197, hs_198, hs_199, hs_200, hs_201, hs_202, hs_203, hs_204, hs_205, hs_206, hs_207, hs_208, hs_209, hs_210, hs_211, hs_212, hs_213, hs_214, hs_215, hs_216, hs_217, hs_218, hs_219, hs_220, hs_221, hs_222, hs_223, hs_224, hs_ru, hs_ru0, hs_ru1, hs_ru2, hs_wi, hs_wi0, hs_wi1, hs_wi2, hs_pi, hs_pi0, hs_pa, hs_pa0, tb_2, tb_3, tb_4, tb_6, tb_48, tb_49, tb_51, tb_52, tb_54, tb_55, tb_57, tb_58, tb_60, tb_62, tb_63, tb_185, tb_186, tb_187, tb_188, tb_189, tb_190, tb_191, tb_192, tb_193, tb_194, tb_195, tb_196, tb_197, tb_198, tb_199, tb_200, tb_201, tb_202, tb_203, tb_204, tb_205, tb_206, tb_207, tb_208, tb_209, tb_210, tb_211, tb_212, tb_213, tb_214, tb_215, tb_216, tb_217, tb_218, tb_219, tb_220, tb_221, tb_222, tb_223, tb_224, tb_ru0, tb_ru1, tb_ru2, tb_wi0, tb_wi1, tb_wi2, tb_pi0, tb_pa0, sr1_0, sr1_1, sr1_2, sr1_3, sr1_4, sr1_5, sr1_6, sr1_7, sr1_8, sr1_9, sr5_0, sr47_0, sr47_1, sr50_0, sr50_1, sr50_3, sr50_4, sr56_0, sr56_1, sr59_0, sr61_0, sr184_1, sr184_3, sr184_4, sr184_5, sr184_7, sr184_8, sr184_9, sr184_10, sr184_11, sr184_12, sr184_13, sr184_14, sr184_16, sr184_18, sr184_19, sr184_20, sr184_21, sr184_22, sr184_23, sr184_24, sr184_25, sr184_27, sr184_32, sr184_33, sr184_34, sr184_35, sr184_36, sr184_37, sr184_38, sr184_40, sr184_41, sr184_44, sr184_45, sr184_50, sr184_51, sr184_52, sr184_53, sr184_54, sr184_55, sr184_57, sr2, sr3, sr4, sr6, srru0, srru1, srru2, srwi0, srwi1, srwi2, srpi0, srpa0, Sh_wI, Sh_wL, Sh_wC, if_true, zb_0, zb_1, Option.bind_some, has_wI, has_wL, has_wC, rR_wI, rR_wL, rR_wC, h.shA, n1, n2, n3, n4, n5, if_false, re7]) (by simp only [s_m11_wire_37, s_m11_wire, gI, gL, gR, pI, pZ, pL, pR, aI, aR, sI, sR, al, dz, rz, cl, cp, tL, tC, has_sh, hs_1, hs_2, hs_3, hs_4, hs_5, hs_6, hs_47, hs_48, hs_49, hs_50, hs_51, hs_52, hs_54, hs_55, hs_56, hs_57, hs_58, hs_59, hs_60, hs_61, hs_62, hs_63, hs_184, hs_185, hs_186, hs_187, hs_188, hs_189, hs_190, hs_191, hs_192, hs_193, hs_194, hs_195, hs_196, hs_197, hs_198, hs_199, hs_200, hs_201, hs_202, hs_203, hs_204, hs_205, hs_206, hs_207, hs_208, hs_209, hs_210, hs_211, hs_212, hs_213, hs_214, hs_215, hs_216, hs_217, hs_218, hs_219, hs_220, hs_221, hs_222, hs_223, hs_224, hs_ru, hs_ru0, hs_ru1, hs_ru2, hs_wi, hs_wi0, hs_wi1, hs_wi2, hs_pi, hs_pi0, hs_pa, hs_pa0, tb_2, tb_3, tb_4, tb_6, tb_48, tb_49, tb_51, tb_52, tb_54, tb_55, tb_57, tb_58, tb_60, tb_62, tb_63, tb_185, tb_186, tb_187, tb_188, tb_189, tb_190, tb_191, tb_192, tb_193, tb_194, tb_195, tb_196, tb_197, tb_198, tb_199, tb_200, tb_201, tb_202, tb_203, tb_204, tb_205, tb_206, tb_207, tb_208, tb_209, tb_210, tb_211, tb_212, tb_213, tb_214, tb_215, tb_216, tb_217, tb_218, tb_219, tb_220, tb_221, tb_222, tb_223, tb_224, tb_ru0, tb_ru1, tb_ru2, tb_wi0, tb_wi1, tb_wi2, tb_pi0, tb_pa0, sr1_0, sr1_1, sr1_2, sr1_3, sr1_4, sr1_5, sr1_6, sr1_7, sr1_8, sr1_9, sr5_0, sr47_0, sr47_1, sr50_0, sr50_1, sr50_3, sr50_4, sr56_0, sr56_1, sr59_0, sr61_0, sr184_1, sr184_3, sr184_4, sr184_5, sr184_7, sr184_8, sr184_9, sr184_10, sr184_11, sr184_12, sr184_13, sr184_14, sr184_16, sr184_18, sr184_19, sr184_20, sr184_21, sr184_22, sr184_23, sr184_24, sr184_25, sr184_27, sr184_32, sr184_33, sr184_34, sr184_35, sr184_36, sr184_37, sr184_38, sr184_40, sr184_41, sr184_44, sr184_45, sr184_50, sr184_51, sr184_52, sr184_53, sr184_54, sr184_55, sr184_57, sr2, sr3, sr4, sr6, srru0, srru1, srru2, srwi0, srwi1, srwi2, srpi0, srpa0, Sh_wI, Sh_wL, Sh_wC, if_true, zb_0, zb_1, Option.bind_some, has_wI, has_wL, has_wC, rR_wI, rR_wL, rR_wC, hB, in_c, n1, i5, n3, n4', n5, not_true_eq_false, not_false_eq_true, and_self, false_and, ne_1, if_false, rd7])
  have n4' : ¬ 255 < y := by
    rw [Int32.lt_iff_toInt_lt]
    have := n4
    rw [Int32.le_iff_toInt_le] at this
    have e5 : (255 : Int32).toInt = 255 := by decide
    have e6 : (256 : Int32).toInt = 256 := by decide
    omega
  by_cases n6 : 9 < v
  · have n6' : ¬ v ≤ 9 := Int32.not_le.2 n6
    exact At.refu h hB (-7) 5 (by omega) (by simp only [s_m10_wire_10, s_m10_wire_40, s_m10_wire, gI, gL, gR, pI, pZ, pL, pR, aI, aR, sI, sR, al, dz, rz, cl, cp, tL, tC, has_sh, hs_1, hs_2, hs_3, hs_4, hs_5, hs_6, hs_47, hs_48, hs_49, hs_50, hs_51, hs_52, hs_54, hs_55, hs_56, hs_57, hs_58, hs_59, hs_60, hs_61, hs_62, hs_63, hs_184, hs_185, hs_186, hs_187, hs_188, hs_189, hs_190, hs_191, hs_192, hs_193, hs_194, hs_195, hs_196, hs_197, hs_198, hs_199, hs_200, hs_201, hs_202, hs_203, hs_204, hs_205, hs_206, hs_207, hs_208, hs_209, hs_210, hs_211, hs_212, hs_213, hs_214, hs_215, hs_216, hs_217, hs_218, hs_219, hs_220, hs_221, hs_222, hs_223, hs_224, hs_ru, hs_ru0, hs_ru1, hs_ru2, hs_wi, hs_wi0, hs_wi1, hs_wi2, hs_pi, hs_pi0, hs_pa, hs_pa0, tb_2, tb_3, tb_4, tb_6, tb_48, tb_49, tb_51, tb_52, tb_54, tb_55, tb_57, tb_58, tb_60, tb_62, tb_63, tb_185, tb_186, tb_187, tb_188, tb_189, tb_190, tb_191, tb_192, tb_193, tb_194, tb_195, tb_196, tb_197, tb_198, tb_199, tb_200, tb_201, tb_202, tb_203, tb_204, tb_205, tb_206, tb_207, tb_208, tb_209, tb_210, tb_211, tb_212, tb_213, tb_214, tb_215, tb_216, tb_217, tb_218, tb_219, tb_220, tb_221, tb_222, tb_223, tb_224, tb_ru0, tb_ru1, tb_ru2, tb_wi0, tb_wi1, tb_wi2, tb_pi0, tb_pa0, sr1_0, sr1_1, sr1_2, sr1_3, sr1_4, sr1_5, sr1_6, sr1_7, sr1_8, sr1_9, sr5_0, sr47_0, sr47_1, sr50_0, sr50_1, sr50_3, sr50_4, sr56_0, sr56_1, sr59_0, sr61_0, sr184_1, sr184_3, sr184_4, sr184_5, sr184_7, sr184_8, sr184_9, sr184_10, sr184_11, sr184_12, sr184_13, sr184_14, sr184_16, sr184_18, sr184_19, sr184_20, sr184_21, sr184_22, sr184_23, sr184_24, sr184_25, sr184_27, sr184_32, sr184_33, sr184_34, sr184_35, sr184_36, sr184_37, sr184_38, sr184_40, sr184_41, sr184_44, sr184_45, sr184_50, sr184_51, sr184_52, sr184_53, sr184_54, sr184_55, sr184_57, sr2, sr3, sr4, sr6, srru0, srru1, srru2, srwi0, srwi1, srwi2, srpi0, srpa0, Sh_wI, Sh_wL, Sh_wC, if_true, zb_0, zb_1, Option.bind_some, has_wI, has_wL, has_wC, rR_wI, rR_wL, rR_wC, h.shA, n1, n2, n3, n4, n5, n6', if_false, re7]) (by simp only [s_m11_wire_37, s_m11_wire, gI, gL, gR, pI, pZ, pL, pR, aI, aR, sI, sR, al, dz, rz, cl, cp, tL, tC, has_sh, hs_1, hs_2, hs_3, hs_4, hs_5, hs_6, hs_47, hs_48, hs_49, hs_50, hs_51, hs_52, hs_54, hs_55, hs_56, hs_57, hs_58, hs_59, hs_60, hs_61, hs_62, hs_63, hs_184, hs_185, hs_186, hs_187, hs_188, hs_189, hs_190, hs_191, hs_192, hs_193, hs_194, hs_195, hs_196, hs_197, hs_198, hs_199, hs_200, hs_201, hs_202, hs_203, hs_204, hs_205, hs_206, hs_207, hs_208, hs_209, hs_210, hs_211, hs_212, hs_213, hs_214, hs_215, hs_216, hs_217, hs_218, hs_219, hs_220, hs_221, hs_222, hs_223, hs_224, hs_ru, hs_ru0, hs_ru1, hs_ru2, hs_wi, hs_wi0, hs_wi1, hs_wi2, hs_pi, hs_pi0, hs_pa, hs_pa0, tb_2, tb_3, tb_4, tb_6, tb_48, tb_49, tb_51, tb_52, tb_54, tb_55, tb_57, tb_58, tb_60, tb_62, tb_63, tb_185, tb_186, tb_187, tb_188, tb_189, tb_190, tb_191, tb_192, tb_193, tb_194, tb_195, tb_196, tb_197, tb_198, tb_199, tb_200, tb_201, tb_202, tb_203, tb_204, tb_205, tb_206, tb_207, tb_208, tb_209, tb_210, tb_211, tb_212, tb_213, tb_214, tb_215, tb_216, tb_217, tb_218, tb_219, tb_220, tb_221, tb_222, tb_223, tb_224, tb_ru0, tb_ru1, tb_ru2, tb_wi0, tb_wi1, tb_wi2, tb_pi0, tb_pa0, sr1_0, sr1_1, sr1_2, sr1_3, sr1_4, sr1_5, sr1_6, sr1_7, sr1_8, sr1_9, sr5_0, sr47_0, sr47_1, sr50_0, sr50_1, sr50_3, sr50_4, sr56_0, sr56_1, sr59_0, sr61_0, sr184_1, sr184_3, sr184_4, sr184_5, sr184_7, sr184_8, sr184_9, sr184_10, sr184_11, sr184_12, sr184_13, sr184_14, sr184_16, sr184_18, sr184_19, sr184_20, sr184_21, sr184_22, sr184_23, sr184_24, sr184_25, sr184_27, sr184_32, sr184_33, sr184_34, sr184_35, sr184_36, sr184_37, sr184_38, sr184_40, sr184_41, sr184_44, sr184_45, sr184_50, sr184_51, sr184_52, sr184_53, sr184_54, sr184_55, sr184_57, sr2, sr3, sr4, sr6, srru0, srru1, srru2, srwi0, srwi1, srwi2, srpi0, srpa0, Sh_wI, Sh_wL, Sh_wC, if_true, zb_0, zb_1, Option.bind_some, has_wI, has_wL, has_wC, rR_wI, rR_wL, rR_wC, hB, in_c, n1, i5, n3, n4', n5, n6, not_true_eq_false, not_false_eq_true, and_self, and_false, ne_1, if_false, rd7])
  have n6' : v ≤ 9 := Int32.not_lt.1 n6
  by_cases n7 : nW B = 6
  · have q1 : ¬ nI 6 < 6 := by decide
    have q2 : nI 6 = 6 := by decide
    exact At.refu h hB (-8) 6 (by omega) (by simp only [s_m10_wire_10, s_m10_wire_40, s_m10_wire, gI, gL, gR, pI, pZ, pL, pR, aI, aR, sI, sR, al, dz, rz, cl, cp, tL, tC, has_sh, hs_1, hs_2, hs_3, hs_4, hs_5, hs_6, hs_47, hs_48, hs_49, hs_50, hs_51, hs_52, hs_54, hs_55, hs_56, hs_57, hs_58, hs_59, hs_60, hs_61, hs_62, hs_63, hs_184, hs_185, hs_186, hs_187, hs_188, hs_189, hs_190, hs_191, hs_192, hs_193, hs_194, hs_195, hs_196, hs_197, hs_198, hs_199, hs_200, hs_201, hs_202, hs_203, hs_204, hs_205, hs_206, hs_207, hs_208, hs_209, hs_210, hs_211, hs_212, hs_213, hs_214, hs_215, hs_216, hs_217, hs_218, hs_219, hs_220, hs_221, hs_222, hs_223, hs_224, hs_ru, hs_ru0, hs_ru1, hs_ru2, hs_wi, hs_wi0, hs_wi1, hs_wi2, hs_pi, hs_pi0, hs_pa, hs_pa0, tb_2, tb_3, tb_4, tb_6, tb_48, tb_49, tb_51, tb_52, tb_54, tb_55, tb_57, tb_58, tb_60, tb_62, tb_63, tb_185, tb_186, tb_187, tb_188, tb_189, tb_190, tb_191, tb_192, tb_193, tb_194, tb_195, tb_196, tb_197, tb_198, tb_199, tb_200, tb_201, tb_202, tb_203, tb_204, tb_205, tb_206, tb_207, tb_208, tb_209, tb_210, tb_211, tb_212, tb_213, tb_214, tb_215, tb_216, tb_217, tb_218, tb_219, tb_220, tb_221, tb_222, tb_223, tb_224, tb_ru0, tb_ru1, tb_ru2, tb_wi0, tb_wi1, tb_wi2, tb_pi0, tb_pa0, sr1_0, sr1_1, sr1_2, sr1_3, sr1_4, sr1_5, sr1_6, sr1_7, sr1_8, sr1_9, sr5_0, sr47_0, sr47_1, sr50_0, sr50_1, sr50_3, sr50_4, sr56_0, sr56_1, sr59_0, sr61_0, sr184_1, sr184_3, sr184_4, sr184_5, sr184_7, sr184_8, sr184_9, sr184_10, sr184_11, sr184_12, sr184_13, sr184_14, sr184_16, sr184_18, sr184_19, sr184_20, sr184_21, sr184_22, sr184_23, sr184_24, sr184_25, sr184_27, sr184_32, sr184_33, sr184_34, sr184_35, sr184_36, sr184_37, sr184_38, sr184_40, sr184_41, sr184_44, sr184_45, sr184_50, sr184_51, sr184_52, sr184_53, sr184_54, sr184_55, sr184_57, sr2, sr3, sr4, sr6, srru0, srru1, srru2, srwi0, srwi1, srwi2, srpi0, srpa0, Sh_wI, Sh_wL, Sh_wC, if_true, zb_0, zb_1, Option.bind_some, has_wI, has_wL, has_wC, rR_wI, rR_wL, rR_wC, h.shA, n1, n2, n3, n4, n5, n6', if_false, h.wc, n7, q1, re8]) (by simp only [s_m11_wire_37, s_m11_wire, gI, gL, gR, pI, pZ, pL, pR, aI, aR, sI, sR, al, dz, rz, cl, cp, tL, tC, has_sh, hs_1, hs_2, hs_3, hs_4, hs_5, hs_6, hs_47, hs_48, hs_49, hs_50, hs_51, hs_52, hs_54, hs_55, hs_56, hs_57, hs_58, hs_59, hs_60, hs_61, hs_62, hs_63, hs_184, hs_185, hs_186, hs_187, hs_188, hs_189, hs_190, hs_191, hs_192, hs_193, hs_194, hs_195, hs_196, hs_197, hs_198, hs_199, hs_200, hs_201, hs_202, hs_203, hs_204, hs_205, hs_206, hs_207, hs_208, hs_209, hs_210, hs_211, hs_212, hs_213, hs_214, hs_215, hs_216, hs_217, hs_218, hs_219, hs_220, hs_221, hs_222, hs_223, hs_224, hs_ru, hs_ru0, hs_ru1, hs_ru2, hs_wi, hs_wi0, hs_wi1, hs_wi2, hs_pi, hs_pi0, hs_pa, hs_pa0, tb_2, tb_3, tb_4, tb_6, tb_48, tb_49, tb_51, tb_52, tb_54, tb_55, tb_57, tb_58, tb_60, tb_62, tb_63, tb_185, tb_186, tb_187, tb_188, tb_189, tb_190, tb_191, tb_192, tb_193, tb_194, tb_195, tb_196, tb_197, tb_198, tb_199, tb_200, tb_201, tb_202, tb_203, tb_204, tb_205, tb_206, tb_207, tb_208, tb_209, tb_210, tb_211, tb_212, tb_213, tb_214, tb_215, tb_216, tb_217, tb_218, tb_219, tb_220, tb_221, tb_222, tb_223, tb_224, tb_ru0, tb_ru1, tb_ru2, tb_wi0, tb_wi1, tb_wi2, tb_pi0, tb_pa0, sr1_0, sr1_1, sr1_2, sr1_3, sr1_4, sr1_5, sr1_6, sr1_7, sr1_8, sr1_9, sr5_0, sr47_0, sr47_1, sr50_0, sr50_1, sr50_3, sr50_4, sr56_0, sr56_1, sr59_0, sr61_0, sr184_1, sr184_3, sr184_4, sr184_5, sr184_7, sr184_8, sr184_9, sr184_10, sr184_11, sr184_12, sr184_13, sr184_14, sr184_16, sr184_18, sr184_19, sr184_20, sr184_21, sr184_22, sr184_23, sr184_24, sr184_25, sr184_27, sr184_32, sr184_33, sr184_34, sr184_35, sr184_36, sr184_37, sr184_38, sr184_40, sr184_41, sr184_44, sr184_45, sr184_50, sr184_51, sr184_52, sr184_53, sr184_54, sr184_55, sr184_57, sr2, sr3, sr4, sr6, srru0, srru1, srru2, srwi0, srwi1, srwi2, srpi0, srpa0, Sh_wI, Sh_wL, Sh_wC, if_true, zb_0, zb_1, Option.bind_some, has_wI, has_wL, has_wC, rR_wI, rR_wL, rR_wC, hB, in_c, n1, i5, n3, n4', n5, n6, not_true_eq_false, not_false_eq_true, and_self, ne_1, if_false, h.mwc, n7, q2, rd8])
  have hw : nW B < 6 := by omega
  generalize ew : nW B = w at hw
  have wc := h.wc
  have mwc := h.mwc
  rw [ew] at wc mwc
  have hA := h.shA
  have i1 : inb (nI w) 6 = true := inb_nI hw (by omega)
  have i2 := nI_clamp (show w < 2 ^ 31 by omega)
  have q1 : nI w < 6 := nI_lt (b := 6) hw (by omega)
  have q2 : ¬ nI w = 6 := fun e => by have := (nI_eq (by omega) (b := 6) (by omega)).1 e; omega
  have fu : FU = 5000 := rfl
  obtain ⟨A1, e, w1, f, -⟩ := e_open18 w hw 40 0 FU (wI (wI (wI A (64 + 4 * w) 4 (nI b)) (64 + 4 * w) 5 y) (64 + 4 * w) 6 v) (by omega) (by omega) hA
  rw [nI_0] at e
  have hA1 : Sh A1 := w1.sh hA
  have r1 : rI A1 1 10 = nI w := by
    rw [w1.2.2 1 10 (by omega), rI_wI, if_neg (by omega), rI_wI, if_neg (by omega), rI_wI, if_neg (by omega), wc]
  have s0 : ∀ k t x, k ≠ 184 → rI (wI B k t x) 184 2 = rI B 184 2 := fun k t x hk => by rw [rI_wI, if_neg (by omega)]
  have s1 : rI (wI B 186 w (nI b)) 184 2 = nI w := by rw [rI_wI, if_neg (by omega), mwc]
  have s2 : rI (wI (wI B 186 w (nI b)) 187 w y) 184 2 = nI w := by rw [rI_wI, if_neg (by omega), s1]
  have s3 : rI (wI (wI (wI B 186 w (nI b)) 187 w y) 188 w v) 184 2 = nI w := by rw [rI_wI, if_neg (by omega), s2]
  have s4 : rI (wI (wI (wI (wI B 186 w (nI b)) 187 w y) 188 w v) 207 w 0) 184 2 = nI w := by rw [rI_wI, if_neg (by omega), s3]
  generalize eB : wI (wI (wI (wI (wI B 186 w (nI b)) 187 w y) 188 w v) 207 w 0) 184 2 (nI (w + 1)) = B'
  generalize eA : wI A1 1 10 (nI (w + 1)) = A'
  have E1 : s_m10_wire 1 (nI b) y v A = some (nI w, A') := by
    have r2 : rI A' 1 10 = nI (w + 1) := by rw [← eA]; simp [rI_wI]
    simp only [s_m10_wire_10, s_m10_wire_40, s_m10_wire, s_m9_open, gI, gL, gR, pI, pZ, pL, pR, aI, aR, sI, sR, al, dz, rz, cl, cp, tL, tC, has_sh, hs_1, hs_2, hs_3, hs_4, hs_5, hs_6, hs_47, hs_48, hs_49, hs_50, hs_51, hs_52, hs_54, hs_55, hs_56, hs_57, hs_58, hs_59, hs_60, hs_61, hs_62, hs_63, hs_184, hs_185, hs_186, hs_187, hs_188, hs_189, hs_190, hs_191, hs_192, hs_193, hs_194, hs_195, hs_196, hs_197, hs_198, hs_199, hs_200, hs_201, hs_202, hs_203, hs_204, hs_205, hs_206, hs_207, hs_208, hs_209, hs_210, hs_211, hs_212, hs_213, hs_214, hs_215, hs_216, hs_217, hs_218, hs_219, hs_220, hs_221, hs_222, hs_223, hs_224, hs_ru, hs_ru0, hs_ru1, hs_ru2, hs_wi, hs_wi0, hs_wi1, hs_wi2, hs_pi, hs_pi0, hs_pa, hs_pa0, tb_2, tb_3, tb_4, tb_6, tb_48, tb_49, tb_51, tb_52, tb_54, tb_55, tb_57, tb_58, tb_60, tb_62, tb_63, tb_185, tb_186, tb_187, tb_188, tb_189, tb_190, tb_191, tb_192, tb_193, tb_194, tb_195, tb_196, tb_197, tb_198, tb_199, tb_200, tb_201, tb_202, tb_203, tb_204, tb_205, tb_206, tb_207, tb_208, tb_209, tb_210, tb_211, tb_212, tb_213, tb_214, tb_215, tb_216, tb_217, tb_218, tb_219, tb_220, tb_221, tb_222, tb_223, tb_224, tb_ru0, tb_ru1, tb_ru2, tb_wi0, tb_wi1, tb_wi2, tb_pi0, tb_pa0, sr1_0, sr1_1, sr1_2, sr1_3, sr1_4, sr1_5, sr1_6, sr1_7, sr1_8, sr1_9, sr5_0, sr47_0, sr47_1, sr50_0, sr50_1, sr50_3, sr50_4, sr56_0, sr56_1, sr59_0, sr61_0, sr184_1, sr184_3, sr184_4, sr184_5, sr184_7, sr184_8, sr184_9, sr184_10, sr184_11, sr184_12, sr184_13, sr184_14, sr184_16, sr184_18, sr184_19, sr184_20, sr184_21, sr184_22, sr184_23, sr184_24, sr184_25, sr184_27, sr184_32, sr184_33, sr184_34, sr184_35, sr184_36, sr184_37, sr184_38, sr184_40, sr184_41, sr184_44, sr184_45, sr184_50, sr184_51, sr184_52, sr184_53, sr184_54, sr184_55, sr184_57, sr2, sr3, sr4, sr6, srru0, srru1, srru2, srwi0, srwi1, srwi2, srpi0, srpa0, Sh_wI, Sh_wL, Sh_wC, if_true, zb_0, zb_1, Option.bind_some, has_wI, has_wL, has_wC, rR_wI, rR_wL, rR_wC, hA, hA1, n1, n2, n3, n4, n5, n6', if_false, wc, q1, i1, i2, hw, e, r1, nI_1, eA, r2, nI_pred]
  have E2 : s_m11_wire 184 (nI b) y v B = some (nI w, B') := by
    have s5 : rI B' 184 2 = nI (w + 1) := by rw [← eB]; simp [rI_wI]
    simp only [s_m11_wire_37, s_m11_wire, gI, gL, gR, pI, pZ, pL, pR, aI, aR, sI, sR, al, dz, rz, cl, cp, tL, tC, has_sh, hs_1, hs_2, hs_3, hs_4, hs_5, hs_6, hs_47, hs_48, hs_49, hs_50, hs_51, hs_52, hs_54, hs_55, hs_56, hs_57, hs_58, hs_59, hs_60, hs_61, hs_62, hs_63, hs_184, hs_185, hs_186, hs_187, hs_188, hs_189, hs_190, hs_191, hs_192, hs_193, hs_194, hs_195, hs_196, hs_197, hs_198, hs_199, hs_200, hs_201, hs_202, hs_203, hs_204, hs_205, hs_206, hs_207, hs_208, hs_209, hs_210, hs_211, hs_212, hs_213, hs_214, hs_215, hs_216, hs_217, hs_218, hs_219, hs_220, hs_221, hs_222, hs_223, hs_224, hs_ru, hs_ru0, hs_ru1, hs_ru2, hs_wi, hs_wi0, hs_wi1, hs_wi2, hs_pi, hs_pi0, hs_pa, hs_pa0, tb_2, tb_3, tb_4, tb_6, tb_48, tb_49, tb_51, tb_52, tb_54, tb_55, tb_57, tb_58, tb_60, tb_62, tb_63, tb_185, tb_186, tb_187, tb_188, tb_189, tb_190, tb_191, tb_192, tb_193, tb_194, tb_195, tb_196, tb_197, tb_198, tb_199, tb_200, tb_201, tb_202, tb_203, tb_204, tb_205, tb_206, tb_207, tb_208, tb_209, tb_210, tb_211, tb_212, tb_213, tb_214, tb_215, tb_216, tb_217, tb_218, tb_219, tb_220, tb_221, tb_222, tb_223, tb_224, tb_ru0, tb_ru1, tb_ru2, tb_wi0, tb_wi1, tb_wi2, tb_pi0, tb_pa0, sr1_0, sr1_1, sr1_2, sr1_3, sr1_4, sr1_5, sr1_6, sr1_7, sr1_8, sr1_9, sr5_0, sr47_0, sr47_1, sr50_0, sr50_1, sr50_3, sr50_4, sr56_0, sr56_1, sr59_0, sr61_0, sr184_1, sr184_3, sr184_4, sr184_5, sr184_7, sr184_8, sr184_9, sr184_10, sr184_11, sr184_12, sr184_13, sr184_14, sr184_16, sr184_18, sr184_19, sr184_20, sr184_21, sr184_22, sr184_23, sr184_24, sr184_25, sr184_27, sr184_32, sr184_33, sr184_34, sr184_35, sr184_36, sr184_37, sr184_38, sr184_40, sr184_41, sr184_44, sr184_45, sr184_50, sr184_51, sr184_52, sr184_53, sr184_54, sr184_55, sr184_57, sr2, sr3, sr4, sr6, srru0, srru1, srru2, srwi0, srwi1, srwi2, srpi0, srpa0, Sh_wI, Sh_wL, Sh_wC, if_true, zb_0, zb_1, Option.bind_some, has_wI, has_wL, has_wC, rR_wI, rR_wL, rR_wC, hB, in_c, n1, i5, n3, n4', n5, n6, not_false_eq_true, and_self, ne_1, if_false, mwc, q2, i1, i2, s1, s2, s3, s4, nI_1, eB, s5, nI_pred]
  have hWA : Wr (fun k s => Sopn w k s ∨ (k = 1 ∧ s = 10)) A A' := by
    rw [← eA]
    refine Wr.wI ?_ (Or.inr ⟨rfl, rfl⟩)
    refine Wr.tr ?_ (w1.mono (fun k s q => Or.inl (by unfold Sopn; omega)))
    exact (((Wr.rf _ _).wI (Or.inl (by unfold Sopn; omega))).wI (Or.inl (by unfold Sopn; omega))).wI (Or.inl (by unfold Sopn; omega))
  have hWB : Wr (fun k s => (186 ≤ k ∧ k ≤ 188 ∧ s = w) ∨ (k = 207 ∧ s = w) ∨ (k = 184 ∧ s = 2)) B B' := by
    rw [← eB]
    exact (((((Wr.rf _ _).wI (by omega)).wI (by omega)).wI (by omega)).wI (by omega)).wI (by omega)
  have hM := mg_wr hWA hWB
  have ea : ∀ k s, ¬ (Sopn w k s ∨ (k = 1 ∧ s = 10)) → rI A' k s = rI A k s := hWA.2.2
  have eb := hWB.2.2
  have a10 : rI A' 1 10 = nI (w + 1) := by rw [← eA]; simp [rI_wI]
  have b2 : rI B' 184 2 = nI (w + 1) := by rw [← eB]; simp [rI_wI]
  have nw' : nW B' = w + 1 := by unfold nW; rw [b2, nI_clamp (by omega)]
  have np' : nP B' = nP B := nP_eq (eb 184 6 (by omega))
  have nq' : nQ B' = nQ B := nQ_eq (eb 184 17 (by omega))
  have nt' : nTk B' = nTk B := nTk_eq (eb 184 31 (by omega))
  have hP := h.ple
  refine ⟨nI w, A', B', E1, E2, ?_, hWB.sh hB, hWA.fa (fun k s q => by unfold Sopn at q; omega), hWB.fb (fun k s q => by omega)⟩
  refine h.keep (hWA.sh hA) _ hM (Or.inr ?_) (Or.inl ?_) (Or.inr ?_) (Or.inl ?_) (Or.inl ?_) (Or.inl ?_) (Or.inl ?_) (Or.inl ?_) (Or.inl ?_) (Or.inr ?_) (Or.inl ?_)
  · have c1 : rI A' 1 11 = rI B' 184 6 := by rw [ea 1 11 (by unfold Sopn; omega), eb 184 6 (by omega), h.pc, h.mpc]
    have c2 : rI A' 5 1 = rI B' 184 17 := by rw [ea 5 1 (by unfold Sopn; omega), eb 184 17 (by omega), h.qc, h.mqc]
    have c3 : rI A' 1 12 = rI B' 184 31 := by rw [ea 1 12 (by unfold Sopn; omega), eb 184 31 (by omega), h.tt]
    have c4 : rI A' 1 13 = rI B' 184 42 := by rw [ea 1 13 (by unfold Sopn; omega), eb 184 42 (by omega), h.sc]
    have c5 : rI A' 1 14 = rI B' 184 43 := by rw [ea 1 14 (by unfold Sopn; omega), eb 184 43 (by omega), h.hc]
    have c6 : rI A' 1 15 = rI B' 184 56 := by rw [ea 1 15 (by unfold Sopn; omega), eb 184 56 (by omega), h.lc]
    have d1 : rI B' 184 6 = nI (nP B') := by rw [np', eb 184 6 (by omega), h.mpc]
    have d2 : rI B' 184 17 = nI (nQ B') := by rw [nq', eb 184 17 (by omega), h.mqc]
    have d3 : rI B' 184 31 = nI (nTk B') := by rw [nt', eb 184 31 (by omega), h.mtc]
    have t1 := h.tle
    have t2 := h.qle
    exact ⟨⟨a10.trans b2.symm, by rw [← nw'] at b2; exact b2, show nW B' ≤ 6 by omega⟩, ⟨c1, d1, show nP B' ≤ 40 by omega⟩, ⟨c2, d2, show nQ B' ≤ 10 by omega⟩, ⟨c3, d3, show nTk B' ≤ 500 * (c + 1) by omega⟩, c4, c5, c6⟩
  · intro k s; unfold Lref Sopn; omega
  · intro w' hw'
    have hw2 : w' < w + 1 := by rw [← nw']; exact hw'
    unfold Wok
    by_cases e : w' = w
    · subst e
      obtain ⟨yn, hyn, rfl⟩ := nI_of (x := y) (by intro q; exact n3 (Int32.lt_trans q (by decide)))
      obtain ⟨vn, hvn, rfl⟩ := nI_of (x := v) (by intro q; exact n5 (Int32.lt_trans q (by decide)))
      have z1 := (Int32.not_lt.1 n3)
      have z2 := (nI_leI (a := 1) (by omega) hyn).1 z1
      have z3 := (nI_ltI hyn (b := 256) (by omega)).1 (Int32.not_le.1 n4)
      have z4 := (nI_leI (a := 1) (by omega) hvn).1 (Int32.not_lt.1 n5)
      have z5 := (nI_leI hvn (b := 9) (by omega)).1 n6'
      have y1 : rI A' (64 + 4 * w') 4 = nI b := by rw [← eA, rI_wI, if_neg (by omega), w1.2.2 _ _ (by omega)]; simp [rI_wI]
      have y2 : rI A' (64 + 4 * w') 5 = nI yn := by rw [← eA, rI_wI, if_neg (by omega), w1.2.2 _ _ (by omega)]; simp [rI_wI]
      have y3 : rI A' (64 + 4 * w') 6 = nI vn := by rw [← eA, rI_wI, if_neg (by omega), w1.2.2 _ _ (by omega)]; simp [rI_wI]
      have y4 : rI B' 186 w' = nI b := by rw [← eB]; simp [rI_wI]
      have y5 : rI B' 187 w' = nI yn := by rw [← eB]; simp [rI_wI]
      have y6 : rI B' 188 w' = nI vn := by rw [← eB]; simp [rI_wI]
      simp (disch := omega) only [mg_lo, mg_hi]
      rw [y1, y2, y3, y4, y5, y6]
      exact ⟨rfl, rfl, rfl, ⟨b, b6, rfl⟩, ⟨yn, z2, z3, rfl⟩, ⟨vn, z4, z5, rfl⟩⟩
    · obtain ⟨⟨k1, k2, k3⟩, k4⟩ := h.wk (show w' < nW B by omega)
      simp (disch := omega) only [mg_lo, mg_hi]
      rw [ea (64 + 4 * w') 4 (by unfold Sopn; omega), ea (64 + 4 * w') 5 (by unfold Sopn; omega), ea (64 + 4 * w') 6 (by unfold Sopn; omega), eb 186 w' (by omega), eb 187 w' (by omega), eb 188 w' (by omega)]
      exact ⟨k1, k2, k3, k4⟩
  · intro k s; unfold Lpie Sopn; omega
  · intro k s; unfold Lrow Sopn; omega
  · intro k s; unfold Ltap Sopn; omega
  · intro k s; unfold Lrul Sopn; omega
  · intro k s; unfold Lgar Sopn; omega
  · intro k s; unfold Lsin Sopn; omega
  · refine ⟨fun w' hw' => ?_, fun w' h1 h2 => ?_⟩
    · have hw2 : w' < w + 1 := by rw [← nw']; exact hw'
      by_cases e : w' = w
      · subst e
        obtain ⟨g1, g2⟩ := h.fn (w := w') (by omega) (by omega)
        have y1 : rI B' 207 w' = 0 := by rw [← eB]; simp [rI_wI]
        have y2 : ∀ p, p < 40 → rI A' (66 + 4 * w') p = -1 ∧ rI A' (67 + 4 * w') p = -1 := fun p hp => by
          rw [← eA, rI_wI, if_neg (by omega), rI_wI, if_neg (by omega)]
          exact f p (by omega) hp
        have y3 : rI A' (64 + 4 * w') 3 = 0 := by rw [ea _ _ (by unfold Sopn; omega)]; exact g1
        unfold Fok
        simp (disch := omega) only [mg_lo, mg_hi]
        refine ⟨0, by omega, y1, fun k hk => by omega, fun p hp => Or.inl ⟨?_, y2 p (by have : p < nP B' := hp; omega)⟩, fun p _ hp => y2 p hp, ?_, ?_, fun i hi => ?_⟩
        · have hp2 : p < nP B := by have : p < nP B' := hp; omega
          rw [eb 209 _ (by omega)]
          exact g2 p hp2
        · rw [y3]; rfl
        · exact Nat.zero_le _
        · exact absurd hi (Nat.not_lt_zero _)
      · exact (h.2.2.2.2.2.2.2.2.2.2.1.1 w' (by show w' < nW B; omega)).kp (show nP (mg A B) ≤ 40 from hP) (fun k s q => (hM k s (by unfold Lf at q; unfold Sopn; omega)).1)
    · have h3 : w + 1 ≤ w' := by rw [← nw']; exact h1
      obtain ⟨g1, g2⟩ := h.fn (w := w') (by omega) h2
      simp (disch := omega) only [mg_lo, mg_hi]
      refine ⟨by rw [ea _ _ (by unfold Sopn; omega)]; exact g1, fun p hp => ?_⟩
      have hp2 : p < nP B := by have : p < nP B' := hp; omega
      rw [eb 209 _ (by omega)]
      exact g2 p hp2
  · intro k s; unfold Ledi Sopn; omega
