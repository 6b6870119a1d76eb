/-! LAYER 2: text: joined, as a call sees it -/
theorem has_wR (M : Mm) (k s v r c : Nat) : has (wR M k s v) r c = has M r c := rfl
def Tx (A0 A : Mm) : Prop := Sh A ∧ ∀ k s, ¬ (50 ≤ k ∧ k ≤ 55) → rI A k s = rI A0 k s ∧ rL A k s = rL A0 k s
def Tk (off k s : Nat) : Prop := Tj off k s ∨ (k = 184 ∧ s = 48)
section JOI
variable {c : Nat} {A0 A B0 B : Mm} {a s : Nat}
theorem Tx.wr {A' : Mm} {S : Nat → Nat → Prop} (h : Tx A0 A) (w : Wr S A A') (hS : ∀ k s, S k s → 50 ≤ k ∧ k ≤ 55) : Tx A0 A' := ⟨w.sh h.1, fun k s n => ⟨(w.2.2 k s (fun z => n (hS k s z))).trans (h.2 k s n).1, by
  have : rL A' k s = rL A k s := by unfold rL; rw [w.2.1]
  exact this.trans (h.2 k s n).2⟩⟩
theorem Tx.vx (h : Inv c (mg A0 B0)) (hA : Tx A0 A) (ha : a < 8) : Vx B0 (wR A 50 2 3) a := by
  have hP := h.ple
  have e : ∀ k s, ¬ (50 ≤ k ∧ k ≤ 55) → rI (wR A 50 2 3) k s = rI A0 k s := fun k s n => (hA.2 k s n).1
  refine ⟨Sh_wR hA.1, by rw [rR_wR, if_pos ⟨rfl, rfl⟩], fun p hp => ⟨?_, fun z hz z12 j hj => ?_⟩, fun p hp => ?_⟩
  · obtain ⟨k1, k2, k3, k4, k5, k6, k7⟩ := h.pk hp
    have e8 : ∀ s, rI (wR A 50 2 3) (88 + 2 * p) s = rI A0 (88 + 2 * p) s := fun s => e _ s (by omega)
    simp only [e8]
    exact ⟨k1, k2, k5, k6, k7⟩
  · obtain ⟨kk, ss, bb, tt, z', -, -, -, -, -, -, -, -, hz', -, hz2, hw, -⟩ := h.pm hp
    have ez : z' = z := (nI_eq (by omega) (by omega)).1 (hz'.symm.trans hz)
    rw [e _ _ (by omega)]
    exact hw j (by omega)
  · rw [e _ _ (by omega)]
    obtain ⟨g1, g2⟩ := (h.sn ha).2 p hp
    by_cases q : p < nP B0
    · rw [if_pos q]; exact g1 q
    · rw [if_neg q]; exact g2 (by omega)
theorem e_join (h : Inv c (mg A0 B0)) {off : Nat} (ha : a < 8) (s8 : s < 8) (t : Int32) (hA : Tx A0 A) (hB : Vw B0 B) (h46 : rI B 184 46 = nI off) (hl : off ≤ 12 * cs (fun q => decide (stg B0 q < 9 * s)) 40) :
    ∃ A' B' l', s_m7_join 50 3 (nI s) (168 + 2 * a) t A = some ((), A') ∧ s_m11_layAll 184 (nI s) (nI a) t B = some ((), B') ∧ Tx A0 A' ∧ Vw B0 B' ∧ Wr (Tk off) B B' ∧ Tq A' B' off l' ∧ rI A' 50 8 = rI B' 184 47 ∧ rI A' 50 9 = rI B' 184 49 ∧ rI A' 50 7 = rI B' 184 48 ∧ off + l' ≤ 12 * cs (fun q => decide (stg B0 q < 9 * (s + 1))) 40 := by
  have hP := h.ple
  have fu : FU = 5000 := rfl
  have hA0 := hA.1
  have V1 := Tx.vx h hA ha
  obtain ⟨x, fx, bx⟩ := e_find9 h (s := s) ha t 40 0 FU (wR A 50 2 3) 0 0 (by omega) (by omega) V1 (fun q hq => by rw [bit_0]; simp) (fun q hq => by rw [bit_0]; rfl)
  rw [nI_0] at fx
  have V2 : Vx B0 (wL (wR A 50 2 3) 50 5 x) a := V1
  have bt2 : Bt B0 (wL (wR A 50 2 3) 50 5 x) a s t := fun q hq => by
    rw [rL_wL, if_pos ⟨rfl, rfl⟩, bx q hq]
    exact thS_bits h t hq
  have tx2 : Tx A0 (wL (wR A 50 2 3) 50 5 x) := ⟨V2.1, fun k s n => ⟨(hA.2 k s n).1, by rw [rL_wL, if_neg (by omega)]; exact (hA.2 k s n).2⟩⟩
  generalize eA2 : wL (wR A 50 2 3) 50 5 x = A2 at *
  have sA2 := V2.1
  have w3 : Wr Sj A2 (wI A2 50 6 0) := (Wr.rf _ _).wI (Or.inl (Or.inr (Or.inr (Or.inr ⟨rfl, rfl⟩))))
  have V3 := V2.wr hP w3 Sj_o
  have bt3 := bt2.wr w3
  have eL10 := e_lead V3 hP bt3
  have eL11 := e_latL hB hP h.mpc ha (s := s) t
  generalize eLL : lt (fL B0 a s t) (nP B0) = L at *
  have w4 : Wr (fun k s => k = 50 ∧ (s = 6 ∨ s = 7)) A2 (wI (wI A2 50 6 0) 50 7 (bo L)) := ((Wr.rf _ _).wI ⟨rfl, Or.inl rfl⟩).wI ⟨rfl, Or.inr rfl⟩
  have V4 := V2.wr hP w4 (fun k s z => by omega)
  have bt4 := bt2.wr w4
  have wb1 : Wr (fun k s => k = 184 ∧ s = 48) B (wI B 184 48 (bo L)) := (Wr.rf _ _).wI ⟨rfl, rfl⟩
  have Y1 : Vw B0 (wI B 184 48 (bo L)) := hB.wI (by omega)
  have tq4 : Tq (wI (wI A2 50 6 0) 50 7 (bo L)) (wI B 184 48 (bo L)) off 0 := ⟨by rw [rI_wI, if_neg (by omega)]; simp [rI_wI]; rfl, by rw [rI_wI, if_neg (by omega)]; exact h46, fun j hj => by omega⟩
  have r7 : rI (wI (wI A2 50 6 0) 50 7 (bo L)) 50 7 = bo L := by simp [rI_wI]
  have r48 : rI (wI B 184 48 (bo L)) 184 48 = bo L := by simp [rI_wI]
  have EA : s_m7_join 50 3 (nI s) (168 + 2 * a) t A = (if bo L = -1 then s_m7_join_42 50 (wI (wI A2 50 6 0) 50 7 (bo L)) else (s_m7_appendPiece 50 (bo L) (wI (wI A2 50 6 0) 50 7 (bo L))).bind (fun p => s_m7_join_42 50 p.2)) := by
    simp only [s_m7_join, s_m7_findThere, gI, gL, gR, pI, pZ, pL, pR, aI, aR, sI, sR, al, dz, rz, cl, cp, tL, tC, has_sh, hs_1, hs_2, hs_3, hs_4, hs_5, hs_6, hs_47, hs_48, hs_49, hs_50, hs_51, hs_52, hs_54, hs_55, hs_56, hs_57, hs_58, hs_59, hs_60, hs_61, hs_62, hs_63, hs_184, hs_185, hs_186, hs_187, hs_188, hs_189, hs_190, hs_191, hs_192, hs_193, hs_194, hs_195, hs_196, hs_197, hs_198, hs_199, hs_200, hs_201, hs_202, hs_203, hs_204, hs_205, hs_206, hs_207, hs_208, hs_209, hs_210, hs_211, hs_212, hs_213, hs_214, hs_215, hs_216, hs_217, hs_218, hs_219, hs_220, hs_221, hs_222, hs_223, hs_224, hs_ru, hs_ru0, hs_ru1, hs_ru2, hs_wi, hs_wi0, hs_wi1, hs_wi2, hs_pi, hs_pi0, hs_pa, hs_pa0, tb_2, tb_3, tb_4, tb_6, tb_48, tb_49, tb_51, tb_52, tb_54, tb_55, tb_57, tb_58, tb_60, tb_62, tb_63, tb_185, tb_186, tb_187, tb_188, tb_189, tb_190, tb_191, tb_192, tb_193, tb_194, tb_195, tb_196, tb_197, tb_198, tb_199, tb_200, tb_201, tb_202, tb_203, tb_204, tb_205, tb_206, tb_207, tb_208, tb_209, tb_210, tb_211, tb_212, tb_213, tb_214, tb_215, tb_216, tb_217, tb_218, tb_219, tb_220, tb_221, tb_222, tb_223, tb_224, tb_ru0, tb_ru1, tb_ru2, tb_wi0, tb_wi1, tb_wi2, tb_pi0, tb_pa0, sr1_0, sr1_1, sr1_2, sr1_3, sr1_4, sr1_5, sr1_6, sr1_7, sr1_8, sr1_9, sr5_0, sr47_0, sr47_1, sr50_0, sr50_1, sr50_3, sr50_4, sr56_0, sr56_1, sr59_0, sr61_0, sr184_1, sr184_3, sr184_4, sr184_5, sr184_7, sr184_8, sr184_9, sr184_10, sr184_11, sr184_12, sr184_13, sr184_14, sr184_16, sr184_18, sr184_19, sr184_20, sr184_21, sr184_22, sr184_23, sr184_24, sr184_25, sr184_27, sr184_32, sr184_33, sr184_34, sr184_35, sr184_36, sr184_37, sr184_38, sr184_40, sr184_41, sr184_44, sr184_45, sr184_50, sr184_51, sr184_52, sr184_53, sr184_54, sr184_55, sr184_57, sr2, sr3, sr4, sr6, srru0, srru1, srru2, srwi0, srwi1, srwi2, srpi0, srpa0, Sh_wI, Sh_wL, Sh_wC, if_true, zb_0, zb_1, Option.bind_some, has_wI, has_wL, has_wC, rR_wI, rR_wL, rR_wC, hA0, has_wR, fx, eA2, sA2, eL10, r7]
  have EB : s_m11_layAll 184 (nI s) (nI a) t B = (if bo L = -1 then s_m11_layAll_30 184 (nI s) (nI a) t (wI B 184 48 (bo L)) else (s_m11_lay 184 (bo L) (nI a) t (wI B 184 48 (bo L))).bind (fun p => s_m11_layAll_30 184 (nI s) (nI a) t p.2)) := by
    have hB1 := hB.1
    simp only [s_m11_layAll, gI, gL, gR, pI, pZ, pL, pR, aI, aR, sI, sR, al, dz, rz, cl, cp, tL, tC, has_sh, hs_1, hs_2, hs_3, hs_4, hs_5, hs_6, hs_47, hs_48, hs_49, hs_50, hs_51, hs_52, hs_54, hs_55, hs_56, hs_57, hs_58, hs_59, hs_60, hs_61, hs_62, hs_63, hs_184, hs_185, hs_186, hs_187, hs_188, hs_189, hs_190, hs_191, hs_192, hs_193, hs_194, hs_195, hs_196, hs_197, hs_198, hs_199, hs_200, hs_201, hs_202, hs_203, hs_204, hs_205, hs_206, hs_207, hs_208, hs_209, hs_210, hs_211, hs_212, hs_213, hs_214, hs_215, hs_216, hs_217, hs_218, hs_219, hs_220, hs_221, hs_222, hs_223, hs_224, hs_ru, hs_ru0, hs_ru1, hs_ru2, hs_wi, hs_wi0, hs_wi1, hs_wi2, hs_pi, hs_pi0, hs_pa, hs_pa0, tb_2, tb_3, tb_4, tb_6, tb_48, tb_49, tb_51, tb_52, tb_54, tb_55, tb_57, tb_58, tb_60, tb_62, tb_63, tb_185, tb_186, tb_187, tb_188, tb_189, tb_190, tb_191, tb_192, tb_193, tb_194, tb_195, tb_196, tb_197, tb_198, tb_199, tb_200, tb_201, tb_202, tb_203, tb_204, tb_205, tb_206, tb_207, tb_208, tb_209, tb_210, tb_211, tb_212, tb_213, tb_214, tb_215, tb_216, tb_217, tb_218, tb_219, tb_220, tb_221, tb_222, tb_223, tb_224, tb_ru0, tb_ru1, tb_ru2, tb_wi0, tb_wi1, tb_wi2, tb_pi0, tb_pa0, sr1_0, sr1_1, sr1_2, sr1_3, sr1_4, sr1_5, sr1_6, sr1_7, sr1_8, sr1_9, sr5_0, sr47_0, sr47_1, sr50_0, sr50_1, sr50_3, sr50_4, sr56_0, sr56_1, sr59_0, sr61_0, sr184_1, sr184_3, sr184_4, sr184_5, sr184_7, sr184_8, sr184_9, sr184_10, sr184_11, sr184_12, sr184_13, sr184_14, sr184_16, sr184_18, sr184_19, sr184_20, sr184_21, sr184_22, sr184_23, sr184_24, sr184_25, sr184_27, sr184_32, sr184_33, sr184_34, sr184_35, sr184_36, sr184_37, sr184_38, sr184_40, sr184_41, sr184_44, sr184_45, sr184_50, sr184_51, sr184_52, sr184_53, sr184_54, sr184_55, sr184_57, sr2, sr3, sr4, sr6, srru0, srru1, srru2, srwi0, srwi1, srwi2, srpi0, srpa0, Sh_wI, Sh_wL, Sh_wC, if_true, zb_0, zb_1, Option.bind_some, has_wI, has_wL, has_wC, rR_wI, rR_wL, rR_wC, hB1, eL11, r48]
  generalize eA4 : wI (wI A2 50 6 0) 50 7 (bo L) = A4 at *
  generalize eB1 : wI B 184 48 (bo L) = B1 at *
  -- the parts
  have fin : ∀ (A5 B5 : Mm) (l1 : Nat), Vx B0 A5 a → Vw B0 B5 → Bt B0 A5 a s t → Tq A5 B5 off l1 → off + l1 ≤ 12 * cs (fun q => decide (stg B0 q < 9 * s + 1)) 40 → ∃ A' B' l', s_m7_join_42 50 A5 = some ((), A') ∧ s_m11_layAll_30 184 (nI s) (nI a) t B5 = some ((), B') ∧ Wr Sj A5 A' ∧ Wr (Tj off) B5 B' ∧ Tq A' B' off l' ∧ rI A' 50 8 = rI B' 184 47 ∧ rI A' 50 9 = rI B' 184 49 ∧ off + l' ≤ 12 * cs (fun q => decide (stg B0 q < 9 * (s + 1))) 40 := fun A5 B5 l1 g1 g2 g3 g4 g5 => by
    have g11 := g1.1
    have g21 := g2.1
    have wa6 : Wr (fun k s => k = 50 ∧ s = 9) A5 (wI A5 50 9 0) := (Wr.rf _ _).wI ⟨rfl, rfl⟩
    have wb6 : Wr (fun k s => k = 184 ∧ (s = 47 ∨ s = 49)) B5 (wI (wI B5 184 49 0) 184 47 (-1)) := ((Wr.rf _ _).wI ⟨rfl, Or.inr rfl⟩).wI ⟨rfl, Or.inl rfl⟩
    have X6 := g1.wr hP wa6 (fun k s z => by omega)
    have Y6 : Vw B0 (wI (wI B5 184 49 0) 184 47 (-1)) := (g2.wI (by omega)).wI (by omega)
    have bt6 := g3.wr wa6
    have ep := e_part X6 hP bt6 (0 : Int32)
    obtain ⟨A', B', l', u1, u2, u3, u4, u5, u6, u7, u8⟩ := e_parts h (off := off) ha s8 8 0 FU FU l1 _ _ (by omega) (by omega) (by omega) X6 Y6 bt6 (g4.keep wa6 wb6 (fun k s z => by omega) (fun k s z => by omega)) (by simp [rI_wI]; rfl) (by rw [rI_wI, if_neg (by omega)]; simp [rI_wI]; rfl) (by simp [rI_wI]) g5
    rw [nI_0] at u1 u2
    refine ⟨A', B', l', ?_, ?_, (wa6.mono (fun k s z => Or.inr ⟨z.1, Or.inr z.2⟩)).tr u3, (wb6.mono (fun k s z => Or.inr z)).tr u4, u5, u6, u7, by rw [show 9 * (s + 1) = 9 * s + 9 by omega]; exact u8⟩
    · simp only [s_m7_join_42, gI, gL, gR, pI, pZ, pL, pR, aI, aR, sI, sR, al, dz, rz, cl, cp, tL, tC, has_sh, hs_1, hs_2, hs_3, hs_4, hs_5, hs_6, hs_47, hs_48, hs_49, hs_50, hs_51, hs_52, hs_54, hs_55, hs_56, hs_57, hs_58, hs_59, hs_60, hs_61, hs_62, hs_63, hs_184, hs_185, hs_186, hs_187, hs_188, hs_189, hs_190, hs_191, hs_192, hs_193, hs_194, hs_195, hs_196, hs_197, hs_198, hs_199, hs_200, hs_201, hs_202, hs_203, hs_204, hs_205, hs_206, hs_207, hs_208, hs_209, hs_210, hs_211, hs_212, hs_213, hs_214, hs_215, hs_216, hs_217, hs_218, hs_219, hs_220, hs_221, hs_222, hs_223, hs_224, hs_ru, hs_ru0, hs_ru1, hs_ru2, hs_wi, hs_wi0, hs_wi1, hs_wi2, hs_pi, hs_pi0, hs_pa, hs_pa0, tb_2, tb_3, tb_4, tb_6, tb_48, tb_49, tb_51, tb_52, tb_54, tb_55, tb_57, tb_58, tb_60, tb_62, tb_63, tb_185, tb_186, tb_187, tb_188, tb_189, tb_190, tb_191, tb_192, tb_193, tb_194, tb_195, tb_196, tb_197, tb_198, tb_199, tb_200, tb_201, tb_202, tb_203, tb_204, tb_205, tb_206, tb_207, tb_208, tb_209, tb_210, tb_211, tb_212, tb_213, tb_214, tb_215, tb_216, tb_217, tb_218, tb_219, tb_220, tb_221, tb_222, tb_223, tb_224, tb_ru0, tb_ru1, tb_ru2, tb_wi0, tb_wi1, tb_wi2, tb_pi0, tb_pa0, sr1_0, sr1_1, sr1_2, sr1_3, sr1_4, sr1_5, sr1_6, sr1_7, sr1_8, sr1_9, sr5_0, sr47_0, sr47_1, sr50_0, sr50_1, sr50_3, sr50_4, sr56_0, sr56_1, sr59_0, sr61_0, sr184_1, sr184_3, sr184_4, sr184_5, sr184_7, sr184_8, sr184_9, sr184_10, sr184_11, sr184_12, sr184_13, sr184_14, sr184_16, sr184_18, sr184_19, sr184_20, sr184_21, sr184_22, sr184_23, sr184_24, sr184_25, sr184_27, sr184_32, sr184_33, sr184_34, sr184_35, sr184_36, sr184_37, sr184_38, sr184_40, sr184_41, sr184_44, sr184_45, sr184_50, sr184_51, sr184_52, sr184_53, sr184_54, sr184_55, sr184_57, sr2, sr3, sr4, sr6, srru0, srru1, srru2, srwi0, srwi1, srwi2, srpi0, srpa0, Sh_wI, Sh_wL, Sh_wC, if_true, zb_0, zb_1, Option.bind_some, has_wI, has_wL, has_wC, rR_wI, rR_wL, rR_wC, g11, ep, u1]
    · simp only [s_m11_layAll_30, gI, gL, gR, pI, pZ, pL, pR, aI, aR, sI, sR, al, dz, rz, cl, cp, tL, tC, has_sh, hs_1, hs_2, hs_3, hs_4, hs_5, hs_6, hs_47, hs_48, hs_49, hs_50, hs_51, hs_52, hs_54, hs_55, hs_56, hs_57, hs_58, hs_59, hs_60, hs_61, hs_62, hs_63, hs_184, hs_185, hs_186, hs_187, hs_188, hs_189, hs_190, hs_191, hs_192, hs_193, hs_194, hs_195, hs_196, hs_197, hs_198, hs_199, hs_200, hs_201, hs_202, hs_203, hs_204, hs_205, hs_206, hs_207, hs_208, hs_209, hs_210, hs_211, hs_212, hs_213, hs_214, hs_215, hs_216, hs_217, hs_218, hs_219, hs_220, hs_221, hs_222, hs_223, hs_224, hs_ru, hs_ru0, hs_ru1, hs_ru2, hs_wi, hs_wi0, hs_wi1, hs_wi2, hs_pi, hs_pi0, hs_pa, hs_pa0, tb_2, tb_3, tb_4, tb_6, tb_48, tb_49, tb_51, tb_52, tb_54, tb_55, tb_57, tb_58, tb_60, tb_62, tb_63, tb_185, tb_186, tb_187, tb_188, tb_189, tb_190, tb_191, tb_192, tb_193, tb_194, tb_195, tb_196, tb_197, tb_198, tb_199, tb_200, tb_201, tb_202, tb_203, tb_204, tb_205, tb_206, tb_207, tb_208, tb_209, tb_210, tb_211, tb_212, tb_213, tb_214, tb_215, tb_216, tb_217, tb_218, tb_219, tb_220, tb_221, tb_222, tb_223, tb_224, tb_ru0, tb_ru1, tb_ru2, tb_wi0, tb_wi1, tb_wi2, tb_pi0, tb_pa0, sr1_0, sr1_1, sr1_2, sr1_3, sr1_4, sr1_5, sr1_6, sr1_7, sr1_8, sr1_9, sr5_0, sr47_0, sr47_1, sr50_0, sr50_1, sr50_3, sr50_4, sr56_0, sr56_1, sr59_0, sr61_0, sr184_1, sr184_3, sr184_4, sr184_5, sr184_7, sr184_8, sr184_9, sr184_10, sr184_11, sr184_12, sr184_13, sr184_14, sr184_16, sr184_18, sr184_19, sr184_20, sr184_21, sr184_22, sr184_23, sr184_24, sr184_25, sr184_27, sr184_32, sr184_33, sr184_34, sr184_35, sr184_36, sr184_37, sr184_38, sr184_40, sr184_41, sr184_44, sr184_45, sr184_50, sr184_51, sr184_52, sr184_53, sr184_54, sr184_55, sr184_57, sr2, sr3, sr4, sr6, srru0, srru1, srru2, srwi0, srwi1, srwi2, srpi0, srpa0, Sh_wI, Sh_wL, Sh_wC, if_true, zb_0, zb_1, Option.bind_some, has_wI, has_wL, has_wC, rR_wI, rR_wL, rR_wC, g21, u2]
  have tx4 : Tx A0 A4 := tx2.wr w4 (fun k s z => by omega)
  have m7 : ∀ {A5 A' : Mm}, Wr Sj A5 A' → rI A' 50 7 = rI A5 50 7 := fun w => w.2.2 50 7 (by unfold Sj Sall S45 S16; omega)
  have m48 : ∀ {B5 B' : Mm}, Wr (Tj off) B5 B' → rI B' 184 48 = rI B5 184 48 := fun w => w.2.2 184 48 (by unfold Tj Tall T89 T16; omega)
  rcases bo_none (b := L) with ⟨e1, -⟩ | ⟨b, e2, e3⟩
  · rw [if_pos e1] at EA EB
    obtain ⟨A', B', l', u1, u2, u3, u4, u5, u6, u7, u8⟩ := fin A4 B1 0 V4 Y1 bt4 tq4 (by
      have := room_mono (B := B0) (show 9 * s ≤ 9 * s + 1 by omega)
      omega)
    refine ⟨A', B', l', EA.trans u1, EB.trans u2, tx4.wr u3 Sj_o, Y1.wr u4 Tj_o, (wb1.mono (fun k s z => Or.inr z)).tr (u4.mono (fun k s z => Or.inl z)), u5, u6, u7, ?_, u8⟩
    rw [m7 u3, m48 u4, r7, r48]
  · have nm : ¬ bo L = -1 := by
      obtain ⟨hbN, -⟩ := lt_some (eLL.trans e2)
      rw [e3]; exact ne_m1 (by omega)
    rw [if_neg nm, e3] at EA EB
    obtain ⟨hbN, hf⟩ := lt_some (eLL.trans e2)
    unfold fL at hf
    simp only [Bool.and_eq_true, decide_eq_true_eq] at hf
    obtain ⟨hts, hk1⟩ := hf
    have hbs : rI B0 190 b = nI s := by
      unfold thS at hts
      simp only [Bool.and_eq_true, decide_eq_true_eq] at hts
      exact hts.1.2
    have hk2 : ¬ rI B0 189 b = 2 := by rw [hk1]; decide
    obtain ⟨kk, sq, bq, tq, z, -, -, -, -, -, -, -, -, hz, z1, z12, -⟩ := h.pm hbN
    have rm := room_add (B := B0) (a := a) (t := t) (n := off) (j := 0) hP hbN s8 hbs hk2 (Or.inl ⟨hk1, rfl⟩) z12 (by rw [Nat.add_zero]; exact hl)
    have r480 := room_480 (B := B0) (9 * s + 0 + 1)
    obtain ⟨A5, B5, l1, p1, p2, p3, p4, p5, p6, p7⟩ := e_piece h ha hbN hbs hz z12 V4 Y1 bt4 tq4 (by omega)
    obtain ⟨A', B', l', u1, u2, u3, u4, u5, u6, u7, u8⟩ := fin A5 B5 l1 (V4.wr hP p3 Sall_o) (Y1.wr p4 Tall_o) (bt4.wr p3) p7 (by
      rw [Nat.add_zero] at rm
      omega)
    have p3' : Wr Sj A4 A5 := p3.mono (fun _ _ z => Or.inl z)
    have p4' : Wr (Tj off) B1 B5 := p4.mono (fun _ _ z => Or.inl z)
    refine ⟨A', B', l', ?_, ?_, tx4.wr (p3'.tr u3) Sj_o, Y1.wr (p4'.tr u4) Tj_o, (wb1.mono (fun k s z => Or.inr z)).tr ((p4'.tr u4).mono (fun k s z => Or.inl z)), u5, u6, u7, ?_, u8⟩
    · rw [EA, p1]; exact u1
    · rw [EB, p2]; exact u2
    · rw [m7 (p3'.tr u3), m48 (p4'.tr u4), r7, r48]
end JOI
