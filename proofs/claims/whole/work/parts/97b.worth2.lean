/-! LAYER 2: worth, both loops -/
section WTI
variable {c : Nat} {A B : Mm}
theorem e_wo57 (h0 : Inv c (mg A B)) {w F v N m : Nat} (hw : w < nW B) (hF : Fm B w F) (hm : m = (Qr B w 0 F).length) (m12 : m ≤ 12) (hv : rI B 188 w = nI v) (v9 : v ≤ 9) (hN : N ≤ 1000) : ∀ (d k n : Nat) (A : Mm), k + d = m → d < n → Inv c (mg A B) → rI A (64 + 4 * w) 3 = nI m → (∀ i, i < m → rI A (65 + 4 * w) i = nI ((Qr B w 0 F).getD i 0)) → En A (dp (wf B w (Qr B w 0 F)) (gf B (Qr B w 0 F)) k) →
    ∃ A' e, s_m10_worth_57 n 1 (nI N) (64 + 4 * w) (nI k) A = some (nI (bs (gf B (Qr B w 0 F)) e m), wI A' 1 15 (nI e)) ∧ Wr Scho A A' ∧ Bst (wf B w (Qr B w 0 F)) (gf B (Qr B w 0 F)) m (v * N) (fun _ => True) e := by
  -- what the items are
  have hit : ∀ i, i < m → ∃ z hh r, rI B 193 ((Qr B w 0 F).getD i 0) = nI z ∧ z ≤ 12 ∧ hh < z ∧ rI B 210 (40 * w + (Qr B w 0 F).getD i 0) = nI hh ∧ rho B ((Qr B w 0 F).getD i 0) = nI r ∧ r ≤ 9 ∧ (Qr B w 0 F).getD i 0 < nP B ∧ wf B w (Qr B w 0 F) i = z - hh ∧ gf B (Qr B w 0 F) i = r + 1 := fun i hi => by
    have hlt : i < (Qr B w 0 F).length := by omega
    have eg : (Qr B w 0 F).getD i 0 = (Qr B w 0 F)[i] := by simp [List.getD, hlt]
    have hmem : (Qr B w 0 F).getD i 0 ∈ Qr B w 0 F := by rw [eg]; exact List.getElem_mem hlt
    obtain ⟨z, hh, r, a1, a2, a3, a4, -, a6, a7, a8, a9, a10⟩ := e_item h0 hw hF hmem
    exact ⟨z, hh, r, a1, a2, a3, a4, a6, a7, a8, a9, a10⟩
  have wb : ∀ i, i < m → 1 ≤ wf B w (Qr B w 0 F) i ∧ wf B w (Qr B w 0 F) i ≤ 12 ∧ gf B (Qr B w 0 F) i ≤ 10 := fun i hi => by
    obtain ⟨z, hh, r, a1, a2, a3, a4, a6, a7, a8, a9, a10⟩ := hit i hi
    omega
  intro d
  induction d with
  | zero =>
    intro k n A hk hn h h3 h5 hE
    obtain ⟨n, rfl⟩ : ∃ j, n = j + 1 := ⟨n - 1, by omega⟩
    have hA := h.shA
    have hW := h.wle
    have w6 : w < 6 := by omega
    have fu : FU = 5000 := rfl
    have ek : k = m := by omega
    subst ek
    obtain ⟨⟨-, -, wk3⟩, -⟩ := h.wk hw
    rw [hv] at wk3
    have rm : nI v * nI N = nI (v * N) := pk_mul v N
    have rN : v * N ≤ 9000 := Nat.le_trans (Nat.mul_le_mul v9 hN) (by decide)
    have w1 : Wr Scho A (wI (wI A 56 2 0) 56 3 0) := ((Wr.rf _ _).wI (by unfold Scho; omega)).wI (by unfold Scho; omega)
    have hE1 : En (wI (wI A 56 2 0) 56 3 0) (dp (wf B w (Qr B w 0 F)) (gf B (Qr B w 0 F)) k) := fun u hu => by
      have e57 : rI (wI (wI A 56 2 0) 56 3 0) 57 u = rI A 57 u := by rw [rI_wI, if_neg (by omega), rI_wI, if_neg (by omega)]
      have e58 : rI (wI (wI A 56 2 0) 56 3 0) 58 u = rI A 58 u := by rw [rI_wI, if_neg (by omega), rI_wI, if_neg (by omega)]
      rw [e57, e58]
      exact hE u hu
    obtain ⟨A2, e, u1, u2, u3, u4, u5⟩ := e_pick12 (w := wf B w (Qr B w 0 F)) (g := gf B (Qr B w 0 F)) (room := v * N) m12 rN (fun i hi => (wb i hi).2.1) (fun i hi => (wb i hi).2.2) 145 0 FU (wI (wI A 56 2 0) 56 3 0) 0 (by omega) (by omega) hA hE1 ⟨Nat.pow_pos (by decide), by rw [bs_0]; exact Nat.zero_le _, fun s _ z _ => by
      have z' : bs (wf B w (Qr B w 0 F)) s k < 0 := z
      omega⟩ (Or.inl rfl) (by rw [bs_0, rI_wI, if_neg (by omega)]; simp [rI_wI]; rfl) (by simp [rI_wI]; rfl)
    rw [nI_0] at u1
    have hA2 := u2.sh hA
    have W2 : Wr Scho A A2 := w1.tr (u2.mono (fun k s z => by unfold Scho; omega))
    refine ⟨A2, e, ?_, W2, u3⟩
    have r2 : rI (wI A2 1 15 (nI e)) 56 2 = nI (bs (gf B (Qr B w 0 F)) e k) := by rw [rI_wI, if_neg (by omega)]; exact u4
    simp only [s_m10_worth_57, s_m0_pick, gI, gL, gR, pI, pZ, pL, pR, aI, aR, sI, sR, al, dz, rz, cl, cp, tL, tC, has_sh, hs_1, hs_2, hs_3, hs_4, hs_5, hs_6, hs_47, hs_48, hs_49, hs_50, hs_51, hs_52, hs_54, hs_55, hs_56, hs_57, hs_58, hs_59, hs_60, hs_61, hs_62, hs_63, hs_184, hs_185, hs_186, hs_187, hs_188, hs_189, hs_190, hs_191, hs_192, hs_193, hs_194, hs_195, hs_196, hs_197, hs_198, hs_199, hs_200, hs_201, hs_202, hs_203, hs_204, hs_205, hs_206, hs_207, hs_208, hs_209, hs_210, hs_211, hs_212, hs_213, hs_214, hs_215, hs_216, hs_217, hs_218, hs_219, hs_220, hs_221, hs_222, hs_223, hs_224, hs_ru, hs_ru0, hs_ru1, hs_ru2, hs_wi, hs_wi0, hs_wi1, hs_wi2, hs_pi, hs_pi0, hs_pa, hs_pa0, tb_2, tb_3, tb_4, tb_6, tb_48, tb_49, tb_51, tb_52, tb_54, tb_55, tb_57, tb_58, tb_60, tb_62, tb_63, tb_185, tb_186, tb_187, tb_188, tb_189, tb_190, tb_191, tb_192, tb_193, tb_194, tb_195, tb_196, tb_197, tb_198, tb_199, tb_200, tb_201, tb_202, tb_203, tb_204, tb_205, tb_206, tb_207, tb_208, tb_209, tb_210, tb_211, tb_212, tb_213, tb_214, tb_215, tb_216, tb_217, tb_218, tb_219, tb_220, tb_221, tb_222, tb_223, tb_224, tb_ru0, tb_ru1, tb_ru2, tb_wi0, tb_wi1, tb_wi2, tb_pi0, tb_pa0, sr1_0, sr1_1, sr1_2, sr1_3, sr1_4, sr1_5, sr1_6, sr1_7, sr1_8, sr1_9, sr5_0, sr47_0, sr47_1, sr50_0, sr50_1, sr50_3, sr50_4, sr56_0, sr56_1, sr59_0, sr61_0, sr184_1, sr184_3, sr184_4, sr184_5, sr184_7, sr184_8, sr184_9, sr184_10, sr184_11, sr184_12, sr184_13, sr184_14, sr184_16, sr184_18, sr184_19, sr184_20, sr184_21, sr184_22, sr184_23, sr184_24, sr184_25, sr184_27, sr184_32, sr184_33, sr184_34, sr184_35, sr184_36, sr184_37, sr184_38, sr184_40, sr184_41, sr184_44, sr184_45, sr184_50, sr184_51, sr184_52, sr184_53, sr184_54, sr184_55, sr184_57, sr2, sr3, sr4, sr6, srru0, srru1, srru2, srwi0, srwi1, srwi2, srpi0, srpa0, Sh_wI, Sh_wL, Sh_wC, if_true, zb_0, zb_1, Option.bind_some, has_wI, has_wL, has_wC, rR_wI, rR_wL, rR_wC, hA, hA2, w6, h3, nI_le (Nat.le_refl k) (by omega), wk3, rm, u1, u5, r2]
  | succ d ih =>
    intro k n A hk hn h h3 h5 hE
    obtain ⟨n, rfl⟩ : ∃ j, n = j + 1 := ⟨n - 1, by omega⟩
    have hA := h.shA
    have hW := h.wle
    have hP := h.ple
    have w6 : w < 6 := by omega
    have km : k < m := by omega
    obtain ⟨z, hh, r, a1, a2, a3, a4, a6, a7, a8, a9, a10⟩ := hit k km
    have h5k := h5 k km
    have hlt : k < (Qr B w 0 F).length := by omega
    have eg : (Qr B w 0 F).getD k 0 = (Qr B w 0 F)[k] := by simp [List.getD, hlt]
    have hmem : (Qr B w 0 F).getD k 0 ∈ Qr B w 0 F := by rw [eg]; exact List.getElem_mem hlt
    obtain ⟨-, hh', -, -, -, -, b4, b5, -⟩ := e_item h hw hF hmem
    have b5' : rI A (66 + 4 * w) ((Qr B w 0 F).getD k 0) = nI hh := b5.trans (b4.symm.trans a4)
    have hpk := (h.pk a8).2.2.2.2.1.trans a1
    have er : s_m6_rankOf 5 (88 + 2 * (Qr B w 0 F).getD k 0) (rI B 184 31) A = some (rho B ((Qr B w 0 F).getD k 0), A) := e_rank10 h a8
    rw [a6] at er
    generalize (Qr B w 0 F).getD k 0 = p at *
    have p40 : p < 40 := by omega
    have i1 : inb (nI k) 12 = true := inb_nI (by omega) (by omega)
    have i2 := nI_clamp (show k < 2 ^ 31 by omega)
    have i3 : inb (nI p) 40 = true := inb_nI p40 (by omega)
    have i4 := nI_clamp (show p < 2 ^ 31 by omega)
    have sb : nI z - nI hh = nI (wf B w (Qr B w 0 F) k) := by rw [pk_sub (by omega), a9]
    have gg : nI r + 1 = nI (gf B (Qr B w 0 F) k) := by rw [nI_1, a10]
    have sh1 := one_shl (k := k) (by omega)
    obtain ⟨A1, o1, o2, o3⟩ := e_offer (k := k) (by omega) (wb k km).1 (wb k km).2.1 (fun i hi => (wb i (by omega)).2.2) hA hE
    have hA1 := o2.sh hA
    have h1 : Inv c (mg A1 B) := h.cho o2 (Wr.rf _ _)
    obtain ⟨A', e, u1, u2, u3⟩ := ih (k + 1) n A1 (by omega) (by omega) h1 (by rw [o2.2.2 _ _ (by unfold Scho; omega)]; exact h3) (fun i hi => by rw [o2.2.2 _ _ (by unfold Scho; omega)]; exact h5 i hi) o3
    refine ⟨A', e, ?_, o2.tr u2, u3⟩
    rw [← u1]
    simp only [s_m10_worth_57, gI, gL, gR, pI, pZ, pL, pR, aI, aR, sI, sR, al, dz, rz, cl, cp, tL, tC, has_sh, hs_1, hs_2, hs_3, hs_4, hs_5, hs_6, hs_47, hs_48, hs_49, hs_50, hs_51, hs_52, hs_54, hs_55, hs_56, hs_57, hs_58, hs_59, hs_60, hs_61, hs_62, hs_63, hs_184, hs_185, hs_186, hs_187, hs_188, hs_189, hs_190, hs_191, hs_192, hs_193, hs_194, hs_195, hs_196, hs_197, hs_198, hs_199, hs_200, hs_201, hs_202, hs_203, hs_204, hs_205, hs_206, hs_207, hs_208, hs_209, hs_210, hs_211, hs_212, hs_213, hs_214, hs_215, hs_216, hs_217, hs_218, hs_219, hs_220, hs_221, hs_222, hs_223, hs_224, hs_ru, hs_ru0, hs_ru1, hs_ru2, hs_wi, hs_wi0, hs_wi1, hs_wi2, hs_pi, hs_pi0, hs_pa, hs_pa0, tb_2, tb_3, tb_4, tb_6, tb_48, tb_49, tb_51, tb_52, tb_54, tb_55, tb_57, tb_58, tb_60, tb_62, tb_63, tb_185, tb_186, tb_187, tb_188, tb_189, tb_190, tb_191, tb_192, tb_193, tb_194, tb_195, tb_196, tb_197, tb_198, tb_199, tb_200, tb_201, tb_202, tb_203, tb_204, tb_205, tb_206, tb_207, tb_208, tb_209, tb_210, tb_211, tb_212, tb_213, tb_214, tb_215, tb_216, tb_217, tb_218, tb_219, tb_220, tb_221, tb_222, tb_223, tb_224, tb_ru0, tb_ru1, tb_ru2, tb_wi0, tb_wi1, tb_wi2, tb_pi0, tb_pa0, sr1_0, sr1_1, sr1_2, sr1_3, sr1_4, sr1_5, sr1_6, sr1_7, sr1_8, sr1_9, sr5_0, sr47_0, sr47_1, sr50_0, sr50_1, sr50_3, sr50_4, sr56_0, sr56_1, sr59_0, sr61_0, sr184_1, sr184_3, sr184_4, sr184_5, sr184_7, sr184_8, sr184_9, sr184_10, sr184_11, sr184_12, sr184_13, sr184_14, sr184_16, sr184_18, sr184_19, sr184_20, sr184_21, sr184_22, sr184_23, sr184_24, sr184_25, sr184_27, sr184_32, sr184_33, sr184_34, sr184_35, sr184_36, sr184_37, sr184_38, sr184_40, sr184_41, sr184_44, sr184_45, sr184_50, sr184_51, sr184_52, sr184_53, sr184_54, sr184_55, sr184_57, sr2, sr3, sr4, sr6, srru0, srru1, srru2, srwi0, srwi1, srwi2, srpi0, srpa0, Sh_wI, Sh_wL, Sh_wC, if_true, zb_0, zb_1, Option.bind_some, has_wI, has_wL, has_wC, rR_wI, rR_wL, rR_wC, hA, hA1, w6, h3, nI_ge km (by omega), if_false, i1, i2, h5k, i3, i4, p40, hpk, b5', h.tt, er, sh1, sb, gg, o1, nI_1]
/-- the model's list of what waits -/
theorem e_wo45 (hB0 : Sh B) {w F : Nat} (hw : w < 6) (hF : Fm B w F) (m12 : (Qr B w 0 F).length ≤ 12) (x2 : Int32) : ∀ (d k n : Nat) (B1 : Mm), k + d = F → d < n → Wr (fun k _ => k = 224) B B1 → (∀ j, j < (Qr B w 0 k).length → rI B1 224 j = nI ((Qr B w 0 k).getD j 0)) →
    ∃ B', s_m11_worth_45 n 184 (nI w) x2 (nI (Qr B w 0 k).length) (nI k) B1 = s_m11_worth_118 FU 184 (nI w) x2 (nI (Qr B w 0 F).length) 0 0 0 0 B' ∧ Wr (fun k _ => k = 224) B B' ∧ ∀ j, j < (Qr B w 0 F).length → rI B' 224 j = nI ((Qr B w 0 F).getD j 0)
  | 0, k, n + 1, B1, hk, _, hW, ho => by
    have hB1 := hW.sh hB0
    have i1 : inb (nI w) 6 = true := inb_nI hw (by omega)
    have i2 := nI_clamp (show w < 2 ^ 31 by omega)
    have f40 := hF.2.1
    have e207 := (hW.2.2 207 w (by omega)).trans hF.1
    have e : k = F := by omega
    subst e
    refine ⟨B1, ?_, hW, ho⟩
    simp only [s_m11_worth_45, gI, gL, gR, pI, pZ, pL, pR, aI, aR, sI, sR, al, dz, rz, cl, cp, tL, tC, has_sh, hs_1, hs_2, hs_3, hs_4, hs_5, hs_6, hs_47, hs_48, hs_49, hs_50, hs_51, hs_52, hs_54, hs_55, hs_56, hs_57, hs_58, hs_59, hs_60, hs_61, hs_62, hs_63, hs_184, hs_185, hs_186, hs_187, hs_188, hs_189, hs_190, hs_191, hs_192, hs_193, hs_194, hs_195, hs_196, hs_197, hs_198, hs_199, hs_200, hs_201, hs_202, hs_203, hs_204, hs_205, hs_206, hs_207, hs_208, hs_209, hs_210, hs_211, hs_212, hs_213, hs_214, hs_215, hs_216, hs_217, hs_218, hs_219, hs_220, hs_221, hs_222, hs_223, hs_224, hs_ru, hs_ru0, hs_ru1, hs_ru2, hs_wi, hs_wi0, hs_wi1, hs_wi2, hs_pi, hs_pi0, hs_pa, hs_pa0, tb_2, tb_3, tb_4, tb_6, tb_48, tb_49, tb_51, tb_52, tb_54, tb_55, tb_57, tb_58, tb_60, tb_62, tb_63, tb_185, tb_186, tb_187, tb_188, tb_189, tb_190, tb_191, tb_192, tb_193, tb_194, tb_195, tb_196, tb_197, tb_198, tb_199, tb_200, tb_201, tb_202, tb_203, tb_204, tb_205, tb_206, tb_207, tb_208, tb_209, tb_210, tb_211, tb_212, tb_213, tb_214, tb_215, tb_216, tb_217, tb_218, tb_219, tb_220, tb_221, tb_222, tb_223, tb_224, tb_ru0, tb_ru1, tb_ru2, tb_wi0, tb_wi1, tb_wi2, tb_pi0, tb_pa0, sr1_0, sr1_1, sr1_2, sr1_3, sr1_4, sr1_5, sr1_6, sr1_7, sr1_8, sr1_9, sr5_0, sr47_0, sr47_1, sr50_0, sr50_1, sr50_3, sr50_4, sr56_0, sr56_1, sr59_0, sr61_0, sr184_1, sr184_3, sr184_4, sr184_5, sr184_7, sr184_8, sr184_9, sr184_10, sr184_11, sr184_12, sr184_13, sr184_14, sr184_16, sr184_18, sr184_19, sr184_20, sr184_21, sr184_22, sr184_23, sr184_24, sr184_25, sr184_27, sr184_32, sr184_33, sr184_34, sr184_35, sr184_36, sr184_37, sr184_38, sr184_40, sr184_41, sr184_44, sr184_45, sr184_50, sr184_51, sr184_52, sr184_53, sr184_54, sr184_55, sr184_57, sr2, sr3, sr4, sr6, srru0, srru1, srru2, srwi0, srwi1, srwi2, srpi0, srpa0, Sh_wI, Sh_wL, Sh_wC, if_true, zb_0, zb_1, Option.bind_some, has_wI, has_wL, has_wC, rR_wI, rR_wL, rR_wC, hB1, i1, i2, e207, nI_le (Nat.le_refl k) (by omega)]
  | d + 1, k, n + 1, B1, hk, hn, hW, ho => by
    have hB1 := hW.sh hB0
    have f40 := hF.2.1
    have i1 : inb (nI w) 6 = true := inb_nI hw (by omega)
    have i2 := nI_clamp (show w < 2 ^ 31 by omega)
    have e207 := (hW.2.2 207 w (by omega)).trans hF.1
    obtain ⟨g1, g2, g3⟩ := hF.fl (show k < F by omega)
    have e208 := (hW.2.2 208 (40 * w + k) (by omega)).trans g2
    have e211 := hW.2.2 211 (40 * w + fl B w k) (by omega)
    have eQ1 : Qr B w 0 (k + 1) = Qr B w 0 k ++ (if rI B 211 (40 * w + fl B w k) = -1 then [fl B w k] else []) := by
      rw [Qr_app, Nat.zero_add, Qr_s]
      rfl
    have eQF : (Qr B w 0 (k + 1)).length ≤ (Qr B w 0 F).length := by
      have := Qr_app B w 0 (k + 1) d
      rw [show k + 1 + d = F by omega] at this
      rw [this, List.length_append]
      omega
    generalize fl B w k = p at *
    have j0 : (40 : Int32) * nI w + nI k = nI (40 * w + k) := by rw [show (40 : Int32) = nI 40 from rfl, pk_mul, nI_add]
    have j1 : (40 : Int32) * nI w + nI p = nI (40 * w + p) := by rw [show (40 : Int32) = nI 40 from rfl, pk_mul, nI_add]
    have i3 : inb (nI (40 * w + k)) 240 = true := inb_nI (by omega) (by omega)
    have i4 := nI_clamp (show 40 * w + k < 2 ^ 31 by omega)
    have i5 : inb (nI (40 * w + p)) 240 = true := inb_nI (by omega) (by omega)
    have i6 := nI_clamp (show 40 * w + p < 2 ^ 31 by omega)
    by_cases dn : rI B 211 (40 * w + p) = -1
    · rw [if_pos dn] at eQ1
      have hl : (Qr B w 0 (k + 1)).length = (Qr B w 0 k).length + 1 := by rw [eQ1]; simp
      have i7 : inb (nI (Qr B w 0 k).length) 12 = true := inb_nI (by omega) (by omega)
      have i8 := nI_clamp (show (Qr B w 0 k).length < 2 ^ 31 by omega)
      obtain ⟨B', u1, u2, u3⟩ := e_wo45 hB0 hw hF m12 x2 d (k + 1) n (wI B1 224 (Qr B w 0 k).length (nI p)) (by omega) (by omega) (hW.wI rfl) (fun j hj => by
        rw [hl] at hj
        rw [rI_wI, eQ1]
        by_cases e : j = (Qr B w 0 k).length
        · rw [if_pos ⟨rfl, e⟩, e]
          simp [List.getD]
        · rw [if_neg (by omega), ho j (by omega)]
          simp [List.getD, List.getElem?_append_left (show j < (Qr B w 0 k).length by omega)])
      refine ⟨B', ?_, u2, u3⟩
      rw [← u1, hl]
      simp only [s_m11_worth_45, s_m11_worth_100, gI, gL, gR, pI, pZ, pL, pR, aI, aR, sI, sR, al, dz, rz, cl, cp, tL, tC, has_sh, hs_1, hs_2, hs_3, hs_4, hs_5, hs_6, hs_47, hs_48, hs_49, hs_50, hs_51, hs_52, hs_54, hs_55, hs_56, hs_57, hs_58, hs_59, hs_60, hs_61, hs_62, hs_63, hs_184, hs_185, hs_186, hs_187, hs_188, hs_189, hs_190, hs_191, hs_192, hs_193, hs_194, hs_195, hs_196, hs_197, hs_198, hs_199, hs_200, hs_201, hs_202, hs_203, hs_204, hs_205, hs_206, hs_207, hs_208, hs_209, hs_210, hs_211, hs_212, hs_213, hs_214, hs_215, hs_216, hs_217, hs_218, hs_219, hs_220, hs_221, hs_222, hs_223, hs_224, hs_ru, hs_ru0, hs_ru1, hs_ru2, hs_wi, hs_wi0, hs_wi1, hs_wi2, hs_pi, hs_pi0, hs_pa, hs_pa0, tb_2, tb_3, tb_4, tb_6, tb_48, tb_49, tb_51, tb_52, tb_54, tb_55, tb_57, tb_58, tb_60, tb_62, tb_63, tb_185, tb_186, tb_187, tb_188, tb_189, tb_190, tb_191, tb_192, tb_193, tb_194, tb_195, tb_196, tb_197, tb_198, tb_199, tb_200, tb_201, tb_202, tb_203, tb_204, tb_205, tb_206, tb_207, tb_208, tb_209, tb_210, tb_211, tb_212, tb_213, tb_214, tb_215, tb_216, tb_217, tb_218, tb_219, tb_220, tb_221, tb_222, tb_223, tb_224, tb_ru0, tb_ru1, tb_ru2, tb_wi0, tb_wi1, tb_wi2, tb_pi0, tb_pa0, sr1_0, sr1_1, sr1_2, sr1_3, sr1_4, sr1_5, sr1_6, sr1_7, sr1_8, sr1_9, sr5_0, sr47_0, sr47_1, sr50_0, sr50_1, sr50_3, sr50_4, sr56_0, sr56_1, sr59_0, sr61_0, sr184_1, sr184_3, sr184_4, sr184_5, sr184_7, sr184_8, sr184_9, sr184_10, sr184_11, sr184_12, sr184_13, sr184_14, sr184_16, sr184_18, sr184_19, sr184_20, sr184_21, sr184_22, sr184_23, sr184_24, sr184_25, sr184_27, sr184_32, sr184_33, sr184_34, sr184_35, sr184_36, sr184_37, sr184_38, sr184_40, sr184_41, sr184_44, sr184_45, sr184_50, sr184_51, sr184_52, sr184_53, sr184_54, sr184_55, sr184_57, sr2, sr3, sr4, sr6, srru0, srru1, srru2, srwi0, srwi1, srwi2, srpi0, srpa0, Sh_wI, Sh_wL, Sh_wC, if_true, zb_0, zb_1, Option.bind_some, has_wI, has_wL, has_wC, rR_wI, rR_wL, rR_wC, hB1, i1, i2, e207, nI_ge (show k < F by omega) (by omega), if_false, j0, i3, i4, e208, j1, i5, i6, e211, dn, eq_self, i7, i8, nI_1]
    · rw [if_neg dn, List.append_nil] at eQ1
      obtain ⟨B', u1, u2, u3⟩ := e_wo45 hB0 hw hF m12 x2 d (k + 1) n B1 (by omega) (by omega) hW (by rw [eQ1]; exact ho)
      refine ⟨B', ?_, u2, u3⟩
      rw [← u1, eQ1]
      simp only [s_m11_worth_45, s_m11_worth_100, gI, gL, gR, pI, pZ, pL, pR, aI, aR, sI, sR, al, dz, rz, cl, cp, tL, tC, has_sh, hs_1, hs_2, hs_3, hs_4, hs_5, hs_6, hs_47, hs_48, hs_49, hs_50, hs_51, hs_52, hs_54, hs_55, hs_56, hs_57, hs_58, hs_59, hs_60, hs_61, hs_62, hs_63, hs_184, hs_185, hs_186, hs_187, hs_188, hs_189, hs_190, hs_191, hs_192, hs_193, hs_194, hs_195, hs_196, hs_197, hs_198, hs_199, hs_200, hs_201, hs_202, hs_203, hs_204, hs_205, hs_206, hs_207, hs_208, hs_209, hs_210, hs_211, hs_212, hs_213, hs_214, hs_215, hs_216, hs_217, hs_218, hs_219, hs_220, hs_221, hs_222, hs_223, hs_224, hs_ru, hs_ru0, hs_ru1, hs_ru2, hs_wi, hs_wi0, hs_wi1, hs_wi2, hs_pi, hs_pi0, hs_pa, hs_pa0, tb_2, tb_3, tb_4, tb_6, tb_48, tb_49, tb_51, tb_52, tb_54, tb_55, tb_57, tb_58, tb_60, tb_62, tb_63, tb_185, tb_186, tb_187, tb_188, tb_189, tb_190, tb_191, tb_192, tb_193, tb_194, tb_195, tb_196, tb_197, tb_198, tb_199, tb_200, tb_201, tb_202, tb_203, tb_204, tb_205, tb_206, tb_207, tb_208, tb_209, tb_210, tb_211, tb_212, tb_213, tb_214, tb_215, tb_216, tb_217, tb_218, tb_219, tb_220, tb_221, tb_222, tb_223, tb_224, tb_ru0, tb_ru1, tb_ru2, tb_wi0, tb_wi1, tb_wi2, tb_pi0, tb_pa0, sr1_0, sr1_1, sr1_2, sr1_3, sr1_4, sr1_5, sr1_6, sr1_7, sr1_8, sr1_9, sr5_0, sr47_0, sr47_1, sr50_0, sr50_1, sr50_3, sr50_4, sr56_0, sr56_1, sr59_0, sr61_0, sr184_1, sr184_3, sr184_4, sr184_5, sr184_7, sr184_8, sr184_9, sr184_10, sr184_11, sr184_12, sr184_13, sr184_14, sr184_16, sr184_18, sr184_19, sr184_20, sr184_21, sr184_22, sr184_23, sr184_24, sr184_25, sr184_27, sr184_32, sr184_33, sr184_34, sr184_35, sr184_36, sr184_37, sr184_38, sr184_40, sr184_41, sr184_44, sr184_45, sr184_50, sr184_51, sr184_52, sr184_53, sr184_54, sr184_55, sr184_57, sr2, sr3, sr4, sr6, srru0, srru1, srru2, srwi0, srwi1, srwi2, srpi0, srpa0, Sh_wI, Sh_wL, Sh_wC, if_true, zb_0, zb_1, Option.bind_some, has_wI, has_wL, has_wC, rR_wI, rR_wL, rR_wC, hB1, i1, i2, e207, nI_ge (show k < F by omega) (by omega), if_false, j0, i3, i4, e208, j1, i5, i6, e211, dn, nI_1]
theorem tb_i (s : Nat) {k : Nat} (hs : s < 2 ^ 31) (hk : k < 31) : ((nI s >>> (nI k &&& 31)) &&& (1 : Int32)) = if s.testBit k = true then 1 else 0 := by
  rw [pk_shrN hs (nI k &&& 31) k (shl_c k hk), pk_andN (n := s / 2 ^ k) (by
    have := Nat.div_le_self s (2 ^ k)
    omega) (m := 1) 1 (by decide), Nat.testBit_eq_decide_div_mod_eq]
  have h2 : s / 2 ^ k % 2 ^ 1 = 0 ∨ s / 2 ^ k % 2 ^ 1 = 1 := by omega
  rcases h2 with e | e
  · rw [e]
    rfl
  · rw [e]
    rfl
theorem e_wo135 (h : Inv c (mg A B)) (hB : Sh B) {w F v N m : Nat} (hw : w < nW B) (hF : Fm B w F) (hm : m = (Qr B w 0 F).length) (m12 : m ≤ 12) (hv : rI B 188 w = nI v) (v9 : v ≤ 9) (hN : N ≤ 1000) (ho : ∀ j, j < m → rI B 224 j = nI ((Qr B w 0 F).getD j 0)) (k118 : Nat → Int32 → Int32 → Int32 → Int32 → Int32 → Int32 → Int32 → Mm → Option (Int32 × Mm)) {e b5 b6 s : Nat} (hs : s < 4096) (hb5 : b5 ≤ 200) (hb6 : b6 ≤ 200) : ∀ (d k n : Nat), k + d = m → d < n →
    s_m11_worth_135 k118 n 184 (nI w) (nI N) (nI m) (nI e) (nI b5) (nI b6) (nI s) (nI (bs (gf B (Qr B w 0 F)) s k)) (nI (bs (wf B w (Qr B w 0 F)) s k)) (nI k) B = (if v * N < bs (wf B w (Qr B w 0 F)) s m ∨ bs (gf B (Qr B w 0 F)) s m < b5 ∨ (bs (gf B (Qr B w 0 F)) s m = b5 ∧ b6 ≤ bs (wf B w (Qr B w 0 F)) s m) then k118 184 (nI w) (nI N) (nI m) (nI e) (nI b5) (nI b6) (nI (s + 1)) B else k118 184 (nI w) (nI N) (nI m) (nI s) (nI (bs (gf B (Qr B w 0 F)) s m)) (nI (bs (wf B w (Qr B w 0 F)) s m)) (nI (s + 1)) B) := by
  have hW := h.wle
  have hP := h.ple
  have w6 : w < 6 := by omega
  have i1 : inb (nI w) 6 = true := inb_nI w6 (by omega)
  have i2 := nI_clamp (show w < 2 ^ 31 by omega)
  have hit : ∀ i, i < m → ∃ z hh r, rI B 193 ((Qr B w 0 F).getD i 0) = nI z ∧ z ≤ 12 ∧ hh < z ∧ rI B 210 (40 * w + (Qr B w 0 F).getD i 0) = nI hh ∧ rho B ((Qr B w 0 F).getD i 0) = nI r ∧ r ≤ 9 ∧ (Qr B w 0 F).getD i 0 < nP B ∧ wf B w (Qr B w 0 F) i = z - hh ∧ gf B (Qr B w 0 F) i = r + 1 := fun i hi => by
    have hlt : i < (Qr B w 0 F).length := by omega
    have eg : (Qr B w 0 F).getD i 0 = (Qr B w 0 F)[i] := by simp [List.getD, hlt]
    have hmem : (Qr B w 0 F).getD i 0 ∈ Qr B w 0 F := by rw [eg]; exact List.getElem_mem hlt
    obtain ⟨z, hh, r, a1, a2, a3, a4, -, a6, a7, a8, a9, a10⟩ := e_item h hw hF hmem
    exact ⟨z, hh, r, a1, a2, a3, a4, a6, a7, a8, a9, a10⟩
  have wb : ∀ i, i < m → wf B w (Qr B w 0 F) i ≤ 12 ∧ gf B (Qr B w 0 F) i ≤ 10 := fun i hi => by
    obtain ⟨z, hh, r, a1, a2, a3, a4, a6, a7, a8, a9, a10⟩ := hit i hi
    omega
  intro d
  induction d with
  | zero =>
    intro k n hk hn
    obtain ⟨n, rfl⟩ : ∃ j, n = j + 1 := ⟨n - 1, by omega⟩
    have ek : k = m := by omega
    subst ek
    have rm : nI v * nI N = nI (v * N) := pk_mul v N
    have rN : v * N ≤ 9000 := Nat.le_trans (Nat.mul_le_mul v9 hN) (by decide)
    have lW : bs (wf B w (Qr B w 0 F)) s k ≤ 12 * k := bs_le k (fun i hi => (wb i hi).1)
    have lG : bs (gf B (Qr B w 0 F)) s k ≤ 10 * k := bs_le k (fun i hi => (wb i hi).2)
    generalize bs (wf B w (Qr B w 0 F)) s k = X at *
    generalize bs (gf B (Qr B w 0 F)) s k = Y at *
    have eqY : nI Y = nI b5 ↔ Y = b5 := nI_eq (by omega) (by omega)
    have l0 : nI k ≤ nI k := nI_le (Nat.le_refl k) (by omega)
    by_cases c1 : v * N < X
    · rw [if_pos (Or.inl c1)]
      simp only [s_m11_worth_135, s_m11_worth_262, gI, gL, gR, pI, pZ, pL, pR, aI, aR, sI, sR, al, dz, rz, cl, cp, tL, tC, has_sh, hs_1, hs_2, hs_3, hs_4, hs_5, hs_6, hs_47, hs_48, hs_49, hs_50, hs_51, hs_52, hs_54, hs_55, hs_56, hs_57, hs_58, hs_59, hs_60, hs_61, hs_62, hs_63, hs_184, hs_185, hs_186, hs_187, hs_188, hs_189, hs_190, hs_191, hs_192, hs_193, hs_194, hs_195, hs_196, hs_197, hs_198, hs_199, hs_200, hs_201, hs_202, hs_203, hs_204, hs_205, hs_206, hs_207, hs_208, hs_209, hs_210, hs_211, hs_212, hs_213, hs_214, hs_215, hs_216, hs_217, hs_218, hs_219, hs_220, hs_221, hs_222, hs_223, hs_224, hs_ru, hs_ru0, hs_ru1, hs_ru2, hs_wi, hs_wi0, hs_wi1, hs_wi2, hs_pi, hs_pi0, hs_pa, hs_pa0, tb_2, tb_3, tb_4, tb_6, tb_48, tb_49, tb_51, tb_52, tb_54, tb_55, tb_57, tb_58, tb_60, tb_62, tb_63, tb_185, tb_186, tb_187, tb_188, tb_189, tb_190, tb_191, tb_192, tb_193, tb_194, tb_195, tb_196, tb_197, tb_198, tb_199, tb_200, tb_201, tb_202, tb_203, tb_204, tb_205, tb_206, tb_207, tb_208, tb_209, tb_210, tb_211, tb_212, tb_213, tb_214, tb_215, tb_216, tb_217, tb_218, tb_219, tb_220, tb_221, tb_222, tb_223, tb_224, tb_ru0, tb_ru1, tb_ru2, tb_wi0, tb_wi1, tb_wi2, tb_pi0, tb_pa0, sr1_0, sr1_1, sr1_2, sr1_3, sr1_4, sr1_5, sr1_6, sr1_7, sr1_8, sr1_9, sr5_0, sr47_0, sr47_1, sr50_0, sr50_1, sr50_3, sr50_4, sr56_0, sr56_1, sr59_0, sr61_0, sr184_1, sr184_3, sr184_4, sr184_5, sr184_7, sr184_8, sr184_9, sr184_10, sr184_11, sr184_12, sr184_13, sr184_14, sr184_16, sr184_18, sr184_19, sr184_20, sr184_21, sr184_22, sr184_23, sr184_24, sr184_25, sr184_27, sr184_32, sr184_33, sr184_34, sr184_35, sr184_36, sr184_37, sr184_38, sr184_40, sr184_41, sr184_44, sr184_45, sr184_50, sr184_51, sr184_52, sr184_53, sr184_54, sr184_55, sr184_57, sr2, sr3, sr4, sr6, srru0, srru1, srru2, srwi0, srwi1, srwi2, srpi0, srpa0, Sh_wI, Sh_wL, Sh_wC, if_true, zb_0, zb_1, Option.bind_some, has_wI, has_wL, has_wC, rR_wI, rR_wL, rR_wC, hB, l0, i1, i2, hv, rm, nI_lt c1 (by omega), nI_1]
    · by_cases c2 : Y < b5
      · rw [if_pos (Or.inr (Or.inl c2))]
        simp only [s_m11_worth_135, s_m11_worth_262, gI, gL, gR, pI, pZ, pL, pR, aI, aR, sI, sR, al, dz, rz, cl, cp, tL, tC, has_sh, hs_1, hs_2, hs_3, hs_4, hs_5, hs_6, hs_47, hs_48, hs_49, hs_50, hs_51, hs_52, hs_54, hs_55, hs_56, hs_57, hs_58, hs_59, hs_60, hs_61, hs_62, hs_63, hs_184, hs_185, hs_186, hs_187, hs_188, hs_189, hs_190, hs_191, hs_192, hs_193, hs_194, hs_195, hs_196, hs_197, hs_198, hs_199, hs_200, hs_201, hs_202, hs_203, hs_204, hs_205, hs_206, hs_207, hs_208, hs_209, hs_210, hs_211, hs_212, hs_213, hs_214, hs_215, hs_216, hs_217, hs_218, hs_219, hs_220, hs_221, hs_222, hs_223, hs_224, hs_ru, hs_ru0, hs_ru1, hs_ru2, hs_wi, hs_wi0, hs_wi1, hs_wi2, hs_pi, hs_pi0, hs_pa, hs_pa0, tb_2, tb_3, tb_4, tb_6, tb_48, tb_49, tb_51, tb_52, tb_54, tb_55, tb_57, tb_58, tb_60, tb_62, tb_63, tb_185, tb_186, tb_187, tb_188, tb_189, tb_190, tb_191, tb_192, tb_193, tb_194, tb_195, tb_196, tb_197, tb_198, tb_199, tb_200, tb_201, tb_202, tb_203, tb_204, tb_205, tb_206, tb_207, tb_208, tb_209, tb_210, tb_211, tb_212, tb_213, tb_214, tb_215, tb_216, tb_217, tb_218, tb_219, tb_220, tb_221, tb_222, tb_223, tb_224, tb_ru0, tb_ru1, tb_ru2, tb_wi0, tb_wi1, tb_wi2, tb_pi0, tb_pa0, sr1_0, sr1_1, sr1_2, sr1_3, sr1_4, sr1_5, sr1_6, sr1_7, sr1_8, sr1_9, sr5_0, sr47_0, sr47_1, sr50_0, sr50_1, sr50_3, sr50_4, sr56_0, sr56_1, sr59_0, sr61_0, sr184_1, sr184_3, sr184_4, sr184_5, sr184_7, sr184_8, sr184_9, sr184_10, sr184_11, sr184_12, sr184_13, sr184_14, sr184_16, sr184_18, sr184_19, sr184_20, sr184_21, sr184_22, sr184_23, sr184_24, sr184_25, sr184_27, sr184_32, sr184_33, sr184_34, sr184_35, sr184_36, sr184_37, sr184_38, sr184_40, sr184_41, sr184_44, sr184_45, sr184_50, sr184_51, sr184_52, sr184_53, sr184_54, sr184_55, sr184_57, sr2, sr3, sr4, sr6, srru0, srru1, srru2, srwi0, srwi1, srwi2, srpi0, srpa0, Sh_wI, Sh_wL, Sh_wC, if_true, zb_0, zb_1, Option.bind_some, has_wI, has_wL, has_wC, rR_wI, rR_wL, rR_wC, hB, l0, i1, i2, hv, rm, nI_nlt (show X ≤ v * N by omega) (by omega), if_false, nI_lt c2 (by omega), nI_1]
      · by_cases c3 : Y = b5
        · have c3' : nI Y = nI b5 := by rw [c3]
          by_cases c4 : b6 ≤ X
          · rw [if_pos (Or.inr (Or.inr ⟨c3, c4⟩))]
            simp only [s_m11_worth_135, s_m11_worth_262, s_m11_worth_250, gI, gL, gR, pI, pZ, pL, pR, aI, aR, sI, sR, al, dz, rz, cl, cp, tL, tC, has_sh, hs_1, hs_2, hs_3, hs_4, hs_5, hs_6, hs_47, hs_48, hs_49, hs_50, hs_51, hs_52, hs_54, hs_55, hs_56, hs_57, hs_58, hs_59, hs_60, hs_61, hs_62, hs_63, hs_184, hs_185, hs_186, hs_187, hs_188, hs_189, hs_190, hs_191, hs_192, hs_193, hs_194, hs_195, hs_196, hs_197, hs_198, hs_199, hs_200, hs_201, hs_202, hs_203, hs_204, hs_205, hs_206, hs_207, hs_208, hs_209, hs_210, hs_211, hs_212, hs_213, hs_214, hs_215, hs_216, hs_217, hs_218, hs_219, hs_220, hs_221, hs_222, hs_223, hs_224, hs_ru, hs_ru0, hs_ru1, hs_ru2, hs_wi, hs_wi0, hs_wi1, hs_wi2, hs_pi, hs_pi0, hs_pa, hs_pa0, tb_2, tb_3, tb_4, tb_6, tb_48, tb_49, tb_51, tb_52, tb_54, tb_55, tb_57, tb_58, tb_60, tb_62, tb_63, tb_185, tb_186, tb_187, tb_188, tb_189, tb_190, tb_191, tb_192, tb_193, tb_194, tb_195, tb_196, tb_197, tb_198, tb_199, tb_200, tb_201, tb_202, tb_203, tb_204, tb_205, tb_206, tb_207, tb_208, tb_209, tb_210, tb_211, tb_212, tb_213, tb_214, tb_215, tb_216, tb_217, tb_218, tb_219, tb_220, tb_221, tb_222, tb_223, tb_224, tb_ru0, tb_ru1, tb_ru2, tb_wi0, tb_wi1, tb_wi2, tb_pi0, tb_pa0, sr1_0, sr1_1, sr1_2, sr1_3, sr1_4, sr1_5, sr1_6, sr1_7, sr1_8, sr1_9, sr5_0, sr47_0, sr47_1, sr50_0, sr50_1, sr50_3, sr50_4, sr56_0, sr56_1, sr59_0, sr61_0, sr184_1, sr184_3, sr184_4, sr184_5, sr184_7, sr184_8, sr184_9, sr184_10, sr184_11, sr184_12, sr184_13, sr184_14, sr184_16, sr184_18, sr184_19, sr184_20, sr184_21, sr184_22, sr184_23, sr184_24, sr184_25, sr184_27, sr184_32, sr184_33, sr184_34, sr184_35, sr184_36, sr184_37, sr184_38, sr184_40, sr184_41, sr184_44, sr184_45, sr184_50, sr184_51, sr184_52, sr184_53, sr184_54, sr184_55, sr184_57, sr2, sr3, sr4, sr6, srru0, srru1, srru2, srwi0, srwi1, srwi2, srpi0, srpa0, Sh_wI, Sh_wL, Sh_wC, if_true, zb_0, zb_1, Option.bind_some, has_wI, has_wL, has_wC, rR_wI, rR_wL, rR_wC, hB, l0, i1, i2, hv, rm, nI_nlt (show X ≤ v * N by omega) (by omega), if_false, nI_nlt (show b5 ≤ Y by omega) (by omega), eqY, c3, not_true_eq_false, nI_nlt c4 (by omega), nI_1]
            rw [if_neg (nI_nlt (Nat.le_refl b5) (by omega))]
          · rw [if_neg (by rintro (z | z | ⟨-, z⟩) <;> omega)]
            simp only [s_m11_worth_135, s_m11_worth_262, s_m11_worth_250, gI, gL, gR, pI, pZ, pL, pR, aI, aR, sI, sR, al, dz, rz, cl, cp, tL, tC, has_sh, hs_1, hs_2, hs_3, hs_4, hs_5, hs_6, hs_47, hs_48, hs_49, hs_50, hs_51, hs_52, hs_54, hs_55, hs_56, hs_57, hs_58, hs_59, hs_60, hs_61, hs_62, hs_63, hs_184, hs_185, hs_186, hs_187, hs_188, hs_189, hs_190, hs_191, hs_192, hs_193, hs_194, hs_195, hs_196, hs_197, hs_198, hs_199, hs_200, hs_201, hs_202, hs_203, hs_204, hs_205, hs_206, hs_207, hs_208, hs_209, hs_210, hs_211, hs_212, hs_213, hs_214, hs_215, hs_216, hs_217, hs_218, hs_219, hs_220, hs_221, hs_222, hs_223, hs_224, hs_ru, hs_ru0, hs_ru1, hs_ru2, hs_wi, hs_wi0, hs_wi1, hs_wi2, hs_pi, hs_pi0, hs_pa, hs_pa0, tb_2, tb_3, tb_4, tb_6, tb_48, tb_49, tb_51, tb_52, tb_54, tb_55, tb_57, tb_58, tb_60, tb_62, tb_63, tb_185, tb_186, tb_187, tb_188, tb_189, tb_190, tb_191, tb_192, tb_193, tb_194, tb_195, tb_196, tb_197, tb_198, tb_199, tb_200, tb_201, tb_202, tb_203, tb_204, tb_205, tb_206, tb_207, tb_208, tb_209, tb_210, tb_211, tb_212, tb_213, tb_214, tb_215, tb_216, tb_217, tb_218, tb_219, tb_220, tb_221, tb_222, tb_223, tb_224, tb_ru0, tb_ru1, tb_ru2, tb_wi0, tb_wi1, tb_wi2, tb_pi0, tb_pa0, sr1_0, sr1_1, sr1_2, sr1_3, sr1_4, sr1_5, sr1_6, sr1_7, sr1_8, sr1_9, sr5_0, sr47_0, sr47_1, sr50_0, sr50_1, sr50_3, sr50_4, sr56_0, sr56_1, sr59_0, sr61_0, sr184_1, sr184_3, sr184_4, sr184_5, sr184_7, sr184_8, sr184_9, sr184_10, sr184_11, sr184_12, sr184_13, sr184_14, sr184_16, sr184_18, sr184_19, sr184_20, sr184_21, sr184_22, sr184_23, sr184_24, sr184_25, sr184_27, sr184_32, sr184_33, sr184_34, sr184_35, sr184_36, sr184_37, sr184_38, sr184_40, sr184_41, sr184_44, sr184_45, sr184_50, sr184_51, sr184_52, sr184_53, sr184_54, sr184_55, sr184_57, sr2, sr3, sr4, sr6, srru0, srru1, srru2, srwi0, srwi1, srwi2, srpi0, srpa0, Sh_wI, Sh_wL, Sh_wC, if_true, zb_0, zb_1, Option.bind_some, has_wI, has_wL, has_wC, rR_wI, rR_wL, rR_wC, hB, l0, i1, i2, hv, rm, nI_nlt (show X ≤ v * N by omega) (by omega), if_false, eqY, c3, not_true_eq_false, nI_lt (show X < b6 by omega) (by omega), nI_nlt (Nat.le_refl b5) (show b5 < 2 ^ 31 by omega), nI_1]
        · rw [if_neg (by rintro (z | z | ⟨z, -⟩) <;> omega)]
          simp only [s_m11_worth_135, s_m11_worth_262, s_m11_worth_250, gI, gL, gR, pI, pZ, pL, pR, aI, aR, sI, sR, al, dz, rz, cl, cp, tL, tC, has_sh, hs_1, hs_2, hs_3, hs_4, hs_5, hs_6, hs_47, hs_48, hs_49, hs_50, hs_51, hs_52, hs_54, hs_55, hs_56, hs_57, hs_58, hs_59, hs_60, hs_61, hs_62, hs_63, hs_184, hs_185, hs_186, hs_187, hs_188, hs_189, hs_190, hs_191, hs_192, hs_193, hs_194, hs_195, hs_196, hs_197, hs_198, hs_199, hs_200, hs_201, hs_202, hs_203, hs_204, hs_205, hs_206, hs_207, hs_208, hs_209, hs_210, hs_211, hs_212, hs_213, hs_214, hs_215, hs_216, hs_217, hs_218, hs_219, hs_220, hs_221, hs_222, hs_223, hs_224, hs_ru, hs_ru0, hs_ru1, hs_ru2, hs_wi, hs_wi0, hs_wi1, hs_wi2, hs_pi, hs_pi0, hs_pa, hs_pa0, tb_2, tb_3, tb_4, tb_6, tb_48, tb_49, tb_51, tb_52, tb_54, tb_55, tb_57, tb_58, tb_60, tb_62, tb_63, tb_185, tb_186, tb_187, tb_188, tb_189, tb_190, tb_191, tb_192, tb_193, tb_194, tb_195, tb_196, tb_197, tb_198, tb_199, tb_200, tb_201, tb_202, tb_203, tb_204, tb_205, tb_206, tb_207, tb_208, tb_209, tb_210, tb_211, tb_212, tb_213, tb_214, tb_215, tb_216, tb_217, tb_218, tb_219, tb_220, tb_221, tb_222, tb_223, tb_224, tb_ru0, tb_ru1, tb_ru2, tb_wi0, tb_wi1, tb_wi2, tb_pi0, tb_pa0, sr1_0, sr1_1, sr1_2, sr1_3, sr1_4, sr1_5, sr1_6, sr1_7, sr1_8, sr1_9, sr5_0, sr47_0, sr47_1, sr50_0, sr50_1, sr50_3, sr50_4, sr56_0, sr56_1, sr59_0, sr61_0, sr184_1, sr184_3, sr184_4, sr184_5, sr184_7, sr184_8, sr184_9, sr184_10, sr184_11, sr184_12, sr184_13, sr184_14, sr184_16, sr184_18, sr184_19, sr184_20, sr184_21, sr184_22, sr184_23, sr184_24, sr184_25, sr184_27, sr184_32, sr184_33, sr184_34, sr184_35, sr184_36, sr184_37, sr184_38, sr184_40, sr184_41, sr184_44, sr184_45, sr184_50, sr184_51, sr184_52, sr184_53, sr184_54, sr184_55, sr184_57, sr2, sr3, sr4, sr6, srru0, srru1, srru2, srwi0, srwi1, srwi2, srpi0, srpa0, Sh_wI, Sh_wL, Sh_wC, if_true, zb_0, zb_1, Option.bind_some, has_wI, has_wL, has_wC, rR_wI, rR_wL, rR_wC, hB, l0, i1, i2, hv, rm, nI_nlt (show X ≤ v * N by omega) (by omega), if_false, nI_nlt (show b5 ≤ Y by omega) (by omega), eqY, c3, not_false_eq_true, nI_1]
  | succ d ih =>
    intro k n hk hn
    obtain ⟨n, rfl⟩ : ∃ j, n = j + 1 := ⟨n - 1, by omega⟩
    have km : k < m := by omega
    have IH := ih (k + 1) n (by omega) (by omega)
    have l0 : ¬ nI m ≤ nI k := nI_ge km (by omega)
    have tb := tb_i s (k := k) (by omega) (by omega)
    have eG : bs (gf B (Qr B w 0 F)) s (k + 1) = bs (gf B (Qr B w 0 F)) s k + (if s.testBit k = true then gf B (Qr B w 0 F) k else 0) := rfl
    have eW : bs (wf B w (Qr B w 0 F)) s (k + 1) = bs (wf B w (Qr B w 0 F)) s k + (if s.testBit k = true then wf B w (Qr B w 0 F) k else 0) := rfl
    rw [← IH, eG, eW]
    by_cases cb : s.testBit k = true
    · rw [if_pos cb] at tb
      rw [if_pos cb, if_pos cb]
      obtain ⟨z, hh, r, a1, a2, a3, a4, a6, a7, a8, a9, a10⟩ := hit k km
      have hok := ho k km
      have er : s_m11_rankOf 184 (nI ((Qr B w 0 F).getD k 0)) B = some (rho B ((Qr B w 0 F).getD k 0), B) := e_rank11 h hB a8
      rw [a6] at er
      generalize (Qr B w 0 F).getD k 0 = p at *
      have i3 : inb (nI k) 12 = true := inb_nI (by omega) (by omega)
      have i4 := nI_clamp (show k < 2 ^ 31 by omega)
      have i5 : inb (nI p) 40 = true := inb_nI (by omega) (by omega)
      have i6 := nI_clamp (show p < 2 ^ 31 by omega)
      have j1 : (40 : Int32) * nI w + nI p = nI (40 * w + p) := by rw [show (40 : Int32) = nI 40 from rfl, pk_mul, nI_add]
      have i7 : inb (nI (40 * w + p)) 240 = true := inb_nI (by omega) (by omega)
      have i8 := nI_clamp (show 40 * w + p < 2 ^ 31 by omega)
      have gg : nI (bs (gf B (Qr B w 0 F)) s k) + nI (r + 1) = nI (bs (gf B (Qr B w 0 F)) s k + gf B (Qr B w 0 F) k) := by rw [nI_add, a10]
      have ww : nI (bs (wf B w (Qr B w 0 F)) s k) + (nI z - nI hh) = nI (bs (wf B w (Qr B w 0 F)) s k + wf B w (Qr B w 0 F) k) := by rw [pk_sub (by omega), nI_add, a9]
      simp only [s_m11_worth_135, s_m11_worth_207, gI, gL, gR, pI, pZ, pL, pR, aI, aR, sI, sR, al, dz, rz, cl, cp, tL, tC, has_sh, hs_1, hs_2, hs_3, hs_4, hs_5, hs_6, hs_47, hs_48, hs_49, hs_50, hs_51, hs_52, hs_54, hs_55, hs_56, hs_57, hs_58, hs_59, hs_60, hs_61, hs_62, hs_63, hs_184, hs_185, hs_186, hs_187, hs_188, hs_189, hs_190, hs_191, hs_192, hs_193, hs_194, hs_195, hs_196, hs_197, hs_198, hs_199, hs_200, hs_201, hs_202, hs_203, hs_204, hs_205, hs_206, hs_207, hs_208, hs_209, hs_210, hs_211, hs_212, hs_213, hs_214, hs_215, hs_216, hs_217, hs_218, hs_219, hs_220, hs_221, hs_222, hs_223, hs_224, hs_ru, hs_ru0, hs_ru1, hs_ru2, hs_wi, hs_wi0, hs_wi1, hs_wi2, hs_pi, hs_pi0, hs_pa, hs_pa0, tb_2, tb_3, tb_4, tb_6, tb_48, tb_49, tb_51, tb_52, tb_54, tb_55, tb_57, tb_58, tb_60, tb_62, tb_63, tb_185, tb_186, tb_187, tb_188, tb_189, tb_190, tb_191, tb_192, tb_193, tb_194, tb_195, tb_196, tb_197, tb_198, tb_199, tb_200, tb_201, tb_202, tb_203, tb_204, tb_205, tb_206, tb_207, tb_208, tb_209, tb_210, tb_211, tb_212, tb_213, tb_214, tb_215, tb_216, tb_217, tb_218, tb_219, tb_220, tb_221, tb_222, tb_223, tb_224, tb_ru0, tb_ru1, tb_ru2, tb_wi0, tb_wi1, tb_wi2, tb_pi0, tb_pa0, sr1_0, sr1_1, sr1_2, sr1_3, sr1_4, sr1_5, sr1_6, sr1_7, sr1_8, sr1_9, sr5_0, sr47_0, sr47_1, sr50_0, sr50_1, sr50_3, sr50_4, sr56_0, sr56_1, sr59_0, sr61_0, sr184_1, sr184_3, sr184_4, sr184_5, sr184_7, sr184_8, sr184_9, sr184_10, sr184_11, sr184_12, sr184_13, sr184_14, sr184_16, sr184_18, sr184_19, sr184_20, sr184_21, sr184_22, sr184_23, sr184_24, sr184_25, sr184_27, sr184_32, sr184_33, sr184_34, sr184_35, sr184_36, sr184_37, sr184_38, sr184_40, sr184_41, sr184_44, sr184_45, sr184_50, sr184_51, sr184_52, sr184_53, sr184_54, sr184_55, sr184_57, sr2, sr3, sr4, sr6, srru0, srru1, srru2, srwi0, srwi1, srwi2, srpi0, srpa0, Sh_wI, Sh_wL, Sh_wC, if_true, zb_0, zb_1, Option.bind_some, has_wI, has_wL, has_wC, rR_wI, rR_wL, rR_wC, hB, l0, if_false, tb, ne_1, not_false_eq_true, i3, i4, hok, er, i5, i6, a1, j1, i7, i8, a4, gg, ww, nI_1]
    · rw [if_neg cb] at tb
      rw [if_neg cb, if_neg cb]
      simp only [s_m11_worth_135, s_m11_worth_207, gI, gL, gR, pI, pZ, pL, pR, aI, aR, sI, sR, al, dz, rz, cl, cp, tL, tC, has_sh, hs_1, hs_2, hs_3, hs_4, hs_5, hs_6, hs_47, hs_48, hs_49, hs_50, hs_51, hs_52, hs_54, hs_55, hs_56, hs_57, hs_58, hs_59, hs_60, hs_61, hs_62, hs_63, hs_184, hs_185, hs_186, hs_187, hs_188, hs_189, hs_190, hs_191, hs_192, hs_193, hs_194, hs_195, hs_196, hs_197, hs_198, hs_199, hs_200, hs_201, hs_202, hs_203, hs_204, hs_205, hs_206, hs_207, hs_208, hs_209, hs_210, hs_211, hs_212, hs_213, hs_214, hs_215, hs_216, hs_217, hs_218, hs_219, hs_220, hs_221, hs_222, hs_223, hs_224, hs_ru, hs_ru0, hs_ru1, hs_ru2, hs_wi, hs_wi0, hs_wi1, hs_wi2, hs_pi, hs_pi0, hs_pa, hs_pa0, tb_2, tb_3, tb_4, tb_6, tb_48, tb_49, tb_51, tb_52, tb_54, tb_55, tb_57, tb_58, tb_60, tb_62, tb_63, tb_185, tb_186, tb_187, tb_188, tb_189, tb_190, tb_191, tb_192, tb_193, tb_194, tb_195, tb_196, tb_197, tb_198, tb_199, tb_200, tb_201, tb_202, tb_203, tb_204, tb_205, tb_206, tb_207, tb_208, tb_209, tb_210, tb_211, tb_212, tb_213, tb_214, tb_215, tb_216, tb_217, tb_218, tb_219, tb_220, tb_221, tb_222, tb_223, tb_224, tb_ru0, tb_ru1, tb_ru2, tb_wi0, tb_wi1, tb_wi2, tb_pi0, tb_pa0, sr1_0, sr1_1, sr1_2, sr1_3, sr1_4, sr1_5, sr1_6, sr1_7, sr1_8, sr1_9, sr5_0, sr47_0, sr47_1, sr50_0, sr50_1, sr50_3, sr50_4, sr56_0, sr56_1, sr59_0, sr61_0, sr184_1, sr184_3, sr184_4, sr184_5, sr184_7, sr184_8, sr184_9, sr184_10, sr184_11, sr184_12, sr184_13, sr184_14, sr184_16, sr184_18, sr184_19, sr184_20, sr184_21, sr184_22, sr184_23, sr184_24, sr184_25, sr184_27, sr184_32, sr184_33, sr184_34, sr184_35, sr184_36, sr184_37, sr184_38, sr184_40, sr184_41, sr184_44, sr184_45, sr184_50, sr184_51, sr184_52, sr184_53, sr184_54, sr184_55, sr184_57, sr2, sr3, sr4, sr6, srru0, srru1, srru2, srwi0, srwi1, srwi2, srpi0, srpa0, Sh_wI, Sh_wL, Sh_wC, if_true, zb_0, zb_1, Option.bind_some, has_wI, has_wL, has_wC, rR_wI, rR_wL, rR_wC, hB, l0, if_false, tb, eq_self, not_true_eq_false, nI_1, Nat.add_zero]
theorem e_wo118 (h : Inv c (mg A B)) (hB : Sh B) {w F v N m : Nat} (hw : w < nW B) (hF : Fm B w F) (hm : m = (Qr B w 0 F).length) (m12 : m ≤ 12) (hv : rI B 188 w = nI v) (v9 : v ≤ 9) (hN : N ≤ 1000) (ho : ∀ j, j < m → rI B 224 j = nI ((Qr B w 0 F).getD j 0)) : ∀ (d s n e : Nat), s + d = 2 ^ m → d < n → Bst (wf B w (Qr B w 0 F)) (gf B (Qr B w 0 F)) m (v * N) (fun u => u < s) e → (e = 0 ∨ e < s) →
    ∃ e', s_m11_worth_118 n 184 (nI w) (nI N) (nI m) (nI e) (nI (bs (gf B (Qr B w 0 F)) e m)) (nI (bs (wf B w (Qr B w 0 F)) e m)) (nI s) B = some (nI (bs (gf B (Qr B w 0 F)) e' m), wI B 184 56 (nI e')) ∧ Bst (wf B w (Qr B w 0 F)) (gf B (Qr B w 0 F)) m (v * N) (fun _ => True) e' := by
  have hit : ∀ i, i < m → wf B w (Qr B w 0 F) i ≤ 12 ∧ gf B (Qr B w 0 F) i ≤ 10 := fun i hi => by
    have hlt : i < (Qr B w 0 F).length := by omega
    have eg : (Qr B w 0 F).getD i 0 = (Qr B w 0 F)[i] := by simp [List.getD, hlt]
    have hmem : (Qr B w 0 F).getD i 0 ∈ Qr B w 0 F := by rw [eg]; exact List.getElem_mem hlt
    obtain ⟨z, hh, r, a1, a2, a3, a4, -, a6, a7, a8, a9, a10⟩ := e_item h hw hF hmem
    have b1 : wf B w (Qr B w 0 F) i = z - hh := a9
    have b2 : gf B (Qr B w 0 F) i = r + 1 := a10
    omega
  have p12 : 2 ^ m ≤ 4096 := Nat.pow_le_pow_right (n := 2) (by decide) (show m ≤ 12 from m12)
  have sh1 := one_shl (k := m) (by omega)
  have fu : FU = 5000 := rfl
  intro d
  induction d with
  | zero =>
    intro s n e hs hn hb he
    obtain ⟨n, rfl⟩ : ∃ j, n = j + 1 := ⟨n - 1, by omega⟩
    have es : s = 2 ^ m := by omega
    refine ⟨e, ?_, ⟨hb.1, hb.2.1, fun u hu _ hr => hb.2.2 u hu (by show u < s; omega) hr⟩⟩
    simp only [s_m11_worth_118, gI, gL, gR, pI, pZ, pL, pR, aI, aR, sI, sR, al, dz, rz, cl, cp, tL, tC, has_sh, hs_1, hs_2, hs_3, hs_4, hs_5, hs_6, hs_47, hs_48, hs_49, hs_50, hs_51, hs_52, hs_54, hs_55, hs_56, hs_57, hs_58, hs_59, hs_60, hs_61, hs_62, hs_63, hs_184, hs_185, hs_186, hs_187, hs_188, hs_189, hs_190, hs_191, hs_192, hs_193, hs_194, hs_195, hs_196, hs_197, hs_198, hs_199, hs_200, hs_201, hs_202, hs_203, hs_204, hs_205, hs_206, hs_207, hs_208, hs_209, hs_210, hs_211, hs_212, hs_213, hs_214, hs_215, hs_216, hs_217, hs_218, hs_219, hs_220, hs_221, hs_222, hs_223, hs_224, hs_ru, hs_ru0, hs_ru1, hs_ru2, hs_wi, hs_wi0, hs_wi1, hs_wi2, hs_pi, hs_pi0, hs_pa, hs_pa0, tb_2, tb_3, tb_4, tb_6, tb_48, tb_49, tb_51, tb_52, tb_54, tb_55, tb_57, tb_58, tb_60, tb_62, tb_63, tb_185, tb_186, tb_187, tb_188, tb_189, tb_190, tb_191, tb_192, tb_193, tb_194, tb_195, tb_196, tb_197, tb_198, tb_199, tb_200, tb_201, tb_202, tb_203, tb_204, tb_205, tb_206, tb_207, tb_208, tb_209, tb_210, tb_211, tb_212, tb_213, tb_214, tb_215, tb_216, tb_217, tb_218, tb_219, tb_220, tb_221, tb_222, tb_223, tb_224, tb_ru0, tb_ru1, tb_ru2, tb_wi0, tb_wi1, tb_wi2, tb_pi0, tb_pa0, sr1_0, sr1_1, sr1_2, sr1_3, sr1_4, sr1_5, sr1_6, sr1_7, sr1_8, sr1_9, sr5_0, sr47_0, sr47_1, sr50_0, sr50_1, sr50_3, sr50_4, sr56_0, sr56_1, sr59_0, sr61_0, sr184_1, sr184_3, sr184_4, sr184_5, sr184_7, sr184_8, sr184_9, sr184_10, sr184_11, sr184_12, sr184_13, sr184_14, sr184_16, sr184_18, sr184_19, sr184_20, sr184_21, sr184_22, sr184_23, sr184_24, sr184_25, sr184_27, sr184_32, sr184_33, sr184_34, sr184_35, sr184_36, sr184_37, sr184_38, sr184_40, sr184_41, sr184_44, sr184_45, sr184_50, sr184_51, sr184_52, sr184_53, sr184_54, sr184_55, sr184_57, sr2, sr3, sr4, sr6, srru0, srru1, srru2, srwi0, srwi1, srwi2, srpi0, srpa0, Sh_wI, Sh_wL, Sh_wC, if_true, zb_0, zb_1, Option.bind_some, has_wI, has_wL, has_wC, rR_wI, rR_wL, rR_wC, hB, sh1, es, nI_le (Nat.le_refl (2 ^ m)) (show 2 ^ m < 2 ^ 31 by omega)]
  | succ d ih =>
    intro s n e hs hn hb he
    obtain ⟨n, rfl⟩ : ∃ j, n = j + 1 := ⟨n - 1, by omega⟩
    have l0 : ¬ nI (2 ^ m) ≤ nI s := nI_ge (by omega) (by omega)
    have gb : bs (gf B (Qr B w 0 F)) e m ≤ 10 * m := bs_le m (fun i hi => (hit i hi).2)
    have wb : bs (wf B w (Qr B w 0 F)) e m ≤ 12 * m := bs_le m (fun i hi => (hit i hi).1)
    have Q := e_wo135 h hB hw hF hm m12 hv v9 hN ho (s_m11_worth_118 n) (e := e) (b5 := bs (gf B (Qr B w 0 F)) e m) (b6 := bs (wf B w (Qr B w 0 F)) e m) (s := s) (by omega) (by omega) (by omega) m 0 FU (by omega) (by omega)
    have S := Bst_s hb he (show s < 2 ^ m by omega)
    have E : s_m11_worth_118 (n + 1) 184 (nI w) (nI N) (nI m) (nI e) (nI (bs (gf B (Qr B w 0 F)) e m)) (nI (bs (wf B w (Qr B w 0 F)) e m)) (nI s) B = s_m11_worth_135 (s_m11_worth_118 n) FU 184 (nI w) (nI N) (nI m) (nI e) (nI (bs (gf B (Qr B w 0 F)) e m)) (nI (bs (wf B w (Qr B w 0 F)) e m)) (nI s) (nI (bs (gf B (Qr B w 0 F)) s 0)) (nI (bs (wf B w (Qr B w 0 F)) s 0)) (nI 0) B := by
      show _ = s_m11_worth_135 (s_m11_worth_118 n) FU 184 (nI w) (nI N) (nI m) (nI e) (nI (bs (gf B (Qr B w 0 F)) e m)) (nI (bs (wf B w (Qr B w 0 F)) e m)) (nI s) (nI 0) (nI 0) (nI 0) B
      rw [nI_0]
      simp only [s_m11_worth_118, sh1, l0, if_false]
    rw [E, Q]
    by_cases cc : v * N < bs (wf B w (Qr B w 0 F)) s m ∨ bs (gf B (Qr B w 0 F)) s m < bs (gf B (Qr B w 0 F)) e m ∨ (bs (gf B (Qr B w 0 F)) s m = bs (gf B (Qr B w 0 F)) e m ∧ bs (wf B w (Qr B w 0 F)) e m ≤ bs (wf B w (Qr B w 0 F)) s m)
    · rw [if_pos cc] at S ⊢
      exact ih (s + 1) n e (by omega) (by omega) S (by rcases he with z | z; exact Or.inl z; exact Or.inr (by omega))
    · rw [if_neg cc] at S ⊢
      exact ih (s + 1) n s (by omega) (by omega) S (Or.inr (by omega))
end WTI
