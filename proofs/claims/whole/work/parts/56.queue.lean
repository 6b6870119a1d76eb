/-! LAYER 2: who waits -/
def fl (B : Mm) (w k : Nat) : Nat := (rI B 208 (40 * w + k)).toNatClampNeg
def Qr (B : Mm) (w k d : Nat) : List Nat := ((List.range' k d).map (fl B w)).filter (fun p => decide (rI B 211 (40 * w + p) = -1))
theorem Qm_r (B : Mm) (w F : Nat) : Qm B w F = Qr B w 0 F := by
  unfold Qm Qr fl
  rw [List.range_eq_range']
theorem Qr_s (B : Mm) (w k d : Nat) : Qr B w k (d + 1) = if rI B 211 (40 * w + fl B w k) = -1 then fl B w k :: Qr B w (k + 1) d else Qr B w (k + 1) d := by
  unfold Qr
  rw [List.range'_succ, List.map_cons, List.filter_cons]
  simp
theorem Qr_app (B : Mm) (w k d e : Nat) : Qr B w k (d + e) = Qr B w k d ++ Qr B w (k + d) e := by
  unfold Qr
  rw [← List.filter_append, ← List.map_append, List.range'_append_1]
theorem Qr_le (B : Mm) (w k d : Nat) : (Qr B w k d).length ≤ d := by
  unfold Qr
  refine Nat.le_trans (List.length_filter_le _ _) ?_
  simp
/-- the place of p in a queue, counted from i, or NONE -/
def pf (p : Nat) : List Nat → Nat → Int32
  | [], _ => -1
  | q :: t, i => if q = p then nI i else pf p t (i + 1)
theorem pf_skip (p : Nat) : ∀ (l t : List Nat) (i : Nat), p ∉ l → pf p (l ++ t) i = pf p t (i + l.length)
  | [], _, _, _ => rfl
  | q :: l, t, i, h => by
    have h1 : ¬ q = p := fun e => h (by rw [e]; exact List.mem_cons_self)
    have h2 : p ∉ l := fun e => h (List.mem_cons_of_mem _ e)
    show (if q = p then nI i else pf p (l ++ t) (i + 1)) = _
    rw [if_neg h1, pf_skip p l t (i + 1) h2, List.length_cons]
    congr 1
    omega
theorem pf_none (p : Nat) : ∀ (l : List Nat) (i : Nat), p ∉ l → pf p l i = -1
  | [], _, _ => rfl
  | q :: l, i, h => by
    have h1 : ¬ q = p := fun e => h (by rw [e]; exact List.mem_cons_self)
    show (if q = p then nI i else pf p l (i + 1)) = _
    rw [if_neg h1]
    exact pf_none p l (i + 1) (fun e => h (List.mem_cons_of_mem _ e))
section QUE
variable {c : Nat} {A B : Mm}
/-- what the model's list of filed pieces holds -/
def Fm (B : Mm) (w F : Nat) : Prop := rI B 207 w = nI F ∧ F ≤ 40 ∧ ∀ k, k < F → ∃ p, p < 40 ∧ rI B 208 (40 * w + k) = nI p ∧ rI B 209 (40 * w + p) = nI k
theorem Fm.fl {B : Mm} {w F : Nat} (h : Fm B w F) {k : Nat} (hk : k < F) : fl B w k < 40 ∧ rI B 208 (40 * w + k) = nI (fl B w k) ∧ rI B 209 (40 * w + fl B w k) = nI k := by
  obtain ⟨p, p1, p2, p3⟩ := h.2.2 k hk
  have e : Jvm.Pilot.CNewsWireLaw_law_r2820_d7cabc.fl B w k = p := by
    unfold Jvm.Pilot.CNewsWireLaw_law_r2820_d7cabc.fl
    rw [p2, nI_clamp (by omega)]
  rw [e]
  exact ⟨p1, p2, p3⟩
theorem e_wait4 (hB : Sh B) {w F : Nat} (hw : w < 6) (hF : Fm B w F) : ∀ d k n x, k + d = F → d < n → s_m11_waiting_4 n 184 (nI w) (nI x) (nI k) B = some (nI (x + (Qr B w k d).length), B)
  | 0, k, n + 1, x, hk, _ => by
    have e : k = F := by omega
    subst e
    have f40 := hF.2.1
    have i1 : inb (nI w) 6 = true := inb_nI hw (by omega)
    have i2 := nI_clamp (show w < 2 ^ 31 by omega)
    simp only [s_m11_waiting_4, gI, gL, gR, pI, pZ, pL, pR, aI, aR, sI, sR, al, dz, rz, cl, cp, tL, tC, has_sh, hs_1, hs_2, hs_3, hs_4, hs_5, hs_6, hs_47, hs_48, hs_49, hs_50, hs_51, hs_52, hs_54, hs_55, hs_56, hs_57, hs_58, hs_59, hs_60, hs_61, hs_62, hs_63, hs_184, hs_185, hs_186, hs_187, hs_188, hs_189, hs_190, hs_191, hs_192, hs_193, hs_194, hs_195, hs_196, hs_197, hs_198, hs_199, hs_200, hs_201, hs_202, hs_203, hs_204, hs_205, hs_206, hs_207, hs_208, hs_209, hs_210, hs_211, hs_212, hs_213, hs_214, hs_215, hs_216, hs_217, hs_218, hs_219, hs_220, hs_221, hs_222, hs_223, hs_224, hs_ru, hs_ru0, hs_ru1, hs_ru2, hs_wi, hs_wi0, hs_wi1, hs_wi2, hs_pi, hs_pi0, hs_pa, hs_pa0, tb_2, tb_3, tb_4, tb_6, tb_48, tb_49, tb_51, tb_52, tb_54, tb_55, tb_57, tb_58, tb_60, tb_62, tb_63, tb_185, tb_186, tb_187, tb_188, tb_189, tb_190, tb_191, tb_192, tb_193, tb_194, tb_195, tb_196, tb_197, tb_198, tb_199, tb_200, tb_201, tb_202, tb_203, tb_204, tb_205, tb_206, tb_207, tb_208, tb_209, tb_210, tb_211, tb_212, tb_213, tb_214, tb_215, tb_216, tb_217, tb_218, tb_219, tb_220, tb_221, tb_222, tb_223, tb_224, tb_ru0, tb_ru1, tb_ru2, tb_wi0, tb_wi1, tb_wi2, tb_pi0, tb_pa0, sr1_0, sr1_1, sr1_2, sr1_3, sr1_4, sr1_5, sr1_6, sr1_7, sr1_8, sr1_9, sr5_0, sr47_0, sr47_1, sr50_0, sr50_1, sr50_3, sr50_4, sr56_0, sr56_1, sr59_0, sr61_0, sr184_1, sr184_3, sr184_4, sr184_5, sr184_7, sr184_8, sr184_9, sr184_10, sr184_11, sr184_12, sr184_13, sr184_14, sr184_16, sr184_18, sr184_19, sr184_20, sr184_21, sr184_22, sr184_23, sr184_24, sr184_25, sr184_27, sr184_32, sr184_33, sr184_34, sr184_35, sr184_36, sr184_37, sr184_38, sr184_40, sr184_41, sr184_44, sr184_45, sr184_50, sr184_51, sr184_52, sr184_53, sr184_54, sr184_55, sr184_57, sr2, sr3, sr4, sr6, srru0, srru1, srru2, srwi0, srwi1, srwi2, srpi0, srpa0, Sh_wI, Sh_wL, Sh_wC, if_true, zb_0, zb_1, Option.bind_some, has_wI, has_wL, has_wC, rR_wI, rR_wL, rR_wC, hB, i1, i2, hF.1, show nI k ≤ nI k from nI_le (Nat.le_refl _) (by omega), Qr, List.range'_zero, List.map_nil, List.filter_nil, List.length_nil, Nat.add_zero]
  | d + 1, k, n + 1, x, hk, hn => by
    have f40 := hF.2.1
    obtain ⟨p1, p2, p3⟩ := hF.fl (show k < F by omega)
    have q : ¬ nI F ≤ nI k := nI_ge (by omega) (by omega)
    have i1 : inb (nI w) 6 = true := inb_nI hw (by omega)
    have i2 := nI_clamp (show w < 2 ^ 31 by omega)
    have j0 : ∀ k, (40 : Int32) * nI w + nI k = nI (40 * w + k) := fun k => by rw [← nI_add, ← pk_mul]; rfl
    have j1 : inb (nI (40 * w + k)) 240 = true := inb_nI (by omega) (by omega)
    have j2 := nI_clamp (show 40 * w + k < 2 ^ 31 by omega)
    have j3 : inb (nI (40 * w + fl B w k)) 240 = true := inb_nI (by omega) (by omega)
    have j4 := nI_clamp (show 40 * w + fl B w k < 2 ^ 31 by omega)
    have IH := fun x => e_wait4 hB hw hF d (k + 1) n x (by omega) (by omega)
    have a0 : ∀ z : Nat, nI z + (0 : Int32) = nI z := fun z => Int32.add_zero _
    rw [Qr_s]
    simp only [s_m11_waiting_4, s_m11_waiting_45, gI, gL, gR, pI, pZ, pL, pR, aI, aR, sI, sR, al, dz, rz, cl, cp, tL, tC, has_sh, hs_1, hs_2, hs_3, hs_4, hs_5, hs_6, hs_47, hs_48, hs_49, hs_50, hs_51, hs_52, hs_54, hs_55, hs_56, hs_57, hs_58, hs_59, hs_60, hs_61, hs_62, hs_63, hs_184, hs_185, hs_186, hs_187, hs_188, hs_189, hs_190, hs_191, hs_192, hs_193, hs_194, hs_195, hs_196, hs_197, hs_198, hs_199, hs_200, hs_201, hs_202, hs_203, hs_204, hs_205, hs_206, hs_207, hs_208, hs_209, hs_210, hs_211, hs_212, hs_213, hs_214, hs_215, hs_216, hs_217, hs_218, hs_219, hs_220, hs_221, hs_222, hs_223, hs_224, hs_ru, hs_ru0, hs_ru1, hs_ru2, hs_wi, hs_wi0, hs_wi1, hs_wi2, hs_pi, hs_pi0, hs_pa, hs_pa0, tb_2, tb_3, tb_4, tb_6, tb_48, tb_49, tb_51, tb_52, tb_54, tb_55, tb_57, tb_58, tb_60, tb_62, tb_63, tb_185, tb_186, tb_187, tb_188, tb_189, tb_190, tb_191, tb_192, tb_193, tb_194, tb_195, tb_196, tb_197, tb_198, tb_199, tb_200, tb_201, tb_202, tb_203, tb_204, tb_205, tb_206, tb_207, tb_208, tb_209, tb_210, tb_211, tb_212, tb_213, tb_214, tb_215, tb_216, tb_217, tb_218, tb_219, tb_220, tb_221, tb_222, tb_223, tb_224, tb_ru0, tb_ru1, tb_ru2, tb_wi0, tb_wi1, tb_wi2, tb_pi0, tb_pa0, sr1_0, sr1_1, sr1_2, sr1_3, sr1_4, sr1_5, sr1_6, sr1_7, sr1_8, sr1_9, sr5_0, sr47_0, sr47_1, sr50_0, sr50_1, sr50_3, sr50_4, sr56_0, sr56_1, sr59_0, sr61_0, sr184_1, sr184_3, sr184_4, sr184_5, sr184_7, sr184_8, sr184_9, sr184_10, sr184_11, sr184_12, sr184_13, sr184_14, sr184_16, sr184_18, sr184_19, sr184_20, sr184_21, sr184_22, sr184_23, sr184_24, sr184_25, sr184_27, sr184_32, sr184_33, sr184_34, sr184_35, sr184_36, sr184_37, sr184_38, sr184_40, sr184_41, sr184_44, sr184_45, sr184_50, sr184_51, sr184_52, sr184_53, sr184_54, sr184_55, sr184_57, sr2, sr3, sr4, sr6, srru0, srru1, srru2, srwi0, srwi1, srwi2, srpi0, srpa0, Sh_wI, Sh_wL, Sh_wC, if_true, zb_0, zb_1, Option.bind_some, has_wI, has_wL, has_wC, rR_wI, rR_wL, rR_wC, hB, i1, i2, hF.1, q, if_false, j0, j1, j2, p2, j3, j4, nI_1, a0, IH]
    by_cases b : rI B 211 (40 * w + fl B w k) = -1
    · simp only [b, not_true_eq_false, if_false, if_true, List.length_cons]
      rw [show x + 1 + (Qr B w (k + 1) d).length = x + ((Qr B w (k + 1) d).length + 1) by omega]
    · simp [b]
theorem e_waiting (hB : Sh B) {w F : Nat} (hw : w < 6) (hF : Fm B w F) : s_m11_waiting 184 (nI w) B = some (nI (Qr B w 0 F).length, B) := by
  have fu : FU = 5000 := rfl
  have f40 := hF.2.1
  have e := e_wait4 hB hw hF F 0 FU 0 (by omega) (by omega)
  rw [nI_0, Nat.zero_add] at e
  simp only [s_m11_waiting, e]
/-- the class's queue -/
theorem e_placeOf2 (hA : Sh A) {w : Nat} (hw : w < 6) (l : List Nat) (hl : l.length ≤ 12) (h3 : rI A (64 + 4 * w) 3 = nI l.length) (h5 : ∀ i, i < l.length → rI A (65 + 4 * w) i = nI (l.getD i 0)) (hm : ∀ q, q ∈ l → q < 40) {p : Nat} (hp : p < 40) : ∀ d k n, k + d = l.length → d < n → s_m9_placeOf_2 n (64 + 4 * w) (nI p) (nI k) A = some (pf p (l.drop k) k, A)
  | 0, k, n + 1, hk, _ => by
    have e : k = l.length := by omega
    subst e
    simp only [s_m9_placeOf_2, gI, gL, gR, pI, pZ, pL, pR, aI, aR, sI, sR, al, dz, rz, cl, cp, tL, tC, has_sh, hs_1, hs_2, hs_3, hs_4, hs_5, hs_6, hs_47, hs_48, hs_49, hs_50, hs_51, hs_52, hs_54, hs_55, hs_56, hs_57, hs_58, hs_59, hs_60, hs_61, hs_62, hs_63, hs_184, hs_185, hs_186, hs_187, hs_188, hs_189, hs_190, hs_191, hs_192, hs_193, hs_194, hs_195, hs_196, hs_197, hs_198, hs_199, hs_200, hs_201, hs_202, hs_203, hs_204, hs_205, hs_206, hs_207, hs_208, hs_209, hs_210, hs_211, hs_212, hs_213, hs_214, hs_215, hs_216, hs_217, hs_218, hs_219, hs_220, hs_221, hs_222, hs_223, hs_224, hs_ru, hs_ru0, hs_ru1, hs_ru2, hs_wi, hs_wi0, hs_wi1, hs_wi2, hs_pi, hs_pi0, hs_pa, hs_pa0, tb_2, tb_3, tb_4, tb_6, tb_48, tb_49, tb_51, tb_52, tb_54, tb_55, tb_57, tb_58, tb_60, tb_62, tb_63, tb_185, tb_186, tb_187, tb_188, tb_189, tb_190, tb_191, tb_192, tb_193, tb_194, tb_195, tb_196, tb_197, tb_198, tb_199, tb_200, tb_201, tb_202, tb_203, tb_204, tb_205, tb_206, tb_207, tb_208, tb_209, tb_210, tb_211, tb_212, tb_213, tb_214, tb_215, tb_216, tb_217, tb_218, tb_219, tb_220, tb_221, tb_222, tb_223, tb_224, tb_ru0, tb_ru1, tb_ru2, tb_wi0, tb_wi1, tb_wi2, tb_pi0, tb_pa0, sr1_0, sr1_1, sr1_2, sr1_3, sr1_4, sr1_5, sr1_6, sr1_7, sr1_8, sr1_9, sr5_0, sr47_0, sr47_1, sr50_0, sr50_1, sr50_3, sr50_4, sr56_0, sr56_1, sr59_0, sr61_0, sr184_1, sr184_3, sr184_4, sr184_5, sr184_7, sr184_8, sr184_9, sr184_10, sr184_11, sr184_12, sr184_13, sr184_14, sr184_16, sr184_18, sr184_19, sr184_20, sr184_21, sr184_22, sr184_23, sr184_24, sr184_25, sr184_27, sr184_32, sr184_33, sr184_34, sr184_35, sr184_36, sr184_37, sr184_38, sr184_40, sr184_41, sr184_44, sr184_45, sr184_50, sr184_51, sr184_52, sr184_53, sr184_54, sr184_55, sr184_57, sr2, sr3, sr4, sr6, srru0, srru1, srru2, srwi0, srwi1, srwi2, srpi0, srpa0, Sh_wI, Sh_wL, Sh_wC, if_true, zb_0, zb_1, Option.bind_some, has_wI, has_wL, has_wC, rR_wI, rR_wL, rR_wC, hA, hw, h3, show nI l.length ≤ nI l.length from nI_le (Nat.le_refl _) (by omega), List.drop_length, pf]
  | d + 1, k, n + 1, hk, hn => by
    have q : ¬ nI l.length ≤ nI k := nI_ge (by omega) (by omega)
    have i1 : inb (nI k) 12 = true := inb_nI (by omega) (by omega)
    have i2 := nI_clamp (show k < 2 ^ 31 by omega)
    have hk2 : k < l.length := by omega
    have e1 : l.drop k = l[k] :: l.drop (k + 1) := List.drop_eq_getElem_cons hk2
    have e2 : l.getD k 0 = l[k] := by simp [List.getD, hk2]
    have IH := e_placeOf2 hA hw l hl h3 h5 hm hp d (k + 1) n (by omega) (by omega)
    have hq := hm l[k] (List.getElem_mem hk2)
    rw [e1]
    simp only [s_m9_placeOf_2, gI, gL, gR, pI, pZ, pL, pR, aI, aR, sI, sR, al, dz, rz, cl, cp, tL, tC, has_sh, hs_1, hs_2, hs_3, hs_4, hs_5, hs_6, hs_47, hs_48, hs_49, hs_50, hs_51, hs_52, hs_54, hs_55, hs_56, hs_57, hs_58, hs_59, hs_60, hs_61, hs_62, hs_63, hs_184, hs_185, hs_186, hs_187, hs_188, hs_189, hs_190, hs_191, hs_192, hs_193, hs_194, hs_195, hs_196, hs_197, hs_198, hs_199, hs_200, hs_201, hs_202, hs_203, hs_204, hs_205, hs_206, hs_207, hs_208, hs_209, hs_210, hs_211, hs_212, hs_213, hs_214, hs_215, hs_216, hs_217, hs_218, hs_219, hs_220, hs_221, hs_222, hs_223, hs_224, hs_ru, hs_ru0, hs_ru1, hs_ru2, hs_wi, hs_wi0, hs_wi1, hs_wi2, hs_pi, hs_pi0, hs_pa, hs_pa0, tb_2, tb_3, tb_4, tb_6, tb_48, tb_49, tb_51, tb_52, tb_54, tb_55, tb_57, tb_58, tb_60, tb_62, tb_63, tb_185, tb_186, tb_187, tb_188, tb_189, tb_190, tb_191, tb_192, tb_193, tb_194, tb_195, tb_196, tb_197, tb_198, tb_199, tb_200, tb_201, tb_202, tb_203, tb_204, tb_205, tb_206, tb_207, tb_208, tb_209, tb_210, tb_211, tb_212, tb_213, tb_214, tb_215, tb_216, tb_217, tb_218, tb_219, tb_220, tb_221, tb_222, tb_223, tb_224, tb_ru0, tb_ru1, tb_ru2, tb_wi0, tb_wi1, tb_wi2, tb_pi0, tb_pa0, sr1_0, sr1_1, sr1_2, sr1_3, sr1_4, sr1_5, sr1_6, sr1_7, sr1_8, sr1_9, sr5_0, sr47_0, sr47_1, sr50_0, sr50_1, sr50_3, sr50_4, sr56_0, sr56_1, sr59_0, sr61_0, sr184_1, sr184_3, sr184_4, sr184_5, sr184_7, sr184_8, sr184_9, sr184_10, sr184_11, sr184_12, sr184_13, sr184_14, sr184_16, sr184_18, sr184_19, sr184_20, sr184_21, sr184_22, sr184_23, sr184_24, sr184_25, sr184_27, sr184_32, sr184_33, sr184_34, sr184_35, sr184_36, sr184_37, sr184_38, sr184_40, sr184_41, sr184_44, sr184_45, sr184_50, sr184_51, sr184_52, sr184_53, sr184_54, sr184_55, sr184_57, sr2, sr3, sr4, sr6, srru0, srru1, srru2, srwi0, srwi1, srwi2, srpi0, srpa0, Sh_wI, Sh_wL, Sh_wC, if_true, zb_0, zb_1, Option.bind_some, has_wI, has_wL, has_wC, rR_wI, rR_wL, rR_wC, hA, hw, h3, q, if_false, i1, i2, h5 k hk2, e2, nI_1, IH, pf]
    by_cases b : l[k] = p
    · simp [b]
    · have b2 : ¬ nI l[k] = nI p := fun e => b ((nI_eq (by omega) (by omega)).1 e)
      simp [b, b2]
end QUE
