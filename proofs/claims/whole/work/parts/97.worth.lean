/-! LAYER 2: worth, the class (fa_or is of the kit's texts to paste) -/
theorem fa_or (a b : Nat) : nI a ||| nI b = nI (a ||| b) := by
  apply Int32.toBitVec_inj.1
  show BitVec.ofNat 32 a ||| BitVec.ofNat 32 b = BitVec.ofNat 32 (a ||| b)
  apply BitVec.eq_of_getLsbD_eq
  intro i hi
  simp [hi]
theorem or_bit {a k : Nat} (h : a < 2 ^ k) : nI a ||| nI (2 ^ k) = nI (a + 2 ^ k) := by
  rw [fa_or, Nat.or_comm]
  have := Nat.two_pow_add_eq_or_of_lt h 1
  rw [Nat.mul_one] at this
  rw [← this, Nat.add_comm]
theorem shl_c : ∀ k, k < 31 → ((nI k &&& 31 : Int32).toBitVec.smod 32).toNat = k := by decide +kernel
theorem one_shl {k : Nat} (hk : k < 31) : (1 : Int32) <<< (nI k &&& 31) = nI (2 ^ k) := by
  have := pk_shlN (n := 1) (nI k &&& 31) k (shl_c k hk) (by
    rw [Nat.one_mul]
    exact Nat.pow_lt_pow_right (by decide) (by omega))
  rw [Nat.one_mul] at this
  exact this
def wq (B : Mm) (w p : Nat) : Nat := (rI B 193 p).toNatClampNeg - (rI B 210 (40 * w + p)).toNatClampNeg
def gq (B : Mm) (p : Nat) : Nat := (rho B p).toNatClampNeg + 1
def wf (B : Mm) (w : Nat) (Q : List Nat) (j : Nat) : Nat := wq B w (Q.getD j 0)
def gf (B : Mm) (Q : List Nat) (j : Nat) : Nat := gq B (Q.getD j 0)
/-- the class's table shows f -/
def En (A : Mm) (f : Nat → Option (Nat × Nat)) : Prop := ∀ t, t ≤ 144 → (f t = none → rI A 57 t = -1) ∧ ∀ v e, f t = some (v, e) → rI A 57 t = nI v ∧ rI A 58 t = nI e
def Scho (k s : Nat) : Prop := (k = 56 ∧ 2 ≤ s) ∨ k = 57 ∨ k = 58
theorem dp_skip {w g : Nat → Nat} {k t : Nat} (h : t < w k) : dp w g (k + 1) t = dp w g k t := by
  show (match (if w k ≤ t then dp w g k (t - w k) else none) with | none => dp w g k t | some q => _) = _
  rw [if_neg (by omega)]
theorem dp_none {w g : Nat → Nat} {k t : Nat} (h : dp w g k (t - w k) = none) : dp w g (k + 1) t = dp w g k t := by
  show (match (if w k ≤ t then dp w g k (t - w k) else none) with | none => dp w g k t | some q => _) = _
  by_cases c : w k ≤ t
  · rw [if_pos c, h]
  · rw [if_neg c]
theorem dp_some {w g : Nat → Nat} {k t : Nat} {q : Nat × Nat} (c : w k ≤ t) (h : dp w g k (t - w k) = some q) : dp w g (k + 1) t = match dp w g k t with | none => some (q.1 + g k, q.2 + 2 ^ k) | some o => if o.1 < q.1 + g k then some (q.1 + g k, q.2 + 2 ^ k) else some o := by
  show (match (if w k ≤ t then dp w g k (t - w k) else none) with | none => dp w g k t | some q => _) = _
  rw [if_pos c, h]
  rfl
theorem dp_b {w g : Nat → Nat} {k t v e : Nat} (hg : ∀ i, i < k → g i ≤ 10) (h : dp w g k t = some (v, e)) : v ≤ 10 * k ∧ e < 2 ^ k := by
  have D := dp_ok w g k t
  rw [h] at D
  obtain ⟨d1, -, d3, -⟩ := D
  refine ⟨?_, d1⟩
  have := bs_le (s := e) k hg
  have d3' : bs g e k = v := d3
  omega
section WTH
variable {c : Nat} {A B : Mm}
theorem Inv.cho (h : Inv c (mg A B)) {A' B' : Mm} (ha : Wr Scho A A') (hb : Wr (fun k _ => k = 224) B B') : Inv c (mg A' B') := by
  have hM := mg_wr ha hb
  have nt : nTk B' = nTk B := nTk_eq (hb.2.2 184 31 (by omega))
  have ht := h.tle
  refine Inv.down ?_ (show nTk B' ≤ 500 * c by omega)
  refine h.keep (ha.sh h.shA) _ hM (Or.inl ?_) (Or.inl ?_) (Or.inl ?_) (Or.inl ?_) (Or.inl ?_) (Or.inl ?_) (Or.inl ?_) (Or.inl ?_) (Or.inl ?_) (Or.inl ?_) (Or.inl ?_)
  · intro k s; unfold Lcnt Scho; omega
  · intro k s; unfold Lref Scho; omega
  · intro k s; unfold Lwir Scho; omega
  · intro k s; unfold Lpie Scho; omega
  · intro k s; unfold Lrow Scho; omega
  · intro k s; unfold Ltap Scho; omega
  · intro k s; unfold Lrul Scho; omega
  · intro k s; unfold Lgar Scho; omega
  · intro k s; unfold Lsin Scho; omega
  · intro k s; unfold Lfil Scho; omega
  · intro k s; unfold Ledi Scho; omega
theorem e_item (h : Inv c (mg A B)) {w F p : Nat} (hw : w < nW B) (hF : Fm B w F) (hm : p ∈ Qr B w 0 F) : ∃ z hh r, rI B 193 p = nI z ∧ z ≤ 12 ∧ hh < z ∧ rI B 210 (40 * w + p) = nI hh ∧ rI A (66 + 4 * w) p = nI hh ∧ rho B p = nI r ∧ r ≤ 9 ∧ p < nP B ∧ wq B w p = z - hh ∧ gq B p = r + 1 := by
  have hP := h.ple
  obtain ⟨F', f1, f2, f3, f4, -⟩ := h.fk hw
  have eF : F' = F := (nI_eq (by omega) (by have := hF.2.1; omega)).1 (f2.symm.trans hF.1)
  subst eF
  obtain ⟨hd, K, -, hK, hfl⟩ := Qr_mem hm
  rw [Nat.zero_add] at hK
  have hp : p < nP B := by
    obtain ⟨p', q1, q2, -⟩ := f3 K hK
    have : fl B w K = p' := by unfold fl; rw [q2, nI_clamp (by omega)]
    omega
  have h9 := (hF.fl hK).2.2
  rw [← hfl] at h9
  obtain ⟨r, r9, er⟩ := rho_nn h hp
  rcases f4 p hp with ⟨q9, -⟩ | ⟨k, hh, z, k1, k2, k3, k4, k5, k6, k7, k8, k9⟩
  · rw [h9] at q9; exact absurd q9 (ne_m1 (by omega))
  · have hz : hh < z := by
      rcases k9 with q | q
      · exact q.2
      · rw [hd] at q; exact absurd q.1 (by decide)
    refine ⟨z, hh, r, k7, k8, hz, k4, k5, er, r9, hp, ?_, ?_⟩
    · unfold wq; rw [k7, k4, nI_clamp (by omega), nI_clamp (by omega)]
    · unfold gq; rw [er, nI_clamp (by omega)]
theorem e_clear2 : ∀ (d k n : Nat) (A : Mm), k + d = 145 → d < n → Sh A → ∃ A', s_m0_clear_2 n 56 (nI k) A = some ((), A') ∧ Wr Scho A A' ∧ (∀ t, t ≤ 144 → rI A' 57 t = if t = 0 then 0 else if k ≤ t then -1 else rI A 57 t) ∧ ∀ t, t ≤ 144 → rI A' 58 t = if k ≤ t then 0 else rI A 58 t
  | 0, k, n + 1, A, hk, _, hA => by
    have e : k = 145 := by omega
    subst e
    refine ⟨wI A 57 0 0, ?_, (Wr.rf _ _).wI (by unfold Scho; omega), fun t ht => ?_, fun t ht => ?_⟩
    · simp only [s_m0_clear_2, gI, gL, gR, pI, pZ, pL, pR, aI, aR, sI, sR, al, dz, rz, cl, cp, tL, tC, has_sh, hs_1, hs_2, hs_3, hs_4, hs_5, hs_6, hs_47, hs_48, hs_49, hs_50, hs_51, hs_52, hs_54, hs_55, hs_56, hs_57, hs_58, hs_59, hs_60, hs_61, hs_62, hs_63, hs_184, hs_185, hs_186, hs_187, hs_188, hs_189, hs_190, hs_191, hs_192, hs_193, hs_194, hs_195, hs_196, hs_197, hs_198, hs_199, hs_200, hs_201, hs_202, hs_203, hs_204, hs_205, hs_206, hs_207, hs_208, hs_209, hs_210, hs_211, hs_212, hs_213, hs_214, hs_215, hs_216, hs_217, hs_218, hs_219, hs_220, hs_221, hs_222, hs_223, hs_224, hs_ru, hs_ru0, hs_ru1, hs_ru2, hs_wi, hs_wi0, hs_wi1, hs_wi2, hs_pi, hs_pi0, hs_pa, hs_pa0, tb_2, tb_3, tb_4, tb_6, tb_48, tb_49, tb_51, tb_52, tb_54, tb_55, tb_57, tb_58, tb_60, tb_62, tb_63, tb_185, tb_186, tb_187, tb_188, tb_189, tb_190, tb_191, tb_192, tb_193, tb_194, tb_195, tb_196, tb_197, tb_198, tb_199, tb_200, tb_201, tb_202, tb_203, tb_204, tb_205, tb_206, tb_207, tb_208, tb_209, tb_210, tb_211, tb_212, tb_213, tb_214, tb_215, tb_216, tb_217, tb_218, tb_219, tb_220, tb_221, tb_222, tb_223, tb_224, tb_ru0, tb_ru1, tb_ru2, tb_wi0, tb_wi1, tb_wi2, tb_pi0, tb_pa0, sr1_0, sr1_1, sr1_2, sr1_3, sr1_4, sr1_5, sr1_6, sr1_7, sr1_8, sr1_9, sr5_0, sr47_0, sr47_1, sr50_0, sr50_1, sr50_3, sr50_4, sr56_0, sr56_1, sr59_0, sr61_0, sr184_1, sr184_3, sr184_4, sr184_5, sr184_7, sr184_8, sr184_9, sr184_10, sr184_11, sr184_12, sr184_13, sr184_14, sr184_16, sr184_18, sr184_19, sr184_20, sr184_21, sr184_22, sr184_23, sr184_24, sr184_25, sr184_27, sr184_32, sr184_33, sr184_34, sr184_35, sr184_36, sr184_37, sr184_38, sr184_40, sr184_41, sr184_44, sr184_45, sr184_50, sr184_51, sr184_52, sr184_53, sr184_54, sr184_55, sr184_57, sr2, sr3, sr4, sr6, srru0, srru1, srru2, srwi0, srwi1, srwi2, srpi0, srpa0, Sh_wI, Sh_wL, Sh_wC, if_true, zb_0, zb_1, Option.bind_some, has_wI, has_wL, has_wC, rR_wI, rR_wL, rR_wC, hA, show (144 : Int32) < nI 145 from by decide, show inb 0 145 = true from by decide, i0_clamp]
    · rw [rI_wI]
      by_cases e : t = 0
      · rw [if_pos ⟨rfl, e⟩, if_pos e]
      · rw [if_neg (by omega), if_neg e, if_neg (by omega)]
    · rw [rI_wI, if_neg (by omega), if_neg (by omega)]
  | d + 1, k, n + 1, A, hk, hn, hA => by
    have l : ¬ (144 : Int32) < nI k := nI_nlt (a := 144) (by omega) (by omega)
    have i1 : inb (nI k) 145 = true := inb_nI (by omega) (by omega)
    have i2 := nI_clamp (show k < 2 ^ 31 by omega)
    obtain ⟨A', u1, u2, u3, u4⟩ := e_clear2 d (k + 1) n (wI (wI A 57 k (-1)) 58 k 0) (by omega) (by omega) hA
    refine ⟨A', ?_, (((Wr.rf _ _).wI (by unfold Scho; omega)).wI (by unfold Scho; omega)).tr u2, fun t ht => ?_, fun t ht => ?_⟩
    · rw [← u1]
      simp only [s_m0_clear_2, gI, gL, gR, pI, pZ, pL, pR, aI, aR, sI, sR, al, dz, rz, cl, cp, tL, tC, has_sh, hs_1, hs_2, hs_3, hs_4, hs_5, hs_6, hs_47, hs_48, hs_49, hs_50, hs_51, hs_52, hs_54, hs_55, hs_56, hs_57, hs_58, hs_59, hs_60, hs_61, hs_62, hs_63, hs_184, hs_185, hs_186, hs_187, hs_188, hs_189, hs_190, hs_191, hs_192, hs_193, hs_194, hs_195, hs_196, hs_197, hs_198, hs_199, hs_200, hs_201, hs_202, hs_203, hs_204, hs_205, hs_206, hs_207, hs_208, hs_209, hs_210, hs_211, hs_212, hs_213, hs_214, hs_215, hs_216, hs_217, hs_218, hs_219, hs_220, hs_221, hs_222, hs_223, hs_224, hs_ru, hs_ru0, hs_ru1, hs_ru2, hs_wi, hs_wi0, hs_wi1, hs_wi2, hs_pi, hs_pi0, hs_pa, hs_pa0, tb_2, tb_3, tb_4, tb_6, tb_48, tb_49, tb_51, tb_52, tb_54, tb_55, tb_57, tb_58, tb_60, tb_62, tb_63, tb_185, tb_186, tb_187, tb_188, tb_189, tb_190, tb_191, tb_192, tb_193, tb_194, tb_195, tb_196, tb_197, tb_198, tb_199, tb_200, tb_201, tb_202, tb_203, tb_204, tb_205, tb_206, tb_207, tb_208, tb_209, tb_210, tb_211, tb_212, tb_213, tb_214, tb_215, tb_216, tb_217, tb_218, tb_219, tb_220, tb_221, tb_222, tb_223, tb_224, tb_ru0, tb_ru1, tb_ru2, tb_wi0, tb_wi1, tb_wi2, tb_pi0, tb_pa0, sr1_0, sr1_1, sr1_2, sr1_3, sr1_4, sr1_5, sr1_6, sr1_7, sr1_8, sr1_9, sr5_0, sr47_0, sr47_1, sr50_0, sr50_1, sr50_3, sr50_4, sr56_0, sr56_1, sr59_0, sr61_0, sr184_1, sr184_3, sr184_4, sr184_5, sr184_7, sr184_8, sr184_9, sr184_10, sr184_11, sr184_12, sr184_13, sr184_14, sr184_16, sr184_18, sr184_19, sr184_20, sr184_21, sr184_22, sr184_23, sr184_24, sr184_25, sr184_27, sr184_32, sr184_33, sr184_34, sr184_35, sr184_36, sr184_37, sr184_38, sr184_40, sr184_41, sr184_44, sr184_45, sr184_50, sr184_51, sr184_52, sr184_53, sr184_54, sr184_55, sr184_57, sr2, sr3, sr4, sr6, srru0, srru1, srru2, srwi0, srwi1, srwi2, srpi0, srpa0, Sh_wI, Sh_wL, Sh_wC, if_true, zb_0, zb_1, Option.bind_some, has_wI, has_wL, has_wC, rR_wI, rR_wL, rR_wC, hA, l, if_false, i1, i2, nI_1]
    · rw [u3 t ht]
      have r57 : rI (wI (wI A 57 k (-1)) 58 k 0) 57 t = if t = k then -1 else rI A 57 t := by
        rw [rI_wI, if_neg (by omega), rI_wI]
        by_cases e1 : t = k
        · rw [if_pos ⟨rfl, e1⟩, if_pos e1]
        · rw [if_neg (by omega), if_neg e1]
      rw [r57]
      by_cases e0 : t = 0
      · rw [if_pos e0, if_pos e0]
      · rw [if_neg e0, if_neg e0]
        by_cases e1 : t = k
        · rw [if_neg (by omega), if_pos e1, if_pos (by omega)]
        · by_cases e2 : k ≤ t
          · rw [if_pos (by omega), if_pos e2]
          · rw [if_neg (by omega), if_neg e1, if_neg e2]
    · rw [u4 t ht]
      have r58 : rI (wI (wI A 57 k (-1)) 58 k 0) 58 t = if t = k then 0 else rI A 58 t := by
        rw [rI_wI]
        by_cases e1 : t = k
        · rw [if_pos ⟨rfl, e1⟩, if_pos e1]
        · rw [if_neg (by omega), if_neg e1, rI_wI, if_neg (by omega)]
      rw [r58]
      by_cases e1 : t = k
      · rw [if_neg (by omega), if_pos e1, if_pos (by omega)]
      · by_cases e2 : k ≤ t
        · rw [if_pos (by omega), if_pos e2]
        · rw [if_neg (by omega), if_neg e1, if_neg e2]
theorem e_clear (hA : Sh A) (w g : Nat → Nat) : ∃ A', s_m0_clear 56 A = some ((), A') ∧ Wr Scho A A' ∧ En A' (dp w g 0) := by
  obtain ⟨A', u1, u2, u3, u4⟩ := e_clear2 145 0 FU A (by omega) (by have : FU = 5000 := rfl; omega) hA
  rw [nI_0] at u1
  refine ⟨A', u1, u2, fun t ht => ⟨fun z => ?_, fun v e z => ?_⟩⟩
  · have t0 : ¬ t = 0 := fun y => by unfold dp at z; rw [if_pos y] at z; cases z
    rw [u3 t ht, if_neg t0, if_pos (by omega)]
  · unfold dp at z
    by_cases t0 : t = 0
    · rw [if_pos t0] at z
      cases z
      rw [u3 t ht, if_pos t0, u4 t ht, if_pos (by omega)]
      exact ⟨rfl, rfl⟩
    · rw [if_neg t0] at z; cases z
theorem e_off {w g : Nat → Nat} {k : Nat} (hk : k < 12) (hw1 : 1 ≤ w k) (hw12 : w k ≤ 12) (hg : ∀ i, i ≤ k → g i ≤ 10) : ∀ (T n : Nat) (A : Mm), T ≤ 144 → T < n → Sh A → En A (fun t => if t ≤ T then dp w g k t else dp w g (k + 1) t) → ∃ A', s_m0_offer_5 n 56 (nI (2 ^ k)) (nI (w k)) (nI (g k)) (nI T) A = some ((), A') ∧ Wr Scho A A' ∧ En A' (dp w g (k + 1)) := by
  intro T
  induction T with
  | zero =>
    intro n A _ hn hA hE
    obtain ⟨n, rfl⟩ : ∃ j, n = j + 1 := ⟨n - 1, by omega⟩
    refine ⟨A, ?_, Wr.rf _ _, fun t ht => ?_⟩
    · simp only [s_m0_offer_5, nI_lt (show 0 < w k by omega) (by omega), if_true]
    · have e := hE t ht
      dsimp only at e
      by_cases c : t ≤ 0
      · rw [if_pos c] at e
        rw [dp_skip (by omega)]; exact e
      · rw [if_neg c] at e; exact e
  | succ T ih =>
    intro n A hT hn hA hE
    obtain ⟨n, rfl⟩ : ∃ j, n = j + 1 := ⟨n - 1, by omega⟩
    by_cases st : T + 1 < w k
    · refine ⟨A, ?_, Wr.rf _ _, fun t ht => ?_⟩
      · simp only [s_m0_offer_5, nI_lt st (by omega), if_true]
      · have e := hE t ht
        dsimp only at e
        by_cases c : t ≤ T + 1
        · rw [if_pos c] at e
          rw [dp_skip (by omega)]; exact e
        · rw [if_neg c] at e; exact e
    · have nl : ¬ nI (T + 1) < nI (w k) := nI_nlt (by omega) (by omega)
      have sb : nI (T + 1) - nI (w k) = nI (T + 1 - w k) := pk_sub (by omega)
      have i1 : inb (nI (T + 1 - w k)) 145 = true := inb_nI (by omega) (by omega)
      have i2 := nI_clamp (show T + 1 - w k < 2 ^ 31 by omega)
      have i3 : inb (nI (T + 1)) 145 = true := inb_nI (by omega) (by omega)
      have i4 := nI_clamp (show T + 1 < 2 ^ 31 by omega)
      have e1 := hE (T + 1 - w k) (by omega)
      dsimp only at e1
      rw [if_pos (by omega)] at e1
      have e2 := hE (T + 1) hT
      dsimp only at e2
      rw [if_pos (Nat.le_refl _)] at e2
      -- the rest, where nothing is written
      have skip : dp w g (k + 1) (T + 1) = dp w g k (T + 1) → ∃ A', s_m0_offer_5 n 56 (nI (2 ^ k)) (nI (w k)) (nI (g k)) (nI T) A = some ((), A') ∧ Wr Scho A A' ∧ En A' (dp w g (k + 1)) := fun z => by
        refine ih n A (by omega) (by omega) hA (fun t ht => ?_)
        dsimp only
        have e := hE t ht
        dsimp only at e
        by_cases c : t ≤ T
        · rw [if_pos (by omega)] at e; rw [if_pos c]; exact e
        · rw [if_neg c]
          by_cases c2 : t = T + 1
          · rw [if_pos (by omega)] at e
            rw [c2, z]; rw [c2] at e; exact e
          · rw [if_neg (by omega)] at e; exact e
      cases h1 : dp w g k (T + 1 - w k) with
      | none =>
        obtain ⟨A', u1, u2, u3⟩ := skip (dp_none h1)
        refine ⟨A', ?_, u2, u3⟩
        rw [← u1]
        simp only [s_m0_offer_5, s_m0_offer_71, gI, gL, gR, pI, pZ, pL, pR, aI, aR, sI, sR, al, dz, rz, cl, cp, tL, tC, has_sh, hs_1, hs_2, hs_3, hs_4, hs_5, hs_6, hs_47, hs_48, hs_49, hs_50, hs_51, hs_52, hs_54, hs_55, hs_56, hs_57, hs_58, hs_59, hs_60, hs_61, hs_62, hs_63, hs_184, hs_185, hs_186, hs_187, hs_188, hs_189, hs_190, hs_191, hs_192, hs_193, hs_194, hs_195, hs_196, hs_197, hs_198, hs_199, hs_200, hs_201, hs_202, hs_203, hs_204, hs_205, hs_206, hs_207, hs_208, hs_209, hs_210, hs_211, hs_212, hs_213, hs_214, hs_215, hs_216, hs_217, hs_218, hs_219, hs_220, hs_221, hs_222, hs_223, hs_224, hs_ru, hs_ru0, hs_ru1, hs_ru2, hs_wi, hs_wi0, hs_wi1, hs_wi2, hs_pi, hs_pi0, hs_pa, hs_pa0, tb_2, tb_3, tb_4, tb_6, tb_48, tb_49, tb_51, tb_52, tb_54, tb_55, tb_57, tb_58, tb_60, tb_62, tb_63, tb_185, tb_186, tb_187, tb_188, tb_189, tb_190, tb_191, tb_192, tb_193, tb_194, tb_195, tb_196, tb_197, tb_198, tb_199, tb_200, tb_201, tb_202, tb_203, tb_204, tb_205, tb_206, tb_207, tb_208, tb_209, tb_210, tb_211, tb_212, tb_213, tb_214, tb_215, tb_216, tb_217, tb_218, tb_219, tb_220, tb_221, tb_222, tb_223, tb_224, tb_ru0, tb_ru1, tb_ru2, tb_wi0, tb_wi1, tb_wi2, tb_pi0, tb_pa0, sr1_0, sr1_1, sr1_2, sr1_3, sr1_4, sr1_5, sr1_6, sr1_7, sr1_8, sr1_9, sr5_0, sr47_0, sr47_1, sr50_0, sr50_1, sr50_3, sr50_4, sr56_0, sr56_1, sr59_0, sr61_0, sr184_1, sr184_3, sr184_4, sr184_5, sr184_7, sr184_8, sr184_9, sr184_10, sr184_11, sr184_12, sr184_13, sr184_14, sr184_16, sr184_18, sr184_19, sr184_20, sr184_21, sr184_22, sr184_23, sr184_24, sr184_25, sr184_27, sr184_32, sr184_33, sr184_34, sr184_35, sr184_36, sr184_37, sr184_38, sr184_40, sr184_41, sr184_44, sr184_45, sr184_50, sr184_51, sr184_52, sr184_53, sr184_54, sr184_55, sr184_57, sr2, sr3, sr4, sr6, srru0, srru1, srru2, srwi0, srwi1, srwi2, srpi0, srpa0, Sh_wI, Sh_wL, Sh_wC, if_true, zb_0, zb_1, Option.bind_some, has_wI, has_wL, has_wC, rR_wI, rR_wL, rR_wC, hA, nl, if_false, sb, i1, i2, e1.1 h1, eq_self, pk_m1]
      | some q =>
        obtain ⟨qv, qe⟩ := q
        obtain ⟨g1, g2⟩ := e1.2 qv qe h1
        have ds := dp_some (w := w) (g := g) (k := k) (t := T + 1) (by omega) h1
        obtain ⟨b1, b2⟩ := dp_b (fun i hi => hg i (by omega)) h1
        have gk := hg k (Nat.le_refl k)
        have p12 : 2 ^ k < 2 ^ 12 := Nat.pow_lt_pow_right (by decide) hk
        have p12' : (2 : Nat) ^ 12 = 4096 := by decide
        have nm1 : ¬ nI qv = -1 := ne_m1 (by omega)
        have sm : nI qv + nI (g k) = nI (qv + g k) := nI_add _ _
        -- the rest, where the new one is written
        have wrt : dp w g (k + 1) (T + 1) = some (qv + g k, qe + 2 ^ k) → ∃ A', s_m0_offer_5 n 56 (nI (2 ^ k)) (nI (w k)) (nI (g k)) (nI T) (wI (wI A 57 (T + 1) (nI (qv + g k))) 58 (T + 1) (nI (qe + 2 ^ k))) = some ((), A') ∧ Wr Scho (wI (wI A 57 (T + 1) (nI (qv + g k))) 58 (T + 1) (nI (qe + 2 ^ k))) A' ∧ En A' (dp w g (k + 1)) := fun z => by
          refine ih n _ (by omega) (by omega) hA (fun t ht => ?_)
          dsimp only
          have e := hE t ht
          dsimp only at e
          have r57 : rI (wI (wI A 57 (T + 1) (nI (qv + g k))) 58 (T + 1) (nI (qe + 2 ^ k))) 57 t = if t = T + 1 then nI (qv + g k) else rI A 57 t := by
            rw [rI_wI, if_neg (by omega), rI_wI]
            by_cases y : t = T + 1
            · rw [if_pos ⟨rfl, y⟩, if_pos y]
            · rw [if_neg (by omega), if_neg y]
          have r58 : rI (wI (wI A 57 (T + 1) (nI (qv + g k))) 58 (T + 1) (nI (qe + 2 ^ k))) 58 t = if t = T + 1 then nI (qe + 2 ^ k) else rI A 58 t := by
            rw [rI_wI]
            by_cases y : t = T + 1
            · rw [if_pos ⟨rfl, y⟩, if_pos y]
            · rw [if_neg (by omega), if_neg y, rI_wI, if_neg (by omega)]
          rw [r57, r58]
          by_cases c2 : t = T + 1
          · rw [if_pos c2, if_pos c2, if_neg (by omega), c2, z]
            refine ⟨fun y => (by cases y), fun v e' y => ?_⟩
            cases y
            exact ⟨rfl, rfl⟩
          · rw [if_neg c2, if_neg c2]
            by_cases c : t ≤ T
            · rw [if_pos c]; rw [if_pos (by omega)] at e; exact e
            · rw [if_neg c]; rw [if_neg (by omega)] at e; exact e
        have wa : Wr Scho A (wI (wI A 57 (T + 1) (nI (qv + g k))) 58 (T + 1) (nI (qe + 2 ^ k))) := ((Wr.rf _ _).wI (by unfold Scho; omega)).wI (by unfold Scho; omega)
        have r58' : rI (wI A 57 (T + 1) (nI (qv + g k))) 58 (T + 1 - w k) = nI qe := by rw [rI_wI, if_neg (by omega)]; exact g2
        have ob := or_bit b2
        cases h0 : dp w g k (T + 1) with
        | none =>
          rw [h0] at ds
          obtain ⟨A', u1, u2, u3⟩ := wrt ds
          have em := e2.1 h0
          have nle : ¬ nI (qv + g k) ≤ -1 := fun z => by
            rw [Int32.le_iff_toInt_le, nI_toInt (by omega), show (-1 : Int32).toInt = -1 from by decide] at z
            omega
          refine ⟨A', ?_, wa.tr u2, u3⟩
          rw [← u1]
          simp only [s_m0_offer_5, s_m0_offer_71, gI, gL, gR, pI, pZ, pL, pR, aI, aR, sI, sR, al, dz, rz, cl, cp, tL, tC, has_sh, hs_1, hs_2, hs_3, hs_4, hs_5, hs_6, hs_47, hs_48, hs_49, hs_50, hs_51, hs_52, hs_54, hs_55, hs_56, hs_57, hs_58, hs_59, hs_60, hs_61, hs_62, hs_63, hs_184, hs_185, hs_186, hs_187, hs_188, hs_189, hs_190, hs_191, hs_192, hs_193, hs_194, hs_195, hs_196, hs_197, hs_198, hs_199, hs_200, hs_201, hs_202, hs_203, hs_204, hs_205, hs_206, hs_207, hs_208, hs_209, hs_210, hs_211, hs_212, hs_213, hs_214, hs_215, hs_216, hs_217, hs_218, hs_219, hs_220, hs_221, hs_222, hs_223, hs_224, hs_ru, hs_ru0, hs_ru1, hs_ru2, hs_wi, hs_wi0, hs_wi1, hs_wi2, hs_pi, hs_pi0, hs_pa, hs_pa0, tb_2, tb_3, tb_4, tb_6, tb_48, tb_49, tb_51, tb_52, tb_54, tb_55, tb_57, tb_58, tb_60, tb_62, tb_63, tb_185, tb_186, tb_187, tb_188, tb_189, tb_190, tb_191, tb_192, tb_193, tb_194, tb_195, tb_196, tb_197, tb_198, tb_199, tb_200, tb_201, tb_202, tb_203, tb_204, tb_205, tb_206, tb_207, tb_208, tb_209, tb_210, tb_211, tb_212, tb_213, tb_214, tb_215, tb_216, tb_217, tb_218, tb_219, tb_220, tb_221, tb_222, tb_223, tb_224, tb_ru0, tb_ru1, tb_ru2, tb_wi0, tb_wi1, tb_wi2, tb_pi0, tb_pa0, sr1_0, sr1_1, sr1_2, sr1_3, sr1_4, sr1_5, sr1_6, sr1_7, sr1_8, sr1_9, sr5_0, sr47_0, sr47_1, sr50_0, sr50_1, sr50_3, sr50_4, sr56_0, sr56_1, sr59_0, sr61_0, sr184_1, sr184_3, sr184_4, sr184_5, sr184_7, sr184_8, sr184_9, sr184_10, sr184_11, sr184_12, sr184_13, sr184_14, sr184_16, sr184_18, sr184_19, sr184_20, sr184_21, sr184_22, sr184_23, sr184_24, sr184_25, sr184_27, sr184_32, sr184_33, sr184_34, sr184_35, sr184_36, sr184_37, sr184_38, sr184_40, sr184_41, sr184_44, sr184_45, sr184_50, sr184_51, sr184_52, sr184_53, sr184_54, sr184_55, sr184_57, sr2, sr3, sr4, sr6, srru0, srru1, srru2, srwi0, srwi1, srwi2, srpi0, srpa0, Sh_wI, Sh_wL, Sh_wC, if_true, zb_0, zb_1, Option.bind_some, has_wI, has_wL, has_wC, rR_wI, rR_wL, rR_wC, hA, nl, if_false, sb, i1, i2, i3, i4, g1, nm1, em, sm, nle, r58', ob, pk_m1]
        | some o =>
          obtain ⟨ov, oe⟩ := o
          rw [h0] at ds
          obtain ⟨o1, o2⟩ := e2.2 ov oe h0
          obtain ⟨ob1, ob2⟩ := dp_b (fun i hi => hg i (by omega)) h0
          by_cases cc : ov < qv + g k
          · have ds' : dp w g (k + 1) (T + 1) = some (qv + g k, qe + 2 ^ k) := by
              rw [ds]
              show (if ov < qv + g k then _ else _) = _
              rw [if_pos cc]
            obtain ⟨A', u1, u2, u3⟩ := wrt ds'
            have nle : ¬ nI (qv + g k) ≤ nI ov := nI_ge cc (by omega)
            refine ⟨A', ?_, wa.tr u2, u3⟩
            rw [← u1]
            simp only [s_m0_offer_5, s_m0_offer_71, gI, gL, gR, pI, pZ, pL, pR, aI, aR, sI, sR, al, dz, rz, cl, cp, tL, tC, has_sh, hs_1, hs_2, hs_3, hs_4, hs_5, hs_6, hs_47, hs_48, hs_49, hs_50, hs_51, hs_52, hs_54, hs_55, hs_56, hs_57, hs_58, hs_59, hs_60, hs_61, hs_62, hs_63, hs_184, hs_185, hs_186, hs_187, hs_188, hs_189, hs_190, hs_191, hs_192, hs_193, hs_194, hs_195, hs_196, hs_197, hs_198, hs_199, hs_200, hs_201, hs_202, hs_203, hs_204, hs_205, hs_206, hs_207, hs_208, hs_209, hs_210, hs_211, hs_212, hs_213, hs_214, hs_215, hs_216, hs_217, hs_218, hs_219, hs_220, hs_221, hs_222, hs_223, hs_224, hs_ru, hs_ru0, hs_ru1, hs_ru2, hs_wi, hs_wi0, hs_wi1, hs_wi2, hs_pi, hs_pi0, hs_pa, hs_pa0, tb_2, tb_3, tb_4, tb_6, tb_48, tb_49, tb_51, tb_52, tb_54, tb_55, tb_57, tb_58, tb_60, tb_62, tb_63, tb_185, tb_186, tb_187, tb_188, tb_189, tb_190, tb_191, tb_192, tb_193, tb_194, tb_195, tb_196, tb_197, tb_198, tb_199, tb_200, tb_201, tb_202, tb_203, tb_204, tb_205, tb_206, tb_207, tb_208, tb_209, tb_210, tb_211, tb_212, tb_213, tb_214, tb_215, tb_216, tb_217, tb_218, tb_219, tb_220, tb_221, tb_222, tb_223, tb_224, tb_ru0, tb_ru1, tb_ru2, tb_wi0, tb_wi1, tb_wi2, tb_pi0, tb_pa0, sr1_0, sr1_1, sr1_2, sr1_3, sr1_4, sr1_5, sr1_6, sr1_7, sr1_8, sr1_9, sr5_0, sr47_0, sr47_1, sr50_0, sr50_1, sr50_3, sr50_4, sr56_0, sr56_1, sr59_0, sr61_0, sr184_1, sr184_3, sr184_4, sr184_5, sr184_7, sr184_8, sr184_9, sr184_10, sr184_11, sr184_12, sr184_13, sr184_14, sr184_16, sr184_18, sr184_19, sr184_20, sr184_21, sr184_22, sr184_23, sr184_24, sr184_25, sr184_27, sr184_32, sr184_33, sr184_34, sr184_35, sr184_36, sr184_37, sr184_38, sr184_40, sr184_41, sr184_44, sr184_45, sr184_50, sr184_51, sr184_52, sr184_53, sr184_54, sr184_55, sr184_57, sr2, sr3, sr4, sr6, srru0, srru1, srru2, srwi0, srwi1, srwi2, srpi0, srpa0, Sh_wI, Sh_wL, Sh_wC, if_true, zb_0, zb_1, Option.bind_some, has_wI, has_wL, has_wC, rR_wI, rR_wL, rR_wC, hA, nl, if_false, sb, i1, i2, i3, i4, g1, nm1, o1, sm, nle, r58', ob, pk_m1]
          · have ds' : dp w g (k + 1) (T + 1) = dp w g k (T + 1) := by
              rw [ds, h0]
              show (if ov < qv + g k then _ else _) = _
              rw [if_neg cc]
            obtain ⟨A', u1, u2, u3⟩ := skip ds'
            have le : nI (qv + g k) ≤ nI ov := nI_le (by omega) (by omega)
            refine ⟨A', ?_, u2, u3⟩
            rw [← u1]
            simp only [s_m0_offer_5, s_m0_offer_71, gI, gL, gR, pI, pZ, pL, pR, aI, aR, sI, sR, al, dz, rz, cl, cp, tL, tC, has_sh, hs_1, hs_2, hs_3, hs_4, hs_5, hs_6, hs_47, hs_48, hs_49, hs_50, hs_51, hs_52, hs_54, hs_55, hs_56, hs_57, hs_58, hs_59, hs_60, hs_61, hs_62, hs_63, hs_184, hs_185, hs_186, hs_187, hs_188, hs_189, hs_190, hs_191, hs_192, hs_193, hs_194, hs_195, hs_196, hs_197, hs_198, hs_199, hs_200, hs_201, hs_202, hs_203, hs_204, hs_205, hs_206, hs_207, hs_208, hs_209, hs_210, hs_211, hs_212, hs_213, hs_214, hs_215, hs_216, hs_217, hs_218, hs_219, hs_220, hs_221, hs_222, hs_223, hs_224, hs_ru, hs_ru0, hs_ru1, hs_ru2, hs_wi, hs_wi0, hs_wi1, hs_wi2, hs_pi, hs_pi0, hs_pa, hs_pa0, tb_2, tb_3, tb_4, tb_6, tb_48, tb_49, tb_51, tb_52, tb_54, tb_55, tb_57, tb_58, tb_60, tb_62, tb_63, tb_185, tb_186, tb_187, tb_188, tb_189, tb_190, tb_191, tb_192, tb_193, tb_194, tb_195, tb_196, tb_197, tb_198, tb_199, tb_200, tb_201, tb_202, tb_203, tb_204, tb_205, tb_206, tb_207, tb_208, tb_209, tb_210, tb_211, tb_212, tb_213, tb_214, tb_215, tb_216, tb_217, tb_218, tb_219, tb_220, tb_221, tb_222, tb_223, tb_224, tb_ru0, tb_ru1, tb_ru2, tb_wi0, tb_wi1, tb_wi2, tb_pi0, tb_pa0, sr1_0, sr1_1, sr1_2, sr1_3, sr1_4, sr1_5, sr1_6, sr1_7, sr1_8, sr1_9, sr5_0, sr47_0, sr47_1, sr50_0, sr50_1, sr50_3, sr50_4, sr56_0, sr56_1, sr59_0, sr61_0, sr184_1, sr184_3, sr184_4, sr184_5, sr184_7, sr184_8, sr184_9, sr184_10, sr184_11, sr184_12, sr184_13, sr184_14, sr184_16, sr184_18, sr184_19, sr184_20, sr184_21, sr184_22, sr184_23, sr184_24, sr184_25, sr184_27, sr184_32, sr184_33, sr184_34, sr184_35, sr184_36, sr184_37, sr184_38, sr184_40, sr184_41, sr184_44, sr184_45, sr184_50, sr184_51, sr184_52, sr184_53, sr184_54, sr184_55, sr184_57, sr2, sr3, sr4, sr6, srru0, srru1, srru2, srwi0, srwi1, srwi2, srpi0, srpa0, Sh_wI, Sh_wL, Sh_wC, if_true, zb_0, zb_1, Option.bind_some, has_wI, has_wL, has_wC, rR_wI, rR_wL, rR_wC, hA, nl, if_false, sb, i1, i2, i3, i4, g1, nm1, o1, sm, le, pk_m1]
theorem e_offer {w g : Nat → Nat} {k : Nat} (hk : k < 12) (hw1 : 1 ≤ w k) (hw12 : w k ≤ 12) (hg : ∀ i, i ≤ k → g i ≤ 10) (hA : Sh A) (hE : En A (dp w g k)) : ∃ A', s_m0_offer 56 (nI (2 ^ k)) (nI (w k)) (nI (g k)) A = some ((), A') ∧ Wr Scho A A' ∧ En A' (dp w g (k + 1)) := by
  obtain ⟨A', u1, u2, u3⟩ := e_off hk hw1 hw12 hg 144 FU A (by omega) (by have : FU = 5000 := rfl; omega) hA (fun t ht => by dsimp only; rw [if_pos ht]; exact hE t ht)
  exact ⟨A', u1, u2, u3⟩
theorem e_pick12 {w g : Nat → Nat} {m room : Nat} (hm : m ≤ 12) (hr : room ≤ 9000) (hw : ∀ i, i < m → w i ≤ 12) (hg : ∀ i, i < m → g i ≤ 10) : ∀ (d t n : Nat) (A : Mm) (e : Nat), t + d = 145 → d < n → Sh A → En A (dp w g m) → Bst w g m room (fun s => bs w s m < t) e → (e = 0 ∨ bs w e m < t) → rI A 56 2 = nI (bs g e m) → rI A 56 3 = nI e →
    ∃ A' e', s_m0_pick_12 n 56 (nI room) (nI t) A = some ((), A') ∧ Wr (fun k s => k = 56 ∧ 2 ≤ s) A A' ∧ Bst w g m room (fun _ => True) e' ∧ rI A' 56 2 = nI (bs g e' m) ∧ rI A' 56 3 = nI e'
  | 0, t, n + 1, A, e, ht, _, hA, hE, hb, he, h2, h3 => by
    have e145 : t = 145 := by omega
    subst e145
    refine ⟨A, e, ?_, Wr.rf _ _, ⟨hb.1, hb.2.1, fun s hs _ hr' => hb.2.2 s hs (by
      have := bs_le (s := s) m hw
      show bs w s m < 145
      have : 12 * m ≤ 144 := by omega
      omega) hr'⟩, h2, h3⟩
    simp only [s_m0_pick_12, s_m0_pick_63, show (144 : Int32) < nI 145 from by decide, if_true]
  | d + 1, t, n + 1, A, e, ht, hn, hA, hE, hb, he, h2, h3 => by
    have l1 : ¬ (144 : Int32) < nI t := nI_nlt (a := 144) (by omega) (by omega)
    by_cases c : room < t
    · refine ⟨A, e, ?_, Wr.rf _ _, ⟨hb.1, hb.2.1, fun s hs _ hr' => hb.2.2 s hs (by show bs w s m < t; omega) hr'⟩, h2, h3⟩
      simp only [s_m0_pick_12, s_m0_pick_63, l1, if_false, nI_lt c (by omega), if_true]
    · have l2 : ¬ nI room < nI t := nI_nlt (by omega) (by omega)
      have i1 : inb (nI t) 145 = true := inb_nI (by omega) (by omega)
      have i2 := nI_clamp (show t < 2 ^ 31 by omega)
      have B := Bst_t hb he (show t ≤ room by omega)
      have E := hE t (by omega)
      have gb : bs g e m ≤ 10 * m := bs_le m hg
      cases hx : dp w g m t with
      | none =>
        rw [hx] at B
        have em := E.1 hx
        obtain ⟨A', e', u1, u2, u3⟩ := e_pick12 hm hr hw hg d (t + 1) n A e (by omega) (by omega) hA hE B (by rcases he with z | z; exact Or.inl z; exact Or.inr (by omega)) h2 h3
        have le : (-1 : Int32) ≤ nI (bs g e m) := by
          rw [Int32.le_iff_toInt_le, nI_toInt (by omega), show (-1 : Int32).toInt = -1 from by decide]
          omega
        refine ⟨A', e', ?_, u2, u3⟩
        rw [← u1]
        simp only [s_m0_pick_12, s_m0_pick_57, gI, gL, gR, pI, pZ, pL, pR, aI, aR, sI, sR, al, dz, rz, cl, cp, tL, tC, has_sh, hs_1, hs_2, hs_3, hs_4, hs_5, hs_6, hs_47, hs_48, hs_49, hs_50, hs_51, hs_52, hs_54, hs_55, hs_56, hs_57, hs_58, hs_59, hs_60, hs_61, hs_62, hs_63, hs_184, hs_185, hs_186, hs_187, hs_188, hs_189, hs_190, hs_191, hs_192, hs_193, hs_194, hs_195, hs_196, hs_197, hs_198, hs_199, hs_200, hs_201, hs_202, hs_203, hs_204, hs_205, hs_206, hs_207, hs_208, hs_209, hs_210, hs_211, hs_212, hs_213, hs_214, hs_215, hs_216, hs_217, hs_218, hs_219, hs_220, hs_221, hs_222, hs_223, hs_224, hs_ru, hs_ru0, hs_ru1, hs_ru2, hs_wi, hs_wi0, hs_wi1, hs_wi2, hs_pi, hs_pi0, hs_pa, hs_pa0, tb_2, tb_3, tb_4, tb_6, tb_48, tb_49, tb_51, tb_52, tb_54, tb_55, tb_57, tb_58, tb_60, tb_62, tb_63, tb_185, tb_186, tb_187, tb_188, tb_189, tb_190, tb_191, tb_192, tb_193, tb_194, tb_195, tb_196, tb_197, tb_198, tb_199, tb_200, tb_201, tb_202, tb_203, tb_204, tb_205, tb_206, tb_207, tb_208, tb_209, tb_210, tb_211, tb_212, tb_213, tb_214, tb_215, tb_216, tb_217, tb_218, tb_219, tb_220, tb_221, tb_222, tb_223, tb_224, tb_ru0, tb_ru1, tb_ru2, tb_wi0, tb_wi1, tb_wi2, tb_pi0, tb_pa0, sr1_0, sr1_1, sr1_2, sr1_3, sr1_4, sr1_5, sr1_6, sr1_7, sr1_8, sr1_9, sr5_0, sr47_0, sr47_1, sr50_0, sr50_1, sr50_3, sr50_4, sr56_0, sr56_1, sr59_0, sr61_0, sr184_1, sr184_3, sr184_4, sr184_5, sr184_7, sr184_8, sr184_9, sr184_10, sr184_11, sr184_12, sr184_13, sr184_14, sr184_16, sr184_18, sr184_19, sr184_20, sr184_21, sr184_22, sr184_23, sr184_24, sr184_25, sr184_27, sr184_32, sr184_33, sr184_34, sr184_35, sr184_36, sr184_37, sr184_38, sr184_40, sr184_41, sr184_44, sr184_45, sr184_50, sr184_51, sr184_52, sr184_53, sr184_54, sr184_55, sr184_57, sr2, sr3, sr4, sr6, srru0, srru1, srru2, srwi0, srwi1, srwi2, srpi0, srpa0, Sh_wI, Sh_wL, Sh_wC, if_true, zb_0, zb_1, Option.bind_some, has_wI, has_wL, has_wC, rR_wI, rR_wL, rR_wC, hA, l1, l2, if_false, i1, i2, em, h2, le, nI_1]
      | some q =>
        obtain ⟨qv, qe⟩ := q
        rw [hx] at B
        obtain ⟨g1, g2⟩ := E.2 qv qe hx
        obtain ⟨q1, q2⟩ := dp_b hg hx
        by_cases cc : qv ≤ bs g e m
        · have B' : Bst w g m room (fun s => bs w s m < t + 1) e := by
            have : (if qv ≤ bs g e m then Bst w g m room (fun s => bs w s m < t + 1) e else _) := B
            rw [if_pos cc] at this
            exact this
          obtain ⟨A', e', u1, u2, u3⟩ := e_pick12 hm hr hw hg d (t + 1) n A e (by omega) (by omega) hA hE B' (by rcases he with z | z; exact Or.inl z; exact Or.inr (by omega)) h2 h3
          refine ⟨A', e', ?_, u2, u3⟩
          rw [← u1]
          simp only [s_m0_pick_12, s_m0_pick_57, gI, gL, gR, pI, pZ, pL, pR, aI, aR, sI, sR, al, dz, rz, cl, cp, tL, tC, has_sh, hs_1, hs_2, hs_3, hs_4, hs_5, hs_6, hs_47, hs_48, hs_49, hs_50, hs_51, hs_52, hs_54, hs_55, hs_56, hs_57, hs_58, hs_59, hs_60, hs_61, hs_62, hs_63, hs_184, hs_185, hs_186, hs_187, hs_188, hs_189, hs_190, hs_191, hs_192, hs_193, hs_194, hs_195, hs_196, hs_197, hs_198, hs_199, hs_200, hs_201, hs_202, hs_203, hs_204, hs_205, hs_206, hs_207, hs_208, hs_209, hs_210, hs_211, hs_212, hs_213, hs_214, hs_215, hs_216, hs_217, hs_218, hs_219, hs_220, hs_221, hs_222, hs_223, hs_224, hs_ru, hs_ru0, hs_ru1, hs_ru2, hs_wi, hs_wi0, hs_wi1, hs_wi2, hs_pi, hs_pi0, hs_pa, hs_pa0, tb_2, tb_3, tb_4, tb_6, tb_48, tb_49, tb_51, tb_52, tb_54, tb_55, tb_57, tb_58, tb_60, tb_62, tb_63, tb_185, tb_186, tb_187, tb_188, tb_189, tb_190, tb_191, tb_192, tb_193, tb_194, tb_195, tb_196, tb_197, tb_198, tb_199, tb_200, tb_201, tb_202, tb_203, tb_204, tb_205, tb_206, tb_207, tb_208, tb_209, tb_210, tb_211, tb_212, tb_213, tb_214, tb_215, tb_216, tb_217, tb_218, tb_219, tb_220, tb_221, tb_222, tb_223, tb_224, tb_ru0, tb_ru1, tb_ru2, tb_wi0, tb_wi1, tb_wi2, tb_pi0, tb_pa0, sr1_0, sr1_1, sr1_2, sr1_3, sr1_4, sr1_5, sr1_6, sr1_7, sr1_8, sr1_9, sr5_0, sr47_0, sr47_1, sr50_0, sr50_1, sr50_3, sr50_4, sr56_0, sr56_1, sr59_0, sr61_0, sr184_1, sr184_3, sr184_4, sr184_5, sr184_7, sr184_8, sr184_9, sr184_10, sr184_11, sr184_12, sr184_13, sr184_14, sr184_16, sr184_18, sr184_19, sr184_20, sr184_21, sr184_22, sr184_23, sr184_24, sr184_25, sr184_27, sr184_32, sr184_33, sr184_34, sr184_35, sr184_36, sr184_37, sr184_38, sr184_40, sr184_41, sr184_44, sr184_45, sr184_50, sr184_51, sr184_52, sr184_53, sr184_54, sr184_55, sr184_57, sr2, sr3, sr4, sr6, srru0, srru1, srru2, srwi0, srwi1, srwi2, srpi0, srpa0, Sh_wI, Sh_wL, Sh_wC, if_true, zb_0, zb_1, Option.bind_some, has_wI, has_wL, has_wC, rR_wI, rR_wL, rR_wC, hA, l1, l2, if_false, i1, i2, g1, h2, nI_le cc (by omega), nI_1]
        · have B' : Bst w g m room (fun s => bs w s m < t + 1) qe ∧ bs w qe m < t + 1 ∧ bs g qe m = qv ∧ qe < 2 ^ m := by
            have : (if qv ≤ bs g e m then _ else (Bst w g m room (fun s => bs w s m < t + 1) qe ∧ bs w qe m < t + 1 ∧ bs g qe m = qv ∧ qe < 2 ^ m)) := B
            rw [if_neg cc] at this
            exact this
          obtain ⟨B1, B2, B3, B4⟩ := B'
          have wa : Wr (fun k s => k = 56 ∧ 2 ≤ s) A (wI (wI A 56 2 (nI qv)) 56 3 (nI qe)) := ((Wr.rf _ _).wI ⟨rfl, by omega⟩).wI ⟨rfl, by omega⟩
          have hE' : En (wI (wI A 56 2 (nI qv)) 56 3 (nI qe)) (dp w g m) := fun u hu => by
            rw [wa.2.2 57 u (by omega), wa.2.2 58 u (by omega)]
            exact hE u hu
          have r58 : rI (wI A 56 2 (nI qv)) 58 t = nI qe := by rw [rI_wI, if_neg (by omega)]; exact g2
          obtain ⟨A', e', u1, u2, u3⟩ := e_pick12 hm hr hw hg d (t + 1) n (wI (wI A 56 2 (nI qv)) 56 3 (nI qe)) qe (by omega) (by omega) hA hE' B1 (Or.inr B2) (by rw [rI_wI, if_neg (by omega), B3]; simp [rI_wI]) (by simp [rI_wI])
          refine ⟨A', e', ?_, wa.tr u2, u3⟩
          rw [← u1]
          simp only [s_m0_pick_12, s_m0_pick_57, gI, gL, gR, pI, pZ, pL, pR, aI, aR, sI, sR, al, dz, rz, cl, cp, tL, tC, has_sh, hs_1, hs_2, hs_3, hs_4, hs_5, hs_6, hs_47, hs_48, hs_49, hs_50, hs_51, hs_52, hs_54, hs_55, hs_56, hs_57, hs_58, hs_59, hs_60, hs_61, hs_62, hs_63, hs_184, hs_185, hs_186, hs_187, hs_188, hs_189, hs_190, hs_191, hs_192, hs_193, hs_194, hs_195, hs_196, hs_197, hs_198, hs_199, hs_200, hs_201, hs_202, hs_203, hs_204, hs_205, hs_206, hs_207, hs_208, hs_209, hs_210, hs_211, hs_212, hs_213, hs_214, hs_215, hs_216, hs_217, hs_218, hs_219, hs_220, hs_221, hs_222, hs_223, hs_224, hs_ru, hs_ru0, hs_ru1, hs_ru2, hs_wi, hs_wi0, hs_wi1, hs_wi2, hs_pi, hs_pi0, hs_pa, hs_pa0, tb_2, tb_3, tb_4, tb_6, tb_48, tb_49, tb_51, tb_52, tb_54, tb_55, tb_57, tb_58, tb_60, tb_62, tb_63, tb_185, tb_186, tb_187, tb_188, tb_189, tb_190, tb_191, tb_192, tb_193, tb_194, tb_195, tb_196, tb_197, tb_198, tb_199, tb_200, tb_201, tb_202, tb_203, tb_204, tb_205, tb_206, tb_207, tb_208, tb_209, tb_210, tb_211, tb_212, tb_213, tb_214, tb_215, tb_216, tb_217, tb_218, tb_219, tb_220, tb_221, tb_222, tb_223, tb_224, tb_ru0, tb_ru1, tb_ru2, tb_wi0, tb_wi1, tb_wi2, tb_pi0, tb_pa0, sr1_0, sr1_1, sr1_2, sr1_3, sr1_4, sr1_5, sr1_6, sr1_7, sr1_8, sr1_9, sr5_0, sr47_0, sr47_1, sr50_0, sr50_1, sr50_3, sr50_4, sr56_0, sr56_1, sr59_0, sr61_0, sr184_1, sr184_3, sr184_4, sr184_5, sr184_7, sr184_8, sr184_9, sr184_10, sr184_11, sr184_12, sr184_13, sr184_14, sr184_16, sr184_18, sr184_19, sr184_20, sr184_21, sr184_22, sr184_23, sr184_24, sr184_25, sr184_27, sr184_32, sr184_33, sr184_34, sr184_35, sr184_36, sr184_37, sr184_38, sr184_40, sr184_41, sr184_44, sr184_45, sr184_50, sr184_51, sr184_52, sr184_53, sr184_54, sr184_55, sr184_57, sr2, sr3, sr4, sr6, srru0, srru1, srru2, srwi0, srwi1, srwi2, srpi0, srpa0, Sh_wI, Sh_wL, Sh_wC, if_true, zb_0, zb_1, Option.bind_some, has_wI, has_wL, has_wC, rR_wI, rR_wL, rR_wC, hA, l1, l2, if_false, i1, i2, g1, h2, nI_ge (show bs g e m < qv by omega) (by omega), r58, nI_1]
end WTH
