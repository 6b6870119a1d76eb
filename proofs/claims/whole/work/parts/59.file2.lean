/-! LAYER 2: file, the call -/
theorem At.fil {c : Nat} {A B : Mm} (h : Inv c (mg A B)) (hB : Sh B) {w p F : Nat} (hw : w < nW B) (hp : p < nP B) (hF : Fm B w F) (hFP : F ≤ nP B) (h9 : rI B 209 (40 * w + p) = -1) (h7 : rI A (67 + 4 * w) p = -1) (L3 : rI A (64 + 4 * w) 3 = nI (Qr B w 0 F).length) (L12 : (Qr B w 0 F).length < 12) (L5 : ∀ i, i < (Qr B w 0 F).length → rI A (65 + 4 * w) i = nI ((Qr B w 0 F).getD i 0)) (Flt : F < nP B)
    {f g : Mm → Option (Int32 × Mm)} {r : Int32} (e1 : f A = some (r, Afil A w p (Qr B w 0 F).length)) (e2 : g B = some (r, Bfil B w p F)) : At c A B f g := by
  have hP := h.ple
  have hw6 := h.wle
  have ha := Afil_wr A w p (Qr B w 0 F).length
  have hb := Bfil_wr B w p F (by omega) (by omega)
  have hM := mg_wr ha hb
  have np' : nP (Bfil B w p F) = nP B := nP_eq (hb.2.2 184 6 (by omega))
  have nw' : nW (Bfil B w p F) = nW B := nW_eq (hb.2.2 184 2 (by omega))
  refine ⟨r, _, _, e1, e2, ?_, hb.sh hB, ha.fa (fun k s q => by omega), hb.fb (fun k s q => by omega)⟩
  refine h.keep (ha.sh h.shA) _ hM (Or.inl ?_) (Or.inl ?_) (Or.inl ?_) (Or.inl ?_) (Or.inl ?_) (Or.inl ?_) (Or.inl ?_) (Or.inl ?_) (Or.inl ?_) (Or.inr ⟨fun w' hw' => ?_, fun w' q1 q2 => ?_⟩) (Or.inl ?_)
  · intro k s; unfold Lcnt; omega
  · intro k s; unfold Lref; omega
  · intro k s; unfold Lwir; omega
  · intro k s; unfold Lpie; omega
  · intro k s; unfold Lrow; omega
  · intro k s; unfold Ltap; omega
  · intro k s; unfold Lrul; omega
  · intro k s; unfold Lgar; omega
  · intro k s; unfold Lsin; omega
  · have hw2 : w' < nW B := by rw [← nw']; exact hw'
    by_cases e : w' = w
    · subst e
      obtain ⟨F', f1, f2, f3, f4, f5, -, -, -⟩ := h.fk hw
      have eF : F' = F := (nI_eq (by omega) (by omega)).1 (f2.symm.trans hF.1)
      subst eF
      have eQ := Bfil_Qr hF (show p < 40 by omega) h9
      have eQ2 : Qm (Bfil B w' p F') w' (F' + 1) = Qr B w' 0 F' ++ [p] := by rw [Qm_r, eQ]
      have z193 : ∀ s, rI (Bfil B w' p F') 193 s = rI B 193 s := fun s => hb.2.2 193 s (by omega)
      have a66 : ∀ s, rI (Afil A w' p (Qr B w' 0 F').length) (66 + 4 * w') s = if s = p then 0 else rI A (66 + 4 * w') s := fun s => by
        have : ¬ (66 + 4 * w' = 64 + 4 * w' ∧ s = 3) := by omega
        unfold Afil
        rw [rI_wI, if_neg this, rI_wI]
        by_cases q : s = p
        · simp [q]
        · rw [if_neg (by omega), if_neg q, rI_wI, if_neg (by omega)]
      have a67 : ∀ s, rI (Afil A w' p (Qr B w' 0 F').length) (67 + 4 * w') s = rI A (67 + 4 * w') s := fun s => ha.2.2 _ s (by omega)
      have a65 : ∀ s, rI (Afil A w' p (Qr B w' 0 F').length) (65 + 4 * w') s = if s = (Qr B w' 0 F').length then nI p else rI A (65 + 4 * w') s := fun s => by
        unfold Afil
        rw [rI_wI, if_neg (by omega), rI_wI, if_neg (by omega), rI_wI]
        by_cases q : s = (Qr B w' 0 F').length
        · simp [q]
        · rw [if_neg (by omega), if_neg q]
      have a64 : rI (Afil A w' p (Qr B w' 0 F').length) (64 + 4 * w') 3 = nI ((Qr B w' 0 F').length + 1) := by simp [Afil, rI_wI]
      unfold Fok
      have eQl : Ql (mg (Afil A w' p (Qr B w' 0 F').length) (Bfil B w' p F')) w' (F' + 1) = Qr B w' 0 F' ++ [p] := by
        rw [← eQ2]
        unfold Ql Qm
        simp (disch := omega) only [mg_hi]
      refine ⟨F' + 1, show F' + 1 ≤ nP (Bfil B w' p F') by omega, Bfil_207 B w' p F', fun k hk => ?_, fun q hq => ?_, fun q q1 q2 => ?_, ?_, ?_, fun i hi => ?_⟩
      · have hk2 : k < F' + 1 := hk
        simp (disch := omega) only [mg_hi]
        by_cases ek : k = F'
        · subst ek
          exact ⟨p, show p < nP (Bfil B w' p k) by omega, by rw [Bfil_208, if_pos rfl], by rw [Bfil_209, if_pos rfl]⟩
        · obtain ⟨q, p1, p2, p3⟩ := f3 k (by omega)
          have nq : q ≠ p := fun e => by rw [e, h9] at p3; exact ne_m1 (by omega) p3.symm
          exact ⟨q, show q < nP (Bfil B w' p F') by omega, by rw [Bfil_208, if_neg (by omega)]; exact p2, by rw [Bfil_209, if_neg (by omega)]; exact p3⟩
      · have hq2 : q < nP B := by rw [← np']; exact hq
        simp (disch := omega) only [mg_hi, mg_lo]
        rw [Bfil_209, Bfil_210, Bfil_211, a66, a67, z193]
        by_cases eq : q = p
        · subst eq
          right
          obtain ⟨k, s, b, t, z, -, -, -, -, -, -, -, -, hz, hz1, hz2, -⟩ := h.pm hp
          exact ⟨F', 0, z, by omega, by rw [Bfil_208, if_pos rfl], by rw [if_pos rfl], by rw [if_pos rfl]; rfl, by rw [if_pos rfl]; rfl, by rw [if_pos rfl]; exact h7, hz, hz2, Or.inl ⟨by rw [if_pos rfl], by omega⟩⟩
        · have u1 : ¬ (40 * w' + q = 40 * w' + p) := by omega
          simp only [u1, eq, if_false]
          rcases f4 q hq2 with g | ⟨k, hh, z, g1, g2, g3⟩
          · exact Or.inl g
          · exact Or.inr ⟨k, hh, z, by omega, by rw [Bfil_208, if_neg (by omega)]; exact g2, g3⟩
      · have q3 : nP B ≤ q := by rw [← np']; exact q1
        simp (disch := omega) only [mg_lo]
        rw [a66, a67, if_neg (by omega)]
        exact f5 q q3 q2
      · rw [eQl]
        simp (disch := omega) only [mg_lo]
        rw [a64, List.length_append]
        rfl
      · rw [eQl, List.length_append]
        show (Qr B w' 0 F').length + 1 ≤ 12
        omega
      · rw [eQl] at hi ⊢
        rw [List.length_append] at hi
        have hi2 : i < (Qr B w' 0 F').length + 1 := hi
        simp (disch := omega) only [mg_lo]
        rw [a65]
        by_cases ei : i = (Qr B w' 0 F').length
        · rw [if_pos ei, ei]
          simp [List.getD]
        · rw [if_neg ei, L5 i (by omega)]
          simp [List.getD, List.getElem?_append_left (show i < (Qr B w' 0 F').length by omega)]
    · exact (h.2.2.2.2.2.2.2.2.2.2.1.1 w' hw2).kp (show nP (mg A B) ≤ 40 from hP) (fun k s q => (hM k s (by unfold Lf at q; omega)).1)
  · have h3 : nW B ≤ w' := by rw [← nw']; exact q1
    obtain ⟨g1, g2⟩ := h.fn h3 q2
    simp (disch := omega) only [mg_lo, mg_hi]
    refine ⟨by rw [ha.2.2 _ _ (by omega)]; exact g1, fun q hq => ?_⟩
    have hq2 : q < nP B := by rw [← np']; exact hq
    rw [hb.2.2 209 _ (by omega)]
    exact g2 q hq2
  · intro k s; unfold Ledi; omega
theorem pigeon : ∀ (n : Nat) (l : List Nat), l.Nodup → (∀ x, x ∈ l → x < n) → l.length ≤ n
  | 0, [], _, _ => Nat.le_refl _
  | 0, x :: l, _, h => absurd (h x List.mem_cons_self) (Nat.not_lt_zero x)
  | n + 1, l, hd, h => by
    by_cases hn : n ∈ l
    · have h1 := pigeon n (l.erase n) (hd.erase n) (fun x hx => by
        have h2 := h x (List.mem_of_mem_erase hx)
        have h3 : x ≠ n := fun e => by
          rw [e] at hx
          exact (List.Nodup.not_mem_erase hd) hx
        omega)
      rw [List.length_erase_of_mem hn] at h1
      omega
    · have h1 := pigeon n l hd (fun x hx => by
        have h2 := h x hx
        have h3 : x ≠ n := fun e => hn (by rw [← e]; exact hx)
        omega)
      omega
theorem Fm_lt {B : Mm} {w F p N : Nat} (hF : Fm B w F) (hp : p < N) (hn : N ≤ 40) (hl : ∀ k, k < F → fl B w k < N) (h9 : rI B 209 (40 * w + p) = -1) : F < N := by
  have f40 := hF.2.1
  have hnd : (p :: (List.range F).map (fl B w)).Nodup := by
    rw [List.nodup_cons]
    refine ⟨fun hm => ?_, ?_⟩
    · obtain ⟨k, hk, e⟩ := List.mem_map.1 hm
      have := (hF.fl (List.mem_range.1 hk)).2.2
      rw [e, h9] at this
      exact ne_m1 (by have := List.mem_range.1 hk; omega) this.symm
    · unfold List.Nodup
      rw [List.pairwise_map]
      refine List.Pairwise.imp_of_mem ?_ (List.nodup_range (n := F))
      intro a b ha hb hab e
      have h1 := (hF.fl (List.mem_range.1 ha)).2.2
      have h2 := (hF.fl (List.mem_range.1 hb)).2.2
      rw [e, h2] at h1
      have := List.mem_range.1 ha
      have := List.mem_range.1 hb
      exact hab ((nI_eq (by omega) (by omega)).1 h1).symm
  have := pigeon N _ hnd (fun x hx => by
    rcases List.mem_cons.1 hx with rfl | hx
    · exact hp
    · obtain ⟨k, hk, rfl⟩ := List.mem_map.1 hx
      exact hl k (List.mem_range.1 hk))
  rw [List.length_cons, List.length_map, List.length_range] at this
  omega
theorem sim_file (c : Nat) (x y : Int32) : Sim c (s_m10_file 1 x y) (s_m11_file 184 x y) := by
  intro A B h hB
  have hA := h.shA
  by_cases hx : ∃ p, p < nP B ∧ x = nI p
  · obtain ⟨p, hp, rfl⟩ := hx
    by_cases hy : ∃ w, w < nW B ∧ y = nI w
    · obtain ⟨w, hw, rfl⟩ := hy
      have h1 := h.ple
      have h2 := h.wle
      have h40 : p < 40 := by omega
      have hw6 : w < 6 := by omega
      obtain ⟨F, hF, hFP, L3, L12, L5⟩ := h.fF hw
      obtain ⟨F', f1, f2, f3, f4, -⟩ := h.fk hw
      have f40 := hF.2.1
      obtain ⟨⟨k1, k2, k3⟩, -⟩ := h.wk hw
      obtain ⟨p1, p2, p3, p4, p5, p6, p7⟩ := h.pk hp
      have i1 : inb (nI p) 40 = true := inb_nI h40 (by omega)
      have i2 := nI_clamp (show p < 2 ^ 31 by omega)
      have i3 : inb (nI w) 6 = true := inb_nI hw6 (by omega)
      have i4 := nI_clamp (show w < 2 ^ 31 by omega)
      have j0 : ∀ p, (40 : Int32) * nI w + nI p = nI (40 * w + p) := fun p => by rw [← nI_add, ← pk_mul]; rfl
      have j1 : ∀ p, p < 40 → inb (nI (40 * w + p)) 240 = true := fun p hp => inb_nI (by omega) (by omega)
      have j2 : ∀ p, p < 40 → (nI (40 * w + p)).toNatClampNeg = 40 * w + p := fun p hp => nI_clamp (by omega)
      by_cases bb : ¬ rI B 186 w = rI B 191 p
      · have bb' : ¬ rI B 191 p = rI B 186 w := fun e => bb e.symm
        exact At.refu h hB (-7) 5 (by omega) (by simp only [s_m10_file_16, s_m10_file_54, s_m10_file, gI, gL, gR, pI, pZ, pL, pR, aI, aR, sI, sR, al, dz, rz, cl, cp, tL, tC, has_sh, hs_1, hs_2, hs_3, hs_4, hs_5, hs_6, hs_47, hs_48, hs_49, hs_50, hs_51, hs_52, hs_54, hs_55, hs_56, hs_57, hs_58, hs_59, hs_60, hs_61, hs_62, hs_63, hs_184, hs_185, hs_186, hs_187, hs_188, hs_189, hs_190, hs_191, hs_192, hs_193, hs_194, hs_195, hs_196, hs_197, hs_198, hs_199, hs_200, hs_201, hs_202, hs_203, hs_204, hs_205, hs_206, hs_207, hs_208, hs_209, hs_210, hs_211, hs_212, hs_213, hs_214, hs_215, hs_216, hs_217, hs_218, hs_219, hs_220, hs_221, hs_222, hs_223, hs_224, hs_ru, hs_ru0, hs_ru1, hs_ru2, hs_wi, hs_wi0, hs_wi1, hs_wi2, hs_pi, hs_pi0, hs_pa, hs_pa0, tb_2, tb_3, tb_4, tb_6, tb_48, tb_49, tb_51, tb_52, tb_54, tb_55, tb_57, tb_58, tb_60, tb_62, tb_63, tb_185, tb_186, tb_187, tb_188, tb_189, tb_190, tb_191, tb_192, tb_193, tb_194, tb_195, tb_196, tb_197, tb_198, tb_199, tb_200, tb_201, tb_202, tb_203, tb_204, tb_205, tb_206, tb_207, tb_208, tb_209, tb_210, tb_211, tb_212, tb_213, tb_214, tb_215, tb_216, tb_217, tb_218, tb_219, tb_220, tb_221, tb_222, tb_223, tb_224, tb_ru0, tb_ru1, tb_ru2, tb_wi0, tb_wi1, tb_wi2, tb_pi0, tb_pa0, sr1_0, sr1_1, sr1_2, sr1_3, sr1_4, sr1_5, sr1_6, sr1_7, sr1_8, sr1_9, sr5_0, sr47_0, sr47_1, sr50_0, sr50_1, sr50_3, sr50_4, sr56_0, sr56_1, sr59_0, sr61_0, sr184_1, sr184_3, sr184_4, sr184_5, sr184_7, sr184_8, sr184_9, sr184_10, sr184_11, sr184_12, sr184_13, sr184_14, sr184_16, sr184_18, sr184_19, sr184_20, sr184_21, sr184_22, sr184_23, sr184_24, sr184_25, sr184_27, sr184_32, sr184_33, sr184_34, sr184_35, sr184_36, sr184_37, sr184_38, sr184_40, sr184_41, sr184_44, sr184_45, sr184_50, sr184_51, sr184_52, sr184_53, sr184_54, sr184_55, sr184_57, sr2, sr3, sr4, sr6, srru0, srru1, srru2, srwi0, srwi1, srwi2, srpi0, srpa0, Sh_wI, Sh_wL, Sh_wC, if_true, zb_0, zb_1, Option.bind_some, has_wI, has_wL, has_wC, rR_wI, rR_wL, rR_wC, hA, isP10y h hp, isW10y h hw, ne_1, not_false_eq_true, if_false, i1, i2, i3, i4, hw6, h40, k1, p3, bb, re7]) (by simp only [s_m11_file_16, s_m11_file_55, s_m11_file, gI, gL, gR, pI, pZ, pL, pR, aI, aR, sI, sR, al, dz, rz, cl, cp, tL, tC, has_sh, hs_1, hs_2, hs_3, hs_4, hs_5, hs_6, hs_47, hs_48, hs_49, hs_50, hs_51, hs_52, hs_54, hs_55, hs_56, hs_57, hs_58, hs_59, hs_60, hs_61, hs_62, hs_63, hs_184, hs_185, hs_186, hs_187, hs_188, hs_189, hs_190, hs_191, hs_192, hs_193, hs_194, hs_195, hs_196, hs_197, hs_198, hs_199, hs_200, hs_201, hs_202, hs_203, hs_204, hs_205, hs_206, hs_207, hs_208, hs_209, hs_210, hs_211, hs_212, hs_213, hs_214, hs_215, hs_216, hs_217, hs_218, hs_219, hs_220, hs_221, hs_222, hs_223, hs_224, hs_ru, hs_ru0, hs_ru1, hs_ru2, hs_wi, hs_wi0, hs_wi1, hs_wi2, hs_pi, hs_pi0, hs_pa, hs_pa0, tb_2, tb_3, tb_4, tb_6, tb_48, tb_49, tb_51, tb_52, tb_54, tb_55, tb_57, tb_58, tb_60, tb_62, tb_63, tb_185, tb_186, tb_187, tb_188, tb_189, tb_190, tb_191, tb_192, tb_193, tb_194, tb_195, tb_196, tb_197, tb_198, tb_199, tb_200, tb_201, tb_202, tb_203, tb_204, tb_205, tb_206, tb_207, tb_208, tb_209, tb_210, tb_211, tb_212, tb_213, tb_214, tb_215, tb_216, tb_217, tb_218, tb_219, tb_220, tb_221, tb_222, tb_223, tb_224, tb_ru0, tb_ru1, tb_ru2, tb_wi0, tb_wi1, tb_wi2, tb_pi0, tb_pa0, sr1_0, sr1_1, sr1_2, sr1_3, sr1_4, sr1_5, sr1_6, sr1_7, sr1_8, sr1_9, sr5_0, sr47_0, sr47_1, sr50_0, sr50_1, sr50_3, sr50_4, sr56_0, sr56_1, sr59_0, sr61_0, sr184_1, sr184_3, sr184_4, sr184_5, sr184_7, sr184_8, sr184_9, sr184_10, sr184_11, sr184_12, sr184_13, sr184_14, sr184_16, sr184_18, sr184_19, sr184_20, sr184_21, sr184_22, sr184_23, sr184_24, sr184_25, sr184_27, sr184_32, sr184_33, sr184_34, sr184_35, sr184_36, sr184_37, sr184_38, sr184_40, sr184_41, sr184_44, sr184_45, sr184_50, sr184_51, sr184_52, sr184_53, sr184_54, sr184_55, sr184_57, sr2, sr3, sr4, sr6, srru0, srru1, srru2, srwi0, srwi1, srwi2, srpi0, srpa0, Sh_wI, Sh_wL, Sh_wC, if_true, zb_0, zb_1, Option.bind_some, has_wI, has_wL, has_wC, rR_wI, rR_wL, rR_wC, hB, isP11y h hB hp, isW11y h hB hw, ne_1, not_false_eq_true, if_false, i1, i2, i3, i4, bb', rd7])
      have b1 := Classical.not_not.1 bb
      rcases f4 p hp with ⟨g1, g2, g3⟩ | ⟨K, hh, z, g1, g2, g3, g4, g5, g6, g7, gz, g8⟩
      · by_cases L : (Qr B w 0 F).length = 12
        · have q1 : ¬ nI 12 < 12 := by decide
          have q2 : nI 12 = 12 := by decide
          exact At.refu h hB (-8) 6 (by omega) (by simp only [s_m10_file_16, s_m10_file_54, s_m10_file, s_m9_wasFiled_15, s_m9_wasFiled, gI, gL, gR, pI, pZ, pL, pR, aI, aR, sI, sR, al, dz, rz, cl, cp, tL, tC, has_sh, hs_1, hs_2, hs_3, hs_4, hs_5, hs_6, hs_47, hs_48, hs_49, hs_50, hs_51, hs_52, hs_54, hs_55, hs_56, hs_57, hs_58, hs_59, hs_60, hs_61, hs_62, hs_63, hs_184, hs_185, hs_186, hs_187, hs_188, hs_189, hs_190, hs_191, hs_192, hs_193, hs_194, hs_195, hs_196, hs_197, hs_198, hs_199, hs_200, hs_201, hs_202, hs_203, hs_204, hs_205, hs_206, hs_207, hs_208, hs_209, hs_210, hs_211, hs_212, hs_213, hs_214, hs_215, hs_216, hs_217, hs_218, hs_219, hs_220, hs_221, hs_222, hs_223, hs_224, hs_ru, hs_ru0, hs_ru1, hs_ru2, hs_wi, hs_wi0, hs_wi1, hs_wi2, hs_pi, hs_pi0, hs_pa, hs_pa0, tb_2, tb_3, tb_4, tb_6, tb_48, tb_49, tb_51, tb_52, tb_54, tb_55, tb_57, tb_58, tb_60, tb_62, tb_63, tb_185, tb_186, tb_187, tb_188, tb_189, tb_190, tb_191, tb_192, tb_193, tb_194, tb_195, tb_196, tb_197, tb_198, tb_199, tb_200, tb_201, tb_202, tb_203, tb_204, tb_205, tb_206, tb_207, tb_208, tb_209, tb_210, tb_211, tb_212, tb_213, tb_214, tb_215, tb_216, tb_217, tb_218, tb_219, tb_220, tb_221, tb_222, tb_223, tb_224, tb_ru0, tb_ru1, tb_ru2, tb_wi0, tb_wi1, tb_wi2, tb_pi0, tb_pa0, sr1_0, sr1_1, sr1_2, sr1_3, sr1_4, sr1_5, sr1_6, sr1_7, sr1_8, sr1_9, sr5_0, sr47_0, sr47_1, sr50_0, sr50_1, sr50_3, sr50_4, sr56_0, sr56_1, sr59_0, sr61_0, sr184_1, sr184_3, sr184_4, sr184_5, sr184_7, sr184_8, sr184_9, sr184_10, sr184_11, sr184_12, sr184_13, sr184_14, sr184_16, sr184_18, sr184_19, sr184_20, sr184_21, sr184_22, sr184_23, sr184_24, sr184_25, sr184_27, sr184_32, sr184_33, sr184_34, sr184_35, sr184_36, sr184_37, sr184_38, sr184_40, sr184_41, sr184_44, sr184_45, sr184_50, sr184_51, sr184_52, sr184_53, sr184_54, sr184_55, sr184_57, sr2, sr3, sr4, sr6, srru0, srru1, srru2, srwi0, srwi1, srwi2, srpi0, srpa0, Sh_wI, Sh_wL, Sh_wC, if_true, zb_0, zb_1, Option.bind_some, has_wI, has_wL, has_wC, rR_wI, rR_wL, rR_wC, hA, isP10y h hp, isW10y h hw, ne_1, not_false_eq_true, not_true_eq_false, if_false, i1, i2, i3, i4, hw6, h40, k1, p3, b1, g2, L3, L, q1, re8]) (by simp only [s_m11_file_16, s_m11_file_55, s_m11_file, gI, gL, gR, pI, pZ, pL, pR, aI, aR, sI, sR, al, dz, rz, cl, cp, tL, tC, has_sh, hs_1, hs_2, hs_3, hs_4, hs_5, hs_6, hs_47, hs_48, hs_49, hs_50, hs_51, hs_52, hs_54, hs_55, hs_56, hs_57, hs_58, hs_59, hs_60, hs_61, hs_62, hs_63, hs_184, hs_185, hs_186, hs_187, hs_188, hs_189, hs_190, hs_191, hs_192, hs_193, hs_194, hs_195, hs_196, hs_197, hs_198, hs_199, hs_200, hs_201, hs_202, hs_203, hs_204, hs_205, hs_206, hs_207, hs_208, hs_209, hs_210, hs_211, hs_212, hs_213, hs_214, hs_215, hs_216, hs_217, hs_218, hs_219, hs_220, hs_221, hs_222, hs_223, hs_224, hs_ru, hs_ru0, hs_ru1, hs_ru2, hs_wi, hs_wi0, hs_wi1, hs_wi2, hs_pi, hs_pi0, hs_pa, hs_pa0, tb_2, tb_3, tb_4, tb_6, tb_48, tb_49, tb_51, tb_52, tb_54, tb_55, tb_57, tb_58, tb_60, tb_62, tb_63, tb_185, tb_186, tb_187, tb_188, tb_189, tb_190, tb_191, tb_192, tb_193, tb_194, tb_195, tb_196, tb_197, tb_198, tb_199, tb_200, tb_201, tb_202, tb_203, tb_204, tb_205, tb_206, tb_207, tb_208, tb_209, tb_210, tb_211, tb_212, tb_213, tb_214, tb_215, tb_216, tb_217, tb_218, tb_219, tb_220, tb_221, tb_222, tb_223, tb_224, tb_ru0, tb_ru1, tb_ru2, tb_wi0, tb_wi1, tb_wi2, tb_pi0, tb_pa0, sr1_0, sr1_1, sr1_2, sr1_3, sr1_4, sr1_5, sr1_6, sr1_7, sr1_8, sr1_9, sr5_0, sr47_0, sr47_1, sr50_0, sr50_1, sr50_3, sr50_4, sr56_0, sr56_1, sr59_0, sr61_0, sr184_1, sr184_3, sr184_4, sr184_5, sr184_7, sr184_8, sr184_9, sr184_10, sr184_11, sr184_12, sr184_13, sr184_14, sr184_16, sr184_18, sr184_19, sr184_20, sr184_21, sr184_22, sr184_23, sr184_24, sr184_25, sr184_27, sr184_32, sr184_33, sr184_34, sr184_35, sr184_36, sr184_37, sr184_38, sr184_40, sr184_41, sr184_44, sr184_45, sr184_50, sr184_51, sr184_52, sr184_53, sr184_54, sr184_55, sr184_57, sr2, sr3, sr4, sr6, srru0, srru1, srru2, srwi0, srwi1, srwi2, srpi0, srpa0, Sh_wI, Sh_wL, Sh_wC, if_true, zb_0, zb_1, Option.bind_some, has_wI, has_wL, has_wC, rR_wI, rR_wL, rR_wC, hB, isP11y h hB hp, isW11y h hB hw, ne_1, not_false_eq_true, not_true_eq_false, if_false, i1, i2, i3, i4, b1, j0, j1 p h40, j2 p h40, g1, e_waiting hB hw6 hF, L, q2, rd8])
        · have eF : F' = F := (nI_eq (by omega) (by omega)).1 (f2.symm.trans hF.1)
          subst eF
          have Flt : F' < nP B := Fm_lt hF hp h1 (fun k hk => by
            obtain ⟨q, q1, q2, -⟩ := f3 k hk
            unfold fl
            rw [q2, nI_clamp (by omega)]
            exact q1) g1
          have L11 : (Qr B w 0 F').length < 12 := by omega
          have q1 : nI (Qr B w 0 F').length < 12 := nI_lt (b := 12) L11 (by omega)
          have q2 : ¬ nI (Qr B w 0 F').length = 12 := fun e => by have := (nI_eq (by omega) (b := 12) (by omega)).1 e; omega
          have i5 : inb (nI (Qr B w 0 F').length) 12 = true := inb_nI L11 (by omega)
          have i6 := nI_clamp (show (Qr B w 0 F').length < 2 ^ 31 by omega)
          have r1 : rI (wI (wI A (65 + 4 * w) (Qr B w 0 F').length (nI p)) (66 + 4 * w) p 0) (64 + 4 * w) 3 = nI (Qr B w 0 F').length := by
            rw [rI_wI, if_neg (by omega), rI_wI, if_neg (by omega), L3]
          have r2 : rI (wI (wI (wI A (65 + 4 * w) (Qr B w 0 F').length (nI p)) (66 + 4 * w) p 0) (64 + 4 * w) 3 (nI ((Qr B w 0 F').length + 1))) (64 + 4 * w) 3 = nI ((Qr B w 0 F').length + 1) := by simp [rI_wI]
          have hb := Bfil_wr B w p F' (by omega) h40
          have hF' : Fm (Bfil B w p F') w (F' + 1) := ⟨Bfil_207 B w p F', by omega, fun k hk => by
            by_cases ek : k = F'
            · subst ek
              exact ⟨p, h40, by rw [Bfil_208, if_pos rfl], by rw [Bfil_209, if_pos rfl]⟩
            · obtain ⟨q, p1, p2, p3⟩ := f3 k (by omega)
              have nq : q ≠ p := fun e => by rw [e, g1] at p3; exact ne_m1 (by omega) p3.symm
              exact ⟨q, by omega, by rw [Bfil_208, if_neg (by omega)]; exact p2, by rw [Bfil_209, if_neg (by omega)]; exact p3⟩⟩
          have eW := e_waiting (hb.sh hB) hw6 hF'
          rw [Bfil_Qr hF h40 g1, List.length_append, List.length_singleton] at eW
          unfold Bfil at eW
          have s1 : rI (wI B 209 (40 * w + p) (nI F')) 207 w = nI F' := by rw [rI_wI, if_neg (by omega), f2]
          have s2 : rI (wI (wI (wI (wI B 209 (40 * w + p) (nI F')) 208 (40 * w + F') (nI p)) 210 (40 * w + p) 0) 211 (40 * w + p) (-1)) 207 w = nI F' := by
            rw [rI_wI, if_neg (by omega), rI_wI, if_neg (by omega), rI_wI, if_neg (by omega), s1]
          refine At.fil h hB hw hp hF hFP g1 g3 L3 L11 L5 Flt (r := nI ((Qr B w 0 F').length + 1)) ?_ ?_
          · simp only [s_m10_file_16, s_m10_file_54, s_m10_file, s_m9_wasFiled_15, s_m9_wasFiled, s_m9_enqueue, Afil, gI, gL, gR, pI, pZ, pL, pR, aI, aR, sI, sR, al, dz, rz, cl, cp, tL, tC, has_sh, hs_1, hs_2, hs_3, hs_4, hs_5, hs_6, hs_47, hs_48, hs_49, hs_50, hs_51, hs_52, hs_54, hs_55, hs_56, hs_57, hs_58, hs_59, hs_60, hs_61, hs_62, hs_63, hs_184, hs_185, hs_186, hs_187, hs_188, hs_189, hs_190, hs_191, hs_192, hs_193, hs_194, hs_195, hs_196, hs_197, hs_198, hs_199, hs_200, hs_201, hs_202, hs_203, hs_204, hs_205, hs_206, hs_207, hs_208, hs_209, hs_210, hs_211, hs_212, hs_213, hs_214, hs_215, hs_216, hs_217, hs_218, hs_219, hs_220, hs_221, hs_222, hs_223, hs_224, hs_ru, hs_ru0, hs_ru1, hs_ru2, hs_wi, hs_wi0, hs_wi1, hs_wi2, hs_pi, hs_pi0, hs_pa, hs_pa0, tb_2, tb_3, tb_4, tb_6, tb_48, tb_49, tb_51, tb_52, tb_54, tb_55, tb_57, tb_58, tb_60, tb_62, tb_63, tb_185, tb_186, tb_187, tb_188, tb_189, tb_190, tb_191, tb_192, tb_193, tb_194, tb_195, tb_196, tb_197, tb_198, tb_199, tb_200, tb_201, tb_202, tb_203, tb_204, tb_205, tb_206, tb_207, tb_208, tb_209, tb_210, tb_211, tb_212, tb_213, tb_214, tb_215, tb_216, tb_217, tb_218, tb_219, tb_220, tb_221, tb_222, tb_223, tb_224, tb_ru0, tb_ru1, tb_ru2, tb_wi0, tb_wi1, tb_wi2, tb_pi0, tb_pa0, sr1_0, sr1_1, sr1_2, sr1_3, sr1_4, sr1_5, sr1_6, sr1_7, sr1_8, sr1_9, sr5_0, sr47_0, sr47_1, sr50_0, sr50_1, sr50_3, sr50_4, sr56_0, sr56_1, sr59_0, sr61_0, sr184_1, sr184_3, sr184_4, sr184_5, sr184_7, sr184_8, sr184_9, sr184_10, sr184_11, sr184_12, sr184_13, sr184_14, sr184_16, sr184_18, sr184_19, sr184_20, sr184_21, sr184_22, sr184_23, sr184_24, sr184_25, sr184_27, sr184_32, sr184_33, sr184_34, sr184_35, sr184_36, sr184_37, sr184_38, sr184_40, sr184_41, sr184_44, sr184_45, sr184_50, sr184_51, sr184_52, sr184_53, sr184_54, sr184_55, sr184_57, sr2, sr3, sr4, sr6, srru0, srru1, srru2, srwi0, srwi1, srwi2, srpi0, srpa0, Sh_wI, Sh_wL, Sh_wC, if_true, zb_0, zb_1, Option.bind_some, has_wI, has_wL, has_wC, rR_wI, rR_wL, rR_wC, hA, isP10y h hp, isW10y h hw, ne_1, not_false_eq_true, not_true_eq_false, if_false, i1, i2, i3, i4, hw6, h40, k1, p3, b1, g2, L3, q1, i5, i6, r1, nI_1, r2]
          · simp only [s_m11_file_16, s_m11_file_55, s_m11_file, Bfil, gI, gL, gR, pI, pZ, pL, pR, aI, aR, sI, sR, al, dz, rz, cl, cp, tL, tC, has_sh, hs_1, hs_2, hs_3, hs_4, hs_5, hs_6, hs_47, hs_48, hs_49, hs_50, hs_51, hs_52, hs_54, hs_55, hs_56, hs_57, hs_58, hs_59, hs_60, hs_61, hs_62, hs_63, hs_184, hs_185, hs_186, hs_187, hs_188, hs_189, hs_190, hs_191, hs_192, hs_193, hs_194, hs_195, hs_196, hs_197, hs_198, hs_199, hs_200, hs_201, hs_202, hs_203, hs_204, hs_205, hs_206, hs_207, hs_208, hs_209, hs_210, hs_211, hs_212, hs_213, hs_214, hs_215, hs_216, hs_217, hs_218, hs_219, hs_220, hs_221, hs_222, hs_223, hs_224, hs_ru, hs_ru0, hs_ru1, hs_ru2, hs_wi, hs_wi0, hs_wi1, hs_wi2, hs_pi, hs_pi0, hs_pa, hs_pa0, tb_2, tb_3, tb_4, tb_6, tb_48, tb_49, tb_51, tb_52, tb_54, tb_55, tb_57, tb_58, tb_60, tb_62, tb_63, tb_185, tb_186, tb_187, tb_188, tb_189, tb_190, tb_191, tb_192, tb_193, tb_194, tb_195, tb_196, tb_197, tb_198, tb_199, tb_200, tb_201, tb_202, tb_203, tb_204, tb_205, tb_206, tb_207, tb_208, tb_209, tb_210, tb_211, tb_212, tb_213, tb_214, tb_215, tb_216, tb_217, tb_218, tb_219, tb_220, tb_221, tb_222, tb_223, tb_224, tb_ru0, tb_ru1, tb_ru2, tb_wi0, tb_wi1, tb_wi2, tb_pi0, tb_pa0, sr1_0, sr1_1, sr1_2, sr1_3, sr1_4, sr1_5, sr1_6, sr1_7, sr1_8, sr1_9, sr5_0, sr47_0, sr47_1, sr50_0, sr50_1, sr50_3, sr50_4, sr56_0, sr56_1, sr59_0, sr61_0, sr184_1, sr184_3, sr184_4, sr184_5, sr184_7, sr184_8, sr184_9, sr184_10, sr184_11, sr184_12, sr184_13, sr184_14, sr184_16, sr184_18, sr184_19, sr184_20, sr184_21, sr184_22, sr184_23, sr184_24, sr184_25, sr184_27, sr184_32, sr184_33, sr184_34, sr184_35, sr184_36, sr184_37, sr184_38, sr184_40, sr184_41, sr184_44, sr184_45, sr184_50, sr184_51, sr184_52, sr184_53, sr184_54, sr184_55, sr184_57, sr2, sr3, sr4, sr6, srru0, srru1, srru2, srwi0, srwi1, srwi2, srpi0, srpa0, Sh_wI, Sh_wL, Sh_wC, if_true, zb_0, zb_1, Option.bind_some, has_wI, has_wL, has_wC, rR_wI, rR_wL, rR_wC, hB, isP11y h hB hp, isW11y h hB hw, ne_1, not_false_eq_true, not_true_eq_false, if_false, i1, i2, i3, i4, b1, j0, j1 p h40, j2 p h40, j1 F' (by omega), j2 F' (by omega), g1, e_waiting hB hw6 hF, q2, f2, s1, s2, nI_1, eW]
      · have hh31 : hh < 2 ^ 31 := by rcases g8 with q | q <;> omega
        have n1 := ne_m1 hh31
        have n2 := ne_m1 (show K < 2 ^ 31 by omega)
        exact At.refu h hB (-7) 5 (by omega) (by simp only [s_m10_file_16, s_m10_file_54, s_m10_file, s_m9_wasFiled_15, s_m9_wasFiled, gI, gL, gR, pI, pZ, pL, pR, aI, aR, sI, sR, al, dz, rz, cl, cp, tL, tC, has_sh, hs_1, hs_2, hs_3, hs_4, hs_5, hs_6, hs_47, hs_48, hs_49, hs_50, hs_51, hs_52, hs_54, hs_55, hs_56, hs_57, hs_58, hs_59, hs_60, hs_61, hs_62, hs_63, hs_184, hs_185, hs_186, hs_187, hs_188, hs_189, hs_190, hs_191, hs_192, hs_193, hs_194, hs_195, hs_196, hs_197, hs_198, hs_199, hs_200, hs_201, hs_202, hs_203, hs_204, hs_205, hs_206, hs_207, hs_208, hs_209, hs_210, hs_211, hs_212, hs_213, hs_214, hs_215, hs_216, hs_217, hs_218, hs_219, hs_220, hs_221, hs_222, hs_223, hs_224, hs_ru, hs_ru0, hs_ru1, hs_ru2, hs_wi, hs_wi0, hs_wi1, hs_wi2, hs_pi, hs_pi0, hs_pa, hs_pa0, tb_2, tb_3, tb_4, tb_6, tb_48, tb_49, tb_51, tb_52, tb_54, tb_55, tb_57, tb_58, tb_60, tb_62, tb_63, tb_185, tb_186, tb_187, tb_188, tb_189, tb_190, tb_191, tb_192, tb_193, tb_194, tb_195, tb_196, tb_197, tb_198, tb_199, tb_200, tb_201, tb_202, tb_203, tb_204, tb_205, tb_206, tb_207, tb_208, tb_209, tb_210, tb_211, tb_212, tb_213, tb_214, tb_215, tb_216, tb_217, tb_218, tb_219, tb_220, tb_221, tb_222, tb_223, tb_224, tb_ru0, tb_ru1, tb_ru2, tb_wi0, tb_wi1, tb_wi2, tb_pi0, tb_pa0, sr1_0, sr1_1, sr1_2, sr1_3, sr1_4, sr1_5, sr1_6, sr1_7, sr1_8, sr1_9, sr5_0, sr47_0, sr47_1, sr50_0, sr50_1, sr50_3, sr50_4, sr56_0, sr56_1, sr59_0, sr61_0, sr184_1, sr184_3, sr184_4, sr184_5, sr184_7, sr184_8, sr184_9, sr184_10, sr184_11, sr184_12, sr184_13, sr184_14, sr184_16, sr184_18, sr184_19, sr184_20, sr184_21, sr184_22, sr184_23, sr184_24, sr184_25, sr184_27, sr184_32, sr184_33, sr184_34, sr184_35, sr184_36, sr184_37, sr184_38, sr184_40, sr184_41, sr184_44, sr184_45, sr184_50, sr184_51, sr184_52, sr184_53, sr184_54, sr184_55, sr184_57, sr2, sr3, sr4, sr6, srru0, srru1, srru2, srwi0, srwi1, srwi2, srpi0, srpa0, Sh_wI, Sh_wL, Sh_wC, if_true, zb_0, zb_1, Option.bind_some, has_wI, has_wL, has_wC, rR_wI, rR_wL, rR_wC, hA, isP10y h hp, isW10y h hw, ne_1, not_false_eq_true, not_true_eq_false, if_false, i1, i2, i3, i4, hw6, h40, k1, p3, b1, g5, n1, re7]) (by simp only [s_m11_file_16, s_m11_file_55, s_m11_file, gI, gL, gR, pI, pZ, pL, pR, aI, aR, sI, sR, al, dz, rz, cl, cp, tL, tC, has_sh, hs_1, hs_2, hs_3, hs_4, hs_5, hs_6, hs_47, hs_48, hs_49, hs_50, hs_51, hs_52, hs_54, hs_55, hs_56, hs_57, hs_58, hs_59, hs_60, hs_61, hs_62, hs_63, hs_184, hs_185, hs_186, hs_187, hs_188, hs_189, hs_190, hs_191, hs_192, hs_193, hs_194, hs_195, hs_196, hs_197, hs_198, hs_199, hs_200, hs_201, hs_202, hs_203, hs_204, hs_205, hs_206, hs_207, hs_208, hs_209, hs_210, hs_211, hs_212, hs_213, hs_214, hs_215, hs_216, hs_217, hs_218, hs_219, hs_220, hs_221, hs_222, hs_223, hs_224, hs_ru, hs_ru0, hs_ru1, hs_ru2, hs_wi, hs_wi0, hs_wi1, hs_wi2, hs_pi, hs_pi0, hs_pa, hs_pa0, tb_2, tb_3, tb_4, tb_6, tb_48, tb_49, tb_51, tb_52, tb_54, tb_55, tb_57, tb_58, tb_60, tb_62, tb_63, tb_185, tb_186, tb_187, tb_188, tb_189, tb_190, tb_191, tb_192, tb_193, tb_194, tb_195, tb_196, tb_197, tb_198, tb_199, tb_200, tb_201, tb_202, tb_203, tb_204, tb_205, tb_206, tb_207, tb_208, tb_209, tb_210, tb_211, tb_212, tb_213, tb_214, tb_215, tb_216, tb_217, tb_218, tb_219, tb_220, tb_221, tb_222, tb_223, tb_224, tb_ru0, tb_ru1, tb_ru2, tb_wi0, tb_wi1, tb_wi2, tb_pi0, tb_pa0, sr1_0, sr1_1, sr1_2, sr1_3, sr1_4, sr1_5, sr1_6, sr1_7, sr1_8, sr1_9, sr5_0, sr47_0, sr47_1, sr50_0, sr50_1, sr50_3, sr50_4, sr56_0, sr56_1, sr59_0, sr61_0, sr184_1, sr184_3, sr184_4, sr184_5, sr184_7, sr184_8, sr184_9, sr184_10, sr184_11, sr184_12, sr184_13, sr184_14, sr184_16, sr184_18, sr184_19, sr184_20, sr184_21, sr184_22, sr184_23, sr184_24, sr184_25, sr184_27, sr184_32, sr184_33, sr184_34, sr184_35, sr184_36, sr184_37, sr184_38, sr184_40, sr184_41, sr184_44, sr184_45, sr184_50, sr184_51, sr184_52, sr184_53, sr184_54, sr184_55, sr184_57, sr2, sr3, sr4, sr6, srru0, srru1, srru2, srwi0, srwi1, srwi2, srpi0, srpa0, Sh_wI, Sh_wL, Sh_wC, if_true, zb_0, zb_1, Option.bind_some, has_wI, has_wL, has_wC, rR_wI, rR_wL, rR_wC, hB, isP11y h hB hp, isW11y h hB hw, ne_1, not_false_eq_true, not_true_eq_false, if_false, i1, i2, i3, i4, b1, j0, j1 p h40, j2 p h40, g3, n2, rd7])
    · exact At.refu h hB (-3) 1 (by omega) (by simp only [s_m10_file_16, s_m10_file_54, s_m10_file, gI, gL, gR, pI, pZ, pL, pR, aI, aR, sI, sR, al, dz, rz, cl, cp, tL, tC, has_sh, hs_1, hs_2, hs_3, hs_4, hs_5, hs_6, hs_47, hs_48, hs_49, hs_50, hs_51, hs_52, hs_54, hs_55, hs_56, hs_57, hs_58, hs_59, hs_60, hs_61, hs_62, hs_63, hs_184, hs_185, hs_186, hs_187, hs_188, hs_189, hs_190, hs_191, hs_192, hs_193, hs_194, hs_195, hs_196, hs_197, hs_198, hs_199, hs_200, hs_201, hs_202, hs_203, hs_204, hs_205, hs_206, hs_207, hs_208, hs_209, hs_210, hs_211, hs_212, hs_213, hs_214, hs_215, hs_216, hs_217, hs_218, hs_219, hs_220, hs_221, hs_222, hs_223, hs_224, hs_ru, hs_ru0, hs_ru1, hs_ru2, hs_wi, hs_wi0, hs_wi1, hs_wi2, hs_pi, hs_pi0, hs_pa, hs_pa0, tb_2, tb_3, tb_4, tb_6, tb_48, tb_49, tb_51, tb_52, tb_54, tb_55, tb_57, tb_58, tb_60, tb_62, tb_63, tb_185, tb_186, tb_187, tb_188, tb_189, tb_190, tb_191, tb_192, tb_193, tb_194, tb_195, tb_196, tb_197, tb_198, tb_199, tb_200, tb_201, tb_202, tb_203, tb_204, tb_205, tb_206, tb_207, tb_208, tb_209, tb_210, tb_211, tb_212, tb_213, tb_214, tb_215, tb_216, tb_217, tb_218, tb_219, tb_220, tb_221, tb_222, tb_223, tb_224, tb_ru0, tb_ru1, tb_ru2, tb_wi0, tb_wi1, tb_wi2, tb_pi0, tb_pa0, sr1_0, sr1_1, sr1_2, sr1_3, sr1_4, sr1_5, sr1_6, sr1_7, sr1_8, sr1_9, sr5_0, sr47_0, sr47_1, sr50_0, sr50_1, sr50_3, sr50_4, sr56_0, sr56_1, sr59_0, sr61_0, sr184_1, sr184_3, sr184_4, sr184_5, sr184_7, sr184_8, sr184_9, sr184_10, sr184_11, sr184_12, sr184_13, sr184_14, sr184_16, sr184_18, sr184_19, sr184_20, sr184_21, sr184_22, sr184_23, sr184_24, sr184_25, sr184_27, sr184_32, sr184_33, sr184_34, sr184_35, sr184_36, sr184_37, sr184_38, sr184_40, sr184_41, sr184_44, sr184_45, sr184_50, sr184_51, sr184_52, sr184_53, sr184_54, sr184_55, sr184_57, sr2, sr3, sr4, sr6, srru0, srru1, srru2, srwi0, srwi1, srwi2, srpi0, srpa0, Sh_wI, Sh_wL, Sh_wC, if_true, zb_0, zb_1, Option.bind_some, has_wI, has_wL, has_wC, rR_wI, rR_wL, rR_wC, hA, isP10y h hp, isW10n h hy, ne_1, not_true_eq_false, if_false, re3]) (by simp only [s_m11_file_16, s_m11_file_55, s_m11_file, gI, gL, gR, pI, pZ, pL, pR, aI, aR, sI, sR, al, dz, rz, cl, cp, tL, tC, has_sh, hs_1, hs_2, hs_3, hs_4, hs_5, hs_6, hs_47, hs_48, hs_49, hs_50, hs_51, hs_52, hs_54, hs_55, hs_56, hs_57, hs_58, hs_59, hs_60, hs_61, hs_62, hs_63, hs_184, hs_185, hs_186, hs_187, hs_188, hs_189, hs_190, hs_191, hs_192, hs_193, hs_194, hs_195, hs_196, hs_197, hs_198, hs_199, hs_200, hs_201, hs_202, hs_203, hs_204, hs_205, hs_206, hs_207, hs_208, hs_209, hs_210, hs_211, hs_212, hs_213, hs_214, hs_215, hs_216, hs_217, hs_218, hs_219, hs_220, hs_221, hs_222, hs_223, hs_224, hs_ru, hs_ru0, hs_ru1, hs_ru2, hs_wi, hs_wi0, hs_wi1, hs_wi2, hs_pi, hs_pi0, hs_pa, hs_pa0, tb_2, tb_3, tb_4, tb_6, tb_48, tb_49, tb_51, tb_52, tb_54, tb_55, tb_57, tb_58, tb_60, tb_62, tb_63, tb_185, tb_186, tb_187, tb_188, tb_189, tb_190, tb_191, tb_192, tb_193, tb_194, tb_195, tb_196, tb_197, tb_198, tb_199, tb_200, tb_201, tb_202, tb_203, tb_204, tb_205, tb_206, tb_207, tb_208, tb_209, tb_210, tb_211, tb_212, tb_213, tb_214, tb_215, tb_216, tb_217, tb_218, tb_219, tb_220, tb_221, tb_222, tb_223, tb_224, tb_ru0, tb_ru1, tb_ru2, tb_wi0, tb_wi1, tb_wi2, tb_pi0, tb_pa0, sr1_0, sr1_1, sr1_2, sr1_3, sr1_4, sr1_5, sr1_6, sr1_7, sr1_8, sr1_9, sr5_0, sr47_0, sr47_1, sr50_0, sr50_1, sr50_3, sr50_4, sr56_0, sr56_1, sr59_0, sr61_0, sr184_1, sr184_3, sr184_4, sr184_5, sr184_7, sr184_8, sr184_9, sr184_10, sr184_11, sr184_12, sr184_13, sr184_14, sr184_16, sr184_18, sr184_19, sr184_20, sr184_21, sr184_22, sr184_23, sr184_24, sr184_25, sr184_27, sr184_32, sr184_33, sr184_34, sr184_35, sr184_36, sr184_37, sr184_38, sr184_40, sr184_41, sr184_44, sr184_45, sr184_50, sr184_51, sr184_52, sr184_53, sr184_54, sr184_55, sr184_57, sr2, sr3, sr4, sr6, srru0, srru1, srru2, srwi0, srwi1, srwi2, srpi0, srpa0, Sh_wI, Sh_wL, Sh_wC, if_true, zb_0, zb_1, Option.bind_some, has_wI, has_wL, has_wC, rR_wI, rR_wL, rR_wC, hB, isP11y h hB hp, isW11n h hB hy, ne_1, not_true_eq_false, if_false, rd3])
  · exact At.refu h hB (-3) 1 (by omega) (by simp only [s_m10_file_16, s_m10_file_54, s_m10_file, gI, gL, gR, pI, pZ, pL, pR, aI, aR, sI, sR, al, dz, rz, cl, cp, tL, tC, has_sh, hs_1, hs_2, hs_3, hs_4, hs_5, hs_6, hs_47, hs_48, hs_49, hs_50, hs_51, hs_52, hs_54, hs_55, hs_56, hs_57, hs_58, hs_59, hs_60, hs_61, hs_62, hs_63, hs_184, hs_185, hs_186, hs_187, hs_188, hs_189, hs_190, hs_191, hs_192, hs_193, hs_194, hs_195, hs_196, hs_197, hs_198, hs_199, hs_200, hs_201, hs_202, hs_203, hs_204, hs_205, hs_206, hs_207, hs_208, hs_209, hs_210, hs_211, hs_212, hs_213, hs_214, hs_215, hs_216, hs_217, hs_218, hs_219, hs_220, hs_221, hs_222, hs_223, hs_224, hs_ru, hs_ru0, hs_ru1, hs_ru2, hs_wi, hs_wi0, hs_wi1, hs_wi2, hs_pi, hs_pi0, hs_pa, hs_pa0, tb_2, tb_3, tb_4, tb_6, tb_48, tb_49, tb_51, tb_52, tb_54, tb_55, tb_57, tb_58, tb_60, tb_62, tb_63, tb_185, tb_186, tb_187, tb_188, tb_189, tb_190, tb_191, tb_192, tb_193, tb_194, tb_195, tb_196, tb_197, tb_198, tb_199, tb_200, tb_201, tb_202, tb_203, tb_204, tb_205, tb_206, tb_207, tb_208, tb_209, tb_210, tb_211, tb_212, tb_213, tb_214, tb_215, tb_216, tb_217, tb_218, tb_219, tb_220, tb_221, tb_222, tb_223, tb_224, tb_ru0, tb_ru1, tb_ru2, tb_wi0, tb_wi1, tb_wi2, tb_pi0, tb_pa0, sr1_0, sr1_1, sr1_2, sr1_3, sr1_4, sr1_5, sr1_6, sr1_7, sr1_8, sr1_9, sr5_0, sr47_0, sr47_1, sr50_0, sr50_1, sr50_3, sr50_4, sr56_0, sr56_1, sr59_0, sr61_0, sr184_1, sr184_3, sr184_4, sr184_5, sr184_7, sr184_8, sr184_9, sr184_10, sr184_11, sr184_12, sr184_13, sr184_14, sr184_16, sr184_18, sr184_19, sr184_20, sr184_21, sr184_22, sr184_23, sr184_24, sr184_25, sr184_27, sr184_32, sr184_33, sr184_34, sr184_35, sr184_36, sr184_37, sr184_38, sr184_40, sr184_41, sr184_44, sr184_45, sr184_50, sr184_51, sr184_52, sr184_53, sr184_54, sr184_55, sr184_57, sr2, sr3, sr4, sr6, srru0, srru1, srru2, srwi0, srwi1, srwi2, srpi0, srpa0, Sh_wI, Sh_wL, Sh_wC, if_true, zb_0, zb_1, Option.bind_some, has_wI, has_wL, has_wC, rR_wI, rR_wL, rR_wC, hA, isP10n h hx, if_false, re3]) (by simp only [s_m11_file_16, s_m11_file_55, s_m11_file, gI, gL, gR, pI, pZ, pL, pR, aI, aR, sI, sR, al, dz, rz, cl, cp, tL, tC, has_sh, hs_1, hs_2, hs_3, hs_4, hs_5, hs_6, hs_47, hs_48, hs_49, hs_50, hs_51, hs_52, hs_54, hs_55, hs_56, hs_57, hs_58, hs_59, hs_60, hs_61, hs_62, hs_63, hs_184, hs_185, hs_186, hs_187, hs_188, hs_189, hs_190, hs_191, hs_192, hs_193, hs_194, hs_195, hs_196, hs_197, hs_198, hs_199, hs_200, hs_201, hs_202, hs_203, hs_204, hs_205, hs_206, hs_207, hs_208, hs_209, hs_210, hs_211, hs_212, hs_213, hs_214, hs_215, hs_216, hs_217, hs_218, hs_219, hs_220, hs_221, hs_222, hs_223, hs_224, hs_ru, hs_ru0, hs_ru1, hs_ru2, hs_wi, hs_wi0, hs_wi1, hs_wi2, hs_pi, hs_pi0, hs_pa, hs_pa0, tb_2, tb_3, tb_4, tb_6, tb_48, tb_49, tb_51, tb_52, tb_54, tb_55, tb_57, tb_58, tb_60, tb_62, tb_63, tb_185, tb_186, tb_187, tb_188, tb_189, tb_190, tb_191, tb_192, tb_193, tb_194, tb_195, tb_196, tb_197, tb_198, tb_199, tb_200, tb_201, tb_202, tb_203, tb_204, tb_205, tb_206, tb_207, tb_208, tb_209, tb_210, tb_211, tb_212, tb_213, tb_214, tb_215, tb_216, tb_217, tb_218, tb_219, tb_220, tb_221, tb_222, tb_223, tb_224, tb_ru0, tb_ru1, tb_ru2, tb_wi0, tb_wi1, tb_wi2, tb_pi0, tb_pa0, sr1_0, sr1_1, sr1_2, sr1_3, sr1_4, sr1_5, sr1_6, sr1_7, sr1_8, sr1_9, sr5_0, sr47_0, sr47_1, sr50_0, sr50_1, sr50_3, sr50_4, sr56_0, sr56_1, sr59_0, sr61_0, sr184_1, sr184_3, sr184_4, sr184_5, sr184_7, sr184_8, sr184_9, sr184_10, sr184_11, sr184_12, sr184_13, sr184_14, sr184_16, sr184_18, sr184_19, sr184_20, sr184_21, sr184_22, sr184_23, sr184_24, sr184_25, sr184_27, sr184_32, sr184_33, sr184_34, sr184_35, sr184_36, sr184_37, sr184_38, sr184_40, sr184_41, sr184_44, sr184_45, sr184_50, sr184_51, sr184_52, sr184_53, sr184_54, sr184_55, sr184_57, sr2, sr3, sr4, sr6, srru0, srru1, srru2, srwi0, srwi1, srwi2, srpi0, srpa0, Sh_wI, Sh_wL, Sh_wC, if_true, zb_0, zb_1, Option.bind_some, has_wI, has_wL, has_wC, rR_wI, rR_wL, rR_wC, hB, isP11n h hB hx, if_false, rd3])
