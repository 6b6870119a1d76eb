/-! LAYER 2: calls that change nothing, and refusals -/
theorem Eq9.rf (S : Nat → Nat → Prop) (M : Mm) : Eq9 S M M := fun _ _ _ => ⟨rfl, rfl⟩
theorem Inv.keep {c : Nat} {M M' : Mm} (h : Inv c M) (hs : Sh M') (T : Nat → Nat → Prop) (e : ∀ k s, ¬ T k s → rI M' k s = rI M k s ∧ rL M' k s = rL M k s)
    (c1 : (∀ k s, Lcnt k s → ¬ T k s) ∨ Icnt (c + 1) M') (c2 : (∀ k s, Lref k s → ¬ T k s) ∨ Iref M') (c3 : (∀ k s, Lwir k s → ¬ T k s) ∨ Iwir M') (c4 : (∀ k s, Lpie k s → ¬ T k s) ∨ Ipie M') (c5 : (∀ k s, Lrow k s → ¬ T k s) ∨ Irow M') (c6 : (∀ k s, Ltap k s → ¬ T k s) ∨ Itap M')
    (c7 : (∀ k s, Lrul k s → ¬ T k s) ∨ Irul M') (c8 : (∀ k s, Lgar k s → ¬ T k s) ∨ Igar M') (c9 : (∀ k s, Lsin k s → ¬ T k s) ∨ Isin M') (c10 : (∀ k s, Lfil k s → ¬ T k s) ∨ Ifil M') (c11 : (∀ k s, Ledi k s → ¬ T k s) ∨ Iedi M') : Inv (c + 1) M' := by
  obtain ⟨-, h1, h2, h3, h4, h5, h6, h7, h8, h9, h10, h11⟩ := h
  have w := h1.1.2.2
  have p := h1.2.1.2.2
  have q := h1.2.2.1.2.2
  exact ⟨hs, c1.elim (fun z => h1.keep (fun k s hk => e k s (z k s hk))) id, c2.elim (fun z => h2.keep (fun k s hk => e k s (z k s hk))) id, c3.elim (fun z => h3.keep w (fun k s hk => e k s (z k s hk))) id, c4.elim (fun z => h4.keep p (fun k s hk => e k s (z k s hk))) id, c5.elim (fun z => h5.keep (fun k s hk => e k s (z k s hk))) id, c6.elim (fun z => h6.keep (fun k s hk => e k s (z k s hk))) id, c7.elim (fun z => h7.keep q (fun k s hk => e k s (z k s hk))) id, c8.elim (fun z => h8.keep (fun k s hk => e k s (z k s hk))) id, c9.elim (fun z => h9.keep (fun k s hk => e k s (z k s hk))) id, c10.elim (fun z => h10.keep w (fun k s hk => e k s (z k s hk))) id, c11.elim (fun z => h11.keep (fun k s hk => e k s (z k s hk))) id⟩
theorem Inv.same {c : Nat} {M : Mm} (h : Inv c M) : Inv (c + 1) M :=
  h.keep h.1 (fun _ _ => False) (fun _ _ _ => ⟨rfl, rfl⟩) (Or.inl fun _ _ _ z => z) (Or.inl fun _ _ _ z => z) (Or.inl fun _ _ _ z => z) (Or.inl fun _ _ _ z => z) (Or.inl fun _ _ _ z => z) (Or.inl fun _ _ _ z => z) (Or.inl fun _ _ _ z => z) (Or.inl fun _ _ _ z => z) (Or.inl fun _ _ _ z => z) (Or.inl fun _ _ _ z => z) (Or.inl fun _ _ _ z => z)
theorem Inv.refu {c : Nat} {M : Mm} (h : Inv c M) {i : Nat} (hi : i < 7) : Inv (c + 1) (wI (wI M 63 i (rI M 63 i + 1)) 185 (i + 2) (rI M 185 (i + 2) + 1)) := by
  refine h.keep h.1 (fun k _ => k = 63 ∨ k = 185) (fun k s hk => ⟨?_, rfl⟩) (Or.inl ?_) (Or.inr ?_) (Or.inl ?_) (Or.inl ?_) (Or.inl ?_) (Or.inl ?_) (Or.inl ?_) (Or.inl ?_) (Or.inl ?_) (Or.inl ?_) (Or.inl ?_)
  · rw [rI_wI, if_neg (by omega), rI_wI, if_neg (by omega)]
  · intro k s; unfold Lcnt; omega
  · intro j hj
    have h2 := h.2.2.1 j hj
    simp only [rI_wI]
    by_cases hij : j = i
    · subst hij
      simp [h2]
    · simp [hij, h2]
  · intro k s; unfold Lwir; omega
  · intro k s; unfold Lpie; omega
  · intro k s; unfold Lrow; omega
  · intro k s; unfold Ltap; omega
  · intro k s; unfold Lrul; omega
  · intro k s; unfold Lgar; omega
  · intro k s; unfold Lsin; omega
  · intro k s; unfold Lfil; omega
  · intro k s; unfold Ledi; omega
/-- one memory's cells of the class, the other's of the model -/
def mg (A B : Mm) : Mm := (A.1, fun k s => if k < 184 then rI A k s else rI B k s, fun k s => if k < 184 then rL A k s else rL B k s, A.2.2.2)
theorem mg_lo {A B : Mm} {k : Nat} (h : k < 184) (s : Nat) : rI (mg A B) k s = rI A k s := if_pos h
theorem mg_hi {A B : Mm} {k : Nat} (h : ¬ k < 184) (s : Nat) : rI (mg A B) k s = rI B k s := if_neg h
theorem mgL_lo {A B : Mm} {k : Nat} (h : k < 184) (s : Nat) : rL (mg A B) k s = rL A k s := if_pos h
theorem mgL_hi {A B : Mm} {k : Nat} (h : ¬ k < 184) (s : Nat) : rL (mg A B) k s = rL B k s := if_neg h
theorem mg_self (M : Mm) : mg M M = M := by
  unfold mg rI rL
  simp
theorem mg_Sh {A B : Mm} : Sh (mg A B) = Sh A := rfl
theorem mg_wlo {A B : Mm} {k s : Nat} {v : Int32} (h : k < 184) : mg (wI A k s v) B = wI (mg A B) k s v := by
  unfold mg wI rI rL u2
  refine Prod.ext rfl (Prod.ext (funext fun j => funext fun t => ?_) rfl)
  by_cases hj : j = k ∧ t = s
  · simp [hj, h]
  · simp [hj]
theorem mg_whi {A B : Mm} {k s : Nat} {v : Int32} (h : ¬ k < 184) : mg A (wI B k s v) = wI (mg A B) k s v := by
  unfold mg wI rI rL u2
  refine Prod.ext rfl (Prod.ext (funext fun j => funext fun t => ?_) rfl)
  by_cases hj : j = k ∧ t = s
  · simp [hj, h]
  · simp [hj]
/-- the class leaves the model's cells as they are, and the model the class's -/
def Fa (A A' : Mm) : Prop := ∀ k s, ¬ k < 184 → rI A' k s = rI A k s ∧ rL A' k s = rL A k s
def Fb (B B' : Mm) : Prop := B'.1 = B.1 ∧ B'.2.2.2 = B.2.2.2 ∧ ∀ k s, k < 184 → rI B' k s = rI B k s ∧ rL B' k s = rL B k s
theorem Fa.rf (A : Mm) : Fa A A := fun _ _ _ => ⟨rfl, rfl⟩
theorem Fb.rf (A : Mm) : Fb A A := ⟨rfl, rfl, fun _ _ _ => ⟨rfl, rfl⟩⟩
theorem Fa.tr {A B C : Mm} (h : Fa A B) (g : Fa B C) : Fa A C := fun k s hk => ⟨(g k s hk).1.trans (h k s hk).1, (g k s hk).2.trans (h k s hk).2⟩
theorem Fb.tr {A B C : Mm} (h : Fb A B) (g : Fb B C) : Fb A C := ⟨g.1.trans h.1, g.2.1.trans h.2.1, fun k s hk => ⟨(g.2.2 k s hk).1.trans (h.2.2 k s hk).1, (g.2.2 k s hk).2.trans (h.2.2 k s hk).2⟩⟩
theorem Fa.wI {A A' : Mm} (h : Fa A A') {k s : Nat} {v : Int32} (hk : k < 184) : Fa A (wI A' k s v) := fun j t hj => ⟨by rw [rI_wI, if_neg (by omega)]; exact (h j t hj).1, (h j t hj).2⟩
theorem Fb.wI {A A' : Mm} (h : Fb A A') {k s : Nat} {v : Int32} (hk : ¬ k < 184) : Fb A (wI A' k s v) := ⟨h.1, h.2.1, fun j t hj => ⟨by rw [rI_wI, if_neg (by omega)]; exact (h.2.2 j t hj).1, (h.2.2 j t hj).2⟩⟩
theorem Fa.wL {A A' : Mm} (h : Fa A A') {k s : Nat} {v : Int64} (hk : k < 184) : Fa A (wL A' k s v) := fun j t hj => ⟨(h j t hj).1, by rw [rL_wL, if_neg (by omega)]; exact (h j t hj).2⟩
theorem Fa.wR {A A' : Mm} (h : Fa A A') {k s : Nat} {v : Nat} : Fa A (wR A' k s v) := h
theorem Fa.wC {A A' : Mm} (h : Fa A A') {a i b j n : Nat} (hk : b < 184) : Fa A (wC A' a i b j n) := fun q t hj => ⟨by rw [rI_wC, if_neg (by omega)]; exact (h q t hj).1, (h q t hj).2⟩
/-- both sides by themselves, from a pair of memories that agree -/
def At (c : Nat) (A B : Mm) (f g : Mm → Option (Int32 × Mm)) : Prop := ∃ r A' B', f A = some (r, A') ∧ g B = some (r, B') ∧ Inv (c + 1) (mg A' B') ∧ Sh B' ∧ Fa A A' ∧ Fb B B'
def Sim (c : Nat) (f g : Mm → Option (Int32 × Mm)) : Prop := ∀ A B, Inv c (mg A B) → Sh B → At c A B f g
theorem mg_Fa {M A' B : Mm} (h : Fa M A') (hB : Sh B) (e : B.2.2.2 = A'.2.2.2) (e1 : B.1 = A'.1) (f : ∀ k s, k < 184 → rI B k s = rI A' k s ∧ rL B k s = rL A' k s) : mg A' B = B := by
  unfold mg
  refine Prod.ext e1.symm (Prod.ext (funext fun j => funext fun t => ?_) (Prod.ext (funext fun j => funext fun t => ?_) e.symm))
  · show (if j < 184 then rI A' j t else rI B j t) = rI B j t
    split
    · rename_i q; exact (f j t q).1.symm
    · rfl
  · show (if j < 184 then rL A' j t else rL B j t) = rL B j t
    split
    · rename_i q; exact (f j t q).2.symm
    · rfl
theorem mg_Fa2 {M A' : Mm} (h : Fa M A') : mg M A' = M := by
  unfold mg
  refine Prod.ext rfl (Prod.ext (funext fun j => funext fun t => ?_) (Prod.ext (funext fun j => funext fun t => ?_) rfl))
  · show (if j < 184 then rI M j t else rI A' j t) = rI M j t
    split
    · rfl
    · rename_i q; exact (h j t q).1
  · show (if j < 184 then rL M j t else rL A' j t) = rL M j t
    split
    · rfl
    · rename_i q; exact (h j t q).2
theorem Sim.step {c : Nat} {f g : Mm → Option (Int32 × Mm)} (h : Sim c f g) {M : Mm} (hi : Inv c M) : ∃ r M1 M2, f M = some (r, M1) ∧ g M1 = some (r, M2) ∧ Inv (c + 1) M2 := by
  obtain ⟨r, A1, B1, h1, h2, h3, h4, h5, h6⟩ := h M M (by rw [mg_self]; exact hi) hi.1
  have hs : Sh A1 := h3.1
  obtain ⟨r', A2, B2, g1, g2, g3, g4, g5, g6⟩ := h M A1 (by rw [mg_Fa2 h5]; exact hi) hs
  rw [h1] at g1
  cases g1
  refine ⟨r, A1, B2, h1, g2, ?_⟩
  rw [← mg_Fa h5 g4 g6.2.1 g6.1 g6.2.2]
  exact g3
theorem At.same {c : Nat} {A B : Mm} (h : Inv c (mg A B)) (hB : Sh B) {f g : Mm → Option (Int32 × Mm)} {r : Int32} (e1 : f A = some (r, A)) (e2 : g B = some (r, B)) : At c A B f g :=
  ⟨r, A, B, e1, e2, h.same, hB, Fa.rf A, Fb.rf B⟩
theorem At.refu {c : Nat} {A B : Mm} (h : Inv c (mg A B)) (hB : Sh B) {f g : Mm → Option (Int32 × Mm)} (y : Int32) (i : Nat) (hi : i < 7) (e1 : f A = some (y, wI A 63 i (rI A 63 i + 1))) (e2 : g B = some (y, wI B 185 (i + 2) (rI B 185 (i + 2) + 1))) : At c A B f g := by
  refine ⟨y, _, _, e1, e2, ?_, hB, (Fa.rf A).wI (by omega), (Fb.rf B).wI (by omega)⟩
  rw [mg_whi (by omega), mg_wlo (by omega)]
  exact h.refu hi
theorem re2 {A : Mm} (h : Sh A) : s_m10_refuse 1 (-2) A = some (-2, wI A 63 0 (rI A 63 0 + 1)) := e_refuse h (-2) 0 (by omega) (by decide)
theorem rd2 {A : Mm} (h : Sh A) : s_m11_refused 184 (-2) A = some (-2, wI A 185 2 (rI A 185 2 + 1)) := e_refused h (-2) 2 (by omega) (by decide)
theorem re3 {A : Mm} (h : Sh A) : s_m10_refuse 1 (-3) A = some (-3, wI A 63 1 (rI A 63 1 + 1)) := e_refuse h (-3) 1 (by omega) (by decide)
theorem rd3 {A : Mm} (h : Sh A) : s_m11_refused 184 (-3) A = some (-3, wI A 185 3 (rI A 185 3 + 1)) := e_refused h (-3) 3 (by omega) (by decide)
theorem re4 {A : Mm} (h : Sh A) : s_m10_refuse 1 (-4) A = some (-4, wI A 63 2 (rI A 63 2 + 1)) := e_refuse h (-4) 2 (by omega) (by decide)
theorem rd4 {A : Mm} (h : Sh A) : s_m11_refused 184 (-4) A = some (-4, wI A 185 4 (rI A 185 4 + 1)) := e_refused h (-4) 4 (by omega) (by decide)
theorem re5 {A : Mm} (h : Sh A) : s_m10_refuse 1 (-5) A = some (-5, wI A 63 3 (rI A 63 3 + 1)) := e_refuse h (-5) 3 (by omega) (by decide)
theorem rd5 {A : Mm} (h : Sh A) : s_m11_refused 184 (-5) A = some (-5, wI A 185 5 (rI A 185 5 + 1)) := e_refused h (-5) 5 (by omega) (by decide)
theorem re6 {A : Mm} (h : Sh A) : s_m10_refuse 1 (-6) A = some (-6, wI A 63 4 (rI A 63 4 + 1)) := e_refuse h (-6) 4 (by omega) (by decide)
theorem rd6 {A : Mm} (h : Sh A) : s_m11_refused 184 (-6) A = some (-6, wI A 185 6 (rI A 185 6 + 1)) := e_refused h (-6) 6 (by omega) (by decide)
theorem re7 {A : Mm} (h : Sh A) : s_m10_refuse 1 (-7) A = some (-7, wI A 63 5 (rI A 63 5 + 1)) := e_refuse h (-7) 5 (by omega) (by decide)
theorem rd7 {A : Mm} (h : Sh A) : s_m11_refused 184 (-7) A = some (-7, wI A 185 7 (rI A 185 7 + 1)) := e_refused h (-7) 7 (by omega) (by decide)
theorem re8 {A : Mm} (h : Sh A) : s_m10_refuse 1 (-8) A = some (-8, wI A 63 6 (rI A 63 6 + 1)) := e_refuse h (-8) 6 (by omega) (by decide)
theorem rd8 {A : Mm} (h : Sh A) : s_m11_refused 184 (-8) A = some (-8, wI A 185 8 (rI A 185 8 + 1)) := e_refused h (-8) 8 (by omega) (by decide)
