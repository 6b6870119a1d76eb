/-! LAYER 2: what holds between the calls. The class's cells against the model's -/
def nW (M : Mm) : Nat := (rI M 184 2).toNatClampNeg
def nP (M : Mm) : Nat := (rI M 184 6).toNatClampNeg
def nQ (M : Mm) : Nat := (rI M 184 17).toNatClampNeg
def nTk (M : Mm) : Nat := (rI M 184 31).toNatClampNeg
/-- the counters; c: how many calls so far -/
def Icnt (c : Nat) (M : Mm) : Prop := (rI M 1 10 = rI M 184 2 ∧ rI M 184 2 = nI (nW M) ∧ nW M ≤ 6) ∧ (rI M 1 11 = rI M 184 6 ∧ rI M 184 6 = nI (nP M) ∧ nP M ≤ 40) ∧ (rI M 5 1 = rI M 184 17 ∧ rI M 184 17 = nI (nQ M) ∧ nQ M ≤ 10) ∧ (rI M 1 12 = rI M 184 31 ∧ rI M 184 31 = nI (nTk M) ∧ nTk M ≤ 500 * c) ∧ rI M 1 13 = rI M 184 42 ∧ rI M 1 14 = rI M 184 43 ∧ rI M 1 15 = rI M 184 56
def Iref (M : Mm) : Prop := ∀ i, i < 7 → rI M 63 i = rI M 185 (i + 2)
def Wok (M : Mm) (w : Nat) : Prop := rI M (64 + 4 * w) 4 = rI M 186 w ∧ rI M (64 + 4 * w) 5 = rI M 187 w ∧ rI M (64 + 4 * w) 6 = rI M 188 w ∧ (∃ b, b < 6 ∧ rI M 186 w = nI b) ∧ (∃ s, 1 ≤ s ∧ s < 256 ∧ rI M 187 w = nI s) ∧ (∃ v, 1 ≤ v ∧ v ≤ 9 ∧ rI M 188 w = nI v)
def Iwir (M : Mm) : Prop := ∀ w, w < nW M → Wok M w
/-- a piece: its fields in both, and what they may be -/
def Pok (M : Mm) (p : Nat) : Prop := (rI M (88 + 2 * p) 1 = rI M 189 p ∧ rI M (88 + 2 * p) 2 = rI M 190 p ∧ rI M (88 + 2 * p) 3 = rI M 191 p ∧ rI M (88 + 2 * p) 4 = rI M 192 p ∧ rI M (88 + 2 * p) 5 = rI M 193 p ∧ rI M (88 + 2 * p) 6 = rI M 194 p ∧ rI M (88 + 2 * p) 7 = rI M 195 p) ∧
  ∃ k s b t z : Nat, rI M 189 p = nI k ∧ k ≤ 5 ∧ rI M 190 p = nI s ∧ s < 8 ∧ rI M 191 p = nI b ∧ b < 6 ∧ rI M 192 p = nI t ∧ t ≤ 9 ∧ rI M 193 p = nI z ∧ 1 ≤ z ∧ z ≤ 12 ∧ (∀ j, j < z → rI M (89 + 2 * p) j = rI M 196 (12 * p + j)) ∧
  (k = 0 ∨ k = 5 → ∃ x, x < 8 ∧ rI M 194 p = nI x) ∧ (k = 5 → ∃ y, y ≤ 100000 ∧ rI M 195 p = nI y) ∧
  (2 ≤ k ∧ k ≤ 4 → ∃ q kq zq, q < p ∧ rI M 194 p = nI q ∧ rI M 190 q = nI s ∧ rI M 189 q = nI kq ∧ rI M 193 q = nI zq ∧ zq ≤ 12 ∧ (k = 4 → kq ≠ 4) ∧ (k = 2 ∨ k = 3 → kq = 0 ∨ kq = 1 ∨ kq = 5) ∧ (k = 2 → ∃ y, y ≤ zq ∧ rI M 195 p = nI y) ∧ (k = 3 → ∃ y, y + z ≤ zq ∧ rI M 195 p = nI y))
def Ipie (M : Mm) : Prop := ∀ p, p < nP M → Pok M p
def Irow (M : Mm) : Prop := rI M 61 1 = rI M 184 15 ∧ ∃ z, z ≤ 16 ∧ rI M 184 15 = nI z ∧ ∀ i, i < z → rI M 62 i = rI M 197 i
def Itap (M : Mm) : Prop := rI M 59 1 = rI M 184 26 ∧ ∃ b, b ≤ 80 ∧ rI M 184 26 = nI b ∧ ∀ i, i < b → rI M 60 i = rI M 206 i
/-- a rule -/
def Rok (M : Mm) (r : Nat) : Prop := (rI M (7 + 4 * r) 4 = rI M 198 r ∧ rI M (7 + 4 * r) 5 = rI M 199 r ∧ rI M (7 + 4 * r) 6 = rI M 200 r ∧ rI M (7 + 4 * r) 7 = rI M 201 r ∧ rI M (7 + 4 * r) 3 = rI M 202 r) ∧
  ∃ k n m : Nat, rI M 198 r = nI k ∧ k ≤ 2 ∧ rI M 199 r = nI n ∧ n ≤ 9 ∧ rI M 202 r = nI m ∧ m ≤ 3 ∧ ∀ j, j < m → rI M (8 + 4 * r) j = rI M 203 (3 * r + j) ∧ rI M (9 + 4 * r) j = rI M 204 (3 * r + j) ∧ rI M (10 + 4 * r) j = rI M 205 (3 * r + j) ∧ (rI M 204 (3 * r + j) = 60 ∨ rI M 204 (3 * r + j) = 61 ∨ rI M 204 (3 * r + j) = 62)
def Irul (M : Mm) : Prop := ∀ r, r < nQ M → Rok M r
def Igar (M : Mm) : Prop := rI M 47 2 = rI M 184 39 ∧ ∃ g, g ≤ 40 ∧ rI M 184 39 = nI g ∧ ∀ i, i < g → rI M 48 i = rI M 214 i ∧ rI M 49 i = rI M 215 i
def Isin (M : Mm) : Prop := ∀ a, a < 8 → rI M (168 + 2 * a) 1 = rI M 213 a ∧ ∀ p, p < 40 → (p < nP M → rI M (169 + 2 * a) p = rI M 212 (40 * a + p)) ∧ (nP M ≤ p → rI M (169 + 2 * a) p = -1)
/-- the pieces filed on a wire that aren't done, as they were filed -/
def Ql (M : Mm) (w F : Nat) : List Nat := ((List.range F).map (fun k => (rI M 208 (40 * w + k)).toNatClampNeg)).filter (fun p => decide (rI M 211 (40 * w + p) = -1))
def Fok (M : Mm) (w : Nat) : Prop := ∃ F, F ≤ nP M ∧ rI M 207 w = nI F ∧ (∀ k, k < F → ∃ p, p < nP M ∧ rI M 208 (40 * w + k) = nI p ∧ rI M 209 (40 * w + p) = nI k) ∧
  (∀ p, p < nP M → (rI M 209 (40 * w + p) = -1 ∧ rI M (66 + 4 * w) p = -1 ∧ rI M (67 + 4 * w) p = -1) ∨
    (∃ k h z, k < F ∧ rI M 208 (40 * w + k) = nI p ∧ rI M 209 (40 * w + p) = nI k ∧ rI M 210 (40 * w + p) = nI h ∧ rI M (66 + 4 * w) p = nI h ∧ rI M (67 + 4 * w) p = rI M 211 (40 * w + p) ∧ rI M 193 p = nI z ∧ z ≤ 12 ∧ ((rI M 211 (40 * w + p) = -1 ∧ h < z) ∨ (0 ≤ rI M 211 (40 * w + p) ∧ h = z)))) ∧
  (∀ p, nP M ≤ p → p < 40 → rI M (66 + 4 * w) p = -1 ∧ rI M (67 + 4 * w) p = -1) ∧ rI M (64 + 4 * w) 3 = nI (Ql M w F).length ∧ (Ql M w F).length ≤ 12 ∧ ∀ i, i < (Ql M w F).length → rI M (65 + 4 * w) i = nI ((Ql M w F).getD i 0)
def Ifil (M : Mm) : Prop := (∀ w, w < nW M → Fok M w) ∧ ∀ w, nW M ≤ w → w < 6 → rI M (64 + 4 * w) 3 = 0 ∧ ∀ p, p < nP M → rI M 209 (40 * w + p) = -1
def bit (x : Int64) (p : Nat) : Bool := x.toBitVec.getLsbD p
def Iedi (M : Mm) : Prop := ∀ a, a < 8 → (rI M 220 a = 0 ∧ rI M (168 + 2 * a) 2 = -1) ∨ (rI M 220 a = 1 ∧ rI M (168 + 2 * a) 2 = rI M 221 a ∧ 0 ≤ rI M 221 a ∧ rI M (168 + 2 * a) 3 = rI M 222 a ∧ ∀ p, p < 40 → rI M 223 (40 * a + p) = if bit (rL M (168 + 2 * a) 4) p then 1 else 0)
def Inv (c : Nat) (M : Mm) : Prop := Sh M ∧ Icnt c M ∧ Iref M ∧ Iwir M ∧ Ipie M ∧ Irow M ∧ Itap M ∧ Irul M ∧ Igar M ∧ Isin M ∧ Ifil M ∧ Iedi M
/-- one call: both answer, alike, and what holds goes on -/
def Step (c : Nat) (M : Mm) (f g : Mm → Option (Int32 × Mm)) : Prop := ∃ r M1 M2, f M = some (r, M1) ∧ Sh M1 ∧ g M1 = some (r, M2) ∧ Inv (c + 1) M2
/-- both memories hold the same at the places of S -/
def Eq9 (S : Nat → Nat → Prop) (M M' : Mm) : Prop := ∀ k s, S k s → rI M' k s = rI M k s ∧ rL M' k s = rL M k s
theorem nW_eq {M M' : Mm} (h : rI M' 184 2 = rI M 184 2) : nW M' = nW M := by unfold nW; rw [h]
theorem nP_eq {M M' : Mm} (h : rI M' 184 6 = rI M 184 6) : nP M' = nP M := by unfold nP; rw [h]
theorem nQ_eq {M M' : Mm} (h : rI M' 184 17 = rI M 184 17) : nQ M' = nQ M := by unfold nQ; rw [h]
theorem nTk_eq {M M' : Mm} (h : rI M' 184 31 = rI M 184 31) : nTk M' = nTk M := by unfold nTk; rw [h]
/-- where each part looks -/
def Lcnt (k s : Nat) : Prop := (k = 1 ∧ 10 ≤ s) ∨ (k = 5 ∧ s = 1) ∨ (k = 184 ∧ (s = 2 ∨ s = 6 ∨ s = 17 ∨ s = 31 ∨ s = 42 ∨ s = 43 ∨ s = 56))
def Lref (k _ : Nat) : Prop := k = 63 ∨ k = 185
def Lwir (k s : Nat) : Prop := (k = 184 ∧ s = 2) ∨ (64 ≤ k ∧ k < 88 ∧ k % 4 = 0 ∧ 4 ≤ s) ∨ (186 ≤ k ∧ k ≤ 188)
def Lpie (k s : Nat) : Prop := (k = 184 ∧ s = 6) ∨ (88 ≤ k ∧ k < 168) ∨ (189 ≤ k ∧ k ≤ 196)
def Lrow (k s : Nat) : Prop := (k = 184 ∧ s = 15) ∨ (k = 61 ∧ s = 1) ∨ k = 62 ∨ k = 197
def Ltap (k s : Nat) : Prop := (k = 184 ∧ s = 26) ∨ (k = 59 ∧ s = 1) ∨ k = 60 ∨ k = 206
def Lrul (k s : Nat) : Prop := (k = 184 ∧ s = 17) ∨ (7 ≤ k ∧ k < 47) ∨ (198 ≤ k ∧ k ≤ 205)
def Lgar (k s : Nat) : Prop := (k = 184 ∧ s = 39) ∨ (k = 47 ∧ s = 2) ∨ k = 48 ∨ k = 49 ∨ k = 214 ∨ k = 215
def Lsin (k s : Nat) : Prop := (k = 184 ∧ s = 6) ∨ (168 ≤ k ∧ k < 184 ∧ (k % 2 = 1 ∨ s = 1)) ∨ k = 212 ∨ k = 213
def Lfil (k s : Nat) : Prop := (k = 184 ∧ (s = 2 ∨ s = 6)) ∨ (64 ≤ k ∧ k < 88 ∧ (k % 4 ≠ 0 ∨ s = 3)) ∨ k = 193 ∨ (207 ≤ k ∧ k ≤ 211)
def Ledi (k s : Nat) : Prop := (168 ≤ k ∧ k < 184 ∧ k % 2 = 0 ∧ 2 ≤ s) ∨ (220 ≤ k ∧ k ≤ 223)
theorem Icnt.keep {c : Nat} {M M' : Mm} (h : Icnt c M) (e : Eq9 Lcnt M M') : Icnt (c + 1) M' := by
  have i : ∀ k s, Lcnt k s → rI M' k s = rI M k s := fun k s q => (e k s q).1
  have e2 := i 184 2 (by simp [Lcnt])
  have e6 := i 184 6 (by simp [Lcnt])
  have e17 := i 184 17 (by simp [Lcnt])
  have e31 := i 184 31 (by simp [Lcnt])
  unfold Icnt at h ⊢
  rw [nW_eq e2, nP_eq e6, nQ_eq e17, nTk_eq e31, e2, e6, e17, e31, i 1 10 (by simp [Lcnt]), i 1 11 (by simp [Lcnt]), i 5 1 (by simp [Lcnt]), i 1 12 (by simp [Lcnt]), i 1 13 (by simp [Lcnt]), i 1 14 (by simp [Lcnt]), i 1 15 (by simp [Lcnt]), i 184 42 (by simp [Lcnt]), i 184 43 (by simp [Lcnt]), i 184 56 (by simp [Lcnt])]
  obtain ⟨h1, h2, h3, h4, h5⟩ := h
  exact ⟨h1, h2, h3, ⟨h4.1, h4.2.1, by omega⟩, h5⟩
theorem Iref.keep {M M' : Mm} (h : Iref M) (e : Eq9 Lref M M') : Iref M' := fun i hi => by
  rw [(e 63 i (Or.inl rfl)).1, (e 185 _ (Or.inr rfl)).1]
  exact h i hi
theorem Wok.keep {M M' : Mm} {w : Nat} (hw : w < 6) (h : Wok M w) (e : Eq9 Lwir M M') : Wok M' w := by
  unfold Wok at h ⊢
  rw [(e (64 + 4 * w) 4 (by unfold Lwir; omega)).1, (e (64 + 4 * w) 5 (by unfold Lwir; omega)).1, (e (64 + 4 * w) 6 (by unfold Lwir; omega)).1, (e 186 w (by unfold Lwir; omega)).1, (e 187 w (by unfold Lwir; omega)).1, (e 188 w (by unfold Lwir; omega)).1]
  exact h
theorem Iwir.keep {M M' : Mm} (hn : nW M ≤ 6) (h : Iwir M) (e : Eq9 Lwir M M') : Iwir M' := fun w hw => by
  rw [nW_eq (e 184 2 (by simp [Lwir])).1] at hw
  exact (h w hw).keep (by omega) e
theorem Pok.keep {M M' : Mm} {p : Nat} (hp : p < 40) (h : Pok M p) (e : Eq9 Lpie M M') : Pok M' p := by
  have i : ∀ k s, Lpie k s → rI M' k s = rI M k s := fun k s q => (e k s q).1
  have c : ∀ s, rI M' (88 + 2 * p) s = rI M (88 + 2 * p) s := fun s => i _ s (by unfold Lpie; omega)
  have m : ∀ k s, 189 ≤ k → k ≤ 196 → rI M' k s = rI M k s := fun k s h1 h2 => i k s (by unfold Lpie; omega)
  obtain ⟨h1, k, s, b, t, z, h2, h3, h4, h5, h6, h7, h8, h9, h10, h11, h12, h13, h14, h15, h16⟩ := h
  refine ⟨by simp only [c, m _ _ (show 189 ≤ 189 by omega) (by omega), m 190 _ (by omega) (by omega), m 191 _ (by omega) (by omega), m 192 _ (by omega) (by omega), m 193 _ (by omega) (by omega), m 194 _ (by omega) (by omega), m 195 _ (by omega) (by omega)]; exact h1, k, s, b, t, z, ?_⟩
  rw [m 189 p (by omega) (by omega), m 190 p (by omega) (by omega), m 191 p (by omega) (by omega), m 192 p (by omega) (by omega), m 193 p (by omega) (by omega), m 194 p (by omega) (by omega), m 195 p (by omega) (by omega)]
  refine ⟨h2, h3, h4, h5, h6, h7, h8, h9, h10, h11, h12, fun j hj => ?_, h14, h15, fun hk => ?_⟩
  · rw [i (89 + 2 * p) j (by unfold Lpie; omega), m 196 _ (by omega) (by omega)]
    exact h13 j hj
  · obtain ⟨q, kq, zq, g1, g2, g3, g4, g5, g6⟩ := h16 hk
    exact ⟨q, kq, zq, g1, g2, by rw [m 190 q (by omega) (by omega)]; exact g3, by rw [m 189 q (by omega) (by omega)]; exact g4, by rw [m 193 q (by omega) (by omega)]; exact g5, g6⟩
theorem Ipie.keep {M M' : Mm} (hn : nP M ≤ 40) (h : Ipie M) (e : Eq9 Lpie M M') : Ipie M' := fun p hp => by
  rw [nP_eq (e 184 6 (by simp [Lpie])).1] at hp
  exact (h p hp).keep (by omega) e
theorem Irow.keep {M M' : Mm} (h : Irow M) (e : Eq9 Lrow M M') : Irow M' := by
  have i : ∀ k s, Lrow k s → rI M' k s = rI M k s := fun k s q => (e k s q).1
  obtain ⟨h1, z, h2, h3, h4⟩ := h
  refine ⟨by rw [i 61 1 (by simp [Lrow]), i 184 15 (by simp [Lrow])]; exact h1, z, h2, by rw [i 184 15 (by simp [Lrow])]; exact h3, fun j hj => ?_⟩
  rw [i 62 j (by simp [Lrow]), i 197 j (by simp [Lrow])]
  exact h4 j hj
theorem Itap.keep {M M' : Mm} (h : Itap M) (e : Eq9 Ltap M M') : Itap M' := by
  have i : ∀ k s, Ltap k s → rI M' k s = rI M k s := fun k s q => (e k s q).1
  obtain ⟨h1, z, h2, h3, h4⟩ := h
  refine ⟨by rw [i 59 1 (by simp [Ltap]), i 184 26 (by simp [Ltap])]; exact h1, z, h2, by rw [i 184 26 (by simp [Ltap])]; exact h3, fun j hj => ?_⟩
  rw [i 60 j (by simp [Ltap]), i 206 j (by simp [Ltap])]
  exact h4 j hj
theorem Rok.keep {M M' : Mm} {r : Nat} (hr : r < 10) (h : Rok M r) (e : Eq9 Lrul M M') : Rok M' r := by
  have i : ∀ k s, Lrul k s → rI M' k s = rI M k s := fun k s q => (e k s q).1
  have c : ∀ s, rI M' (7 + 4 * r) s = rI M (7 + 4 * r) s := fun s => i _ s (by unfold Lrul; omega)
  have m : ∀ k s, 198 ≤ k → k ≤ 205 → rI M' k s = rI M k s := fun k s h1 h2 => i k s (by unfold Lrul; omega)
  obtain ⟨h1, k, n, q, h2, h3, h4, h5, h6, h7, h8⟩ := h
  refine ⟨by simp only [c, m 198 _ (by omega) (by omega), m 199 _ (by omega) (by omega), m 200 _ (by omega) (by omega), m 201 _ (by omega) (by omega), m 202 _ (by omega) (by omega)]; exact h1, k, n, q, ?_⟩
  rw [m 198 r (by omega) (by omega), m 199 r (by omega) (by omega), m 202 r (by omega) (by omega)]
  refine ⟨h2, h3, h4, h5, h6, h7, fun j hj => ?_⟩
  rw [i (8 + 4 * r) j (by unfold Lrul; omega), i (9 + 4 * r) j (by unfold Lrul; omega), i (10 + 4 * r) j (by unfold Lrul; omega), m 203 _ (by omega) (by omega), m 204 _ (by omega) (by omega), m 205 _ (by omega) (by omega)]
  exact h8 j hj
theorem Irul.keep {M M' : Mm} (hn : nQ M ≤ 10) (h : Irul M) (e : Eq9 Lrul M M') : Irul M' := fun r hr => by
  rw [nQ_eq (e 184 17 (by simp [Lrul])).1] at hr
  exact (h r hr).keep (by omega) e
theorem Igar.keep {M M' : Mm} (h : Igar M) (e : Eq9 Lgar M M') : Igar M' := by
  have i : ∀ k s, Lgar k s → rI M' k s = rI M k s := fun k s q => (e k s q).1
  obtain ⟨h1, z, h2, h3, h4⟩ := h
  refine ⟨by rw [i 47 2 (by simp [Lgar]), i 184 39 (by simp [Lgar])]; exact h1, z, h2, by rw [i 184 39 (by simp [Lgar])]; exact h3, fun j hj => ?_⟩
  rw [i 48 j (by simp [Lgar]), i 49 j (by simp [Lgar]), i 214 j (by simp [Lgar]), i 215 j (by simp [Lgar])]
  exact h4 j hj
theorem Isin.keep {M M' : Mm} (h : Isin M) (e : Eq9 Lsin M M') : Isin M' := fun a ha => by
  have i : ∀ k s, Lsin k s → rI M' k s = rI M k s := fun k s q => (e k s q).1
  rw [i (168 + 2 * a) 1 (by unfold Lsin; omega), i 213 a (by simp [Lsin]), nP_eq (i 184 6 (by simp [Lsin]))]
  refine ⟨(h a ha).1, fun p hp => ?_⟩
  rw [i (169 + 2 * a) p (by unfold Lsin; omega), i 212 _ (by simp [Lsin])]
  exact (h a ha).2 p hp
theorem Ql.keep {M M' : Mm} (e : Eq9 Lfil M M') (w F : Nat) : Ql M' w F = Ql M w F := by
  have i : ∀ k s, Lfil k s → rI M' k s = rI M k s := fun k s q => (e k s q).1
  unfold Ql
  have e1 : (fun k => (rI M' 208 (40 * w + k)).toNatClampNeg) = (fun k => (rI M 208 (40 * w + k)).toNatClampNeg) := by
    funext k
    rw [i 208 _ (by simp [Lfil])]
  have e2 : (fun p => decide (rI M' 211 (40 * w + p) = -1)) = (fun p => decide (rI M 211 (40 * w + p) = -1)) := by
    funext k
    rw [i 211 _ (by simp [Lfil])]
  rw [e1, e2]
theorem Fok.keep {M M' : Mm} {w : Nat} (hw : w < 6) (h : Fok M w) (e : Eq9 Lfil M M') : Fok M' w := by
  have i : ∀ k s, Lfil k s → rI M' k s = rI M k s := fun k s q => (e k s q).1
  have m : ∀ k s, 207 ≤ k → k ≤ 211 → rI M' k s = rI M k s := fun k s h1 h2 => i k s (by unfold Lfil; omega)
  have c6 : ∀ s, rI M' (66 + 4 * w) s = rI M (66 + 4 * w) s := fun s => i _ s (by unfold Lfil; omega)
  have c7 : ∀ s, rI M' (67 + 4 * w) s = rI M (67 + 4 * w) s := fun s => i _ s (by unfold Lfil; omega)
  have c5 : ∀ s, rI M' (65 + 4 * w) s = rI M (65 + 4 * w) s := fun s => i _ s (by unfold Lfil; omega)
  have m7 : ∀ s, rI M' 207 s = rI M 207 s := fun s => m 207 s (by omega) (by omega)
  have m8 : ∀ s, rI M' 208 s = rI M 208 s := fun s => m 208 s (by omega) (by omega)
  have m9 : ∀ s, rI M' 209 s = rI M 209 s := fun s => m 209 s (by omega) (by omega)
  have m10 : ∀ s, rI M' 210 s = rI M 210 s := fun s => m 210 s (by omega) (by omega)
  have m11 : ∀ s, rI M' 211 s = rI M 211 s := fun s => m 211 s (by omega) (by omega)
  have z3 : ∀ s, rI M' 193 s = rI M 193 s := fun s => i 193 s (by simp [Lfil])
  unfold Fok at h ⊢
  simp only [Ql.keep e, c5, c6, c7, m7, m8, m9, m10, m11, z3, nP_eq (i 184 6 (by simp [Lfil])), i (64 + 4 * w) 3 (by unfold Lfil; omega)]
  exact h
theorem Ifil.keep {M M' : Mm} (hn : nW M ≤ 6) (h : Ifil M) (e : Eq9 Lfil M M') : Ifil M' := by
  have i : ∀ k s, Lfil k s → rI M' k s = rI M k s := fun k s q => (e k s q).1
  unfold Ifil
  rw [nW_eq (i 184 2 (by simp [Lfil])), nP_eq (i 184 6 (by simp [Lfil]))]
  refine ⟨fun w hw => (h.1 w hw).keep (by omega) e, fun w h1 h2 => ⟨?_, fun p hp => ?_⟩⟩
  · rw [i (64 + 4 * w) 3 (by unfold Lfil; omega)]
    exact (h.2 w h1 h2).1
  · rw [i 209 _ (by simp [Lfil])]
    exact (h.2 w h1 h2).2 p hp
theorem Iedi.keep {M M' : Mm} (h : Iedi M) (e : Eq9 Ledi M M') : Iedi M' := fun a ha => by
  have i : ∀ k s, Ledi k s → rI M' k s = rI M k s := fun k s q => (e k s q).1
  have m0 : ∀ s, rI M' 220 s = rI M 220 s := fun s => i 220 s (by simp [Ledi])
  have m1 : ∀ s, rI M' 221 s = rI M 221 s := fun s => i 221 s (by simp [Ledi])
  have m2 : ∀ s, rI M' 222 s = rI M 222 s := fun s => i 222 s (by simp [Ledi])
  have m3 : ∀ s, rI M' 223 s = rI M 223 s := fun s => i 223 s (by simp [Ledi])
  have h9 := h a ha
  rw [m0, m1, m2, i (168 + 2 * a) 2 (by unfold Ledi; omega), i (168 + 2 * a) 3 (by unfold Ledi; omega), (e (168 + 2 * a) 4 (by unfold Ledi; omega)).2]
  simp only [m3]
  exact h9
