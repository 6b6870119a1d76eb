/-! LAYER 2: at the start it holds -/
theorem zT_r1 : ∀ i, i < 7 → (63, i) ∈ zT ∧ (185, i + 2) ∈ zT := by decide +kernel
theorem zT_r2 : ∀ w, w < 6 → (64 + 4 * w, 3) ∈ zT := by decide +kernel
theorem zT_r3 : ∀ a, a < 8 → (168 + 2 * a, 1) ∈ zT ∧ (213, a) ∈ zT ∧ (220, a) ∈ zT ∧ (168 + 2 * a, 2) ∈ nT := by decide +kernel
theorem nT_r1 : ∀ a, a < 8 → ∀ p, p < 40 → (169 + 2 * a, p) ∈ nT := by decide +kernel
theorem Inv_0 {M : Mm} (h : MI M) : Inv 0 M := by
  obtain ⟨hs, hz, hn⟩ := h
  have z : ∀ k s, (k, s) ∈ zT → rI M k s = 0 := fun k s q => hz (k, s) q
  have n : ∀ k s, (k, s) ∈ nT → rI M k s = -1 := fun k s q => hn (k, s) q
  have z2 : rI M 184 2 = 0 := z 184 2 (by decide)
  have z6 : rI M 184 6 = 0 := z 184 6 (by decide)
  have z17 : rI M 184 17 = 0 := z 184 17 (by decide)
  have z31 : rI M 184 31 = 0 := z 184 31 (by decide)
  have w0 : nW M = 0 := by unfold nW; rw [z2]; decide
  have p0 : nP M = 0 := by unfold nP; rw [z6]; decide
  have q0 : nQ M = 0 := by unfold nQ; rw [z17]; decide
  have t0 : nTk M = 0 := by unfold nTk; rw [z31]; decide
  refine ⟨hs, ⟨⟨?_, ?_, ?_⟩, ⟨?_, ?_, ?_⟩, ⟨?_, ?_, ?_⟩, ⟨?_, ?_, ?_⟩, ?_, ?_, ?_⟩, fun i hi => ?_, fun w hw => by omega, fun p hp => by omega, ⟨?_, 0, by omega, ?_, fun i hi => by omega⟩, ⟨?_, 0, by omega, ?_, fun i hi => by omega⟩, fun r hr => by omega, ⟨?_, 0, by omega, ?_, fun i hi => by omega⟩, fun a ha => ⟨?_, fun p hp => ⟨fun q => by omega, fun _ => ?_⟩⟩, ⟨fun w hw => by omega, fun w _ hw => ⟨?_, fun p hp => by omega⟩⟩, fun a ha => Or.inl ⟨?_, ?_⟩⟩
  · rw [z 1 10 (by decide), z2]
  · rw [z2, w0]; rfl
  · omega
  · rw [z 1 11 (by decide), z6]
  · rw [z6, p0]; rfl
  · omega
  · rw [z 5 1 (by decide), z17]
  · rw [z17, q0]; rfl
  · omega
  · rw [z 1 12 (by decide), z31]
  · rw [z31, t0]; rfl
  · omega
  · rw [z 1 13 (by decide), z 184 42 (by decide)]
  · rw [z 1 14 (by decide), z 184 43 (by decide)]
  · rw [z 1 15 (by decide), z 184 56 (by decide)]
  · rw [z 63 i (zT_r1 i hi).1, z 185 _ (zT_r1 i hi).2]
  · rw [z 61 1 (by decide), z 184 15 (by decide)]
  · rw [z 184 15 (by decide)]; rfl
  · rw [z 59 1 (by decide), z 184 26 (by decide)]
  · rw [z 184 26 (by decide)]; rfl
  · rw [z 47 2 (by decide), z 184 39 (by decide)]
  · rw [z 184 39 (by decide)]; rfl
  · rw [z _ _ (zT_r3 a ha).1, z _ _ (zT_r3 a ha).2.1]
  · exact n _ _ (nT_r1 a ha p hp)
  · exact z _ _ (zT_r2 w hw)
  · exact z _ _ (zT_r3 a ha).2.2.1
  · exact n _ _ (zT_r3 a ha).2.2.2
