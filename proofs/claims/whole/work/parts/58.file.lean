/-! LAYER 2: file -/
section FIL
variable {c : Nat} {A B : Mm}
theorem Inv.fF (h : Inv c (mg A B)) {w : Nat} (hw : w < nW B) : ∃ F, Fm B w F ∧ F ≤ nP B ∧ rI A (64 + 4 * w) 3 = nI (Qr B w 0 F).length ∧ (Qr B w 0 F).length ≤ 12 ∧ ∀ i, i < (Qr B w 0 F).length → rI A (65 + 4 * w) i = nI ((Qr B w 0 F).getD i 0) := by
  have h1 := h.ple
  obtain ⟨F, f1, f2, f3, f4, f5, f6, f7, f8⟩ := h.fk hw
  rw [Qm_r] at f6 f7 f8
  exact ⟨F, ⟨f2, by omega, fun k hk => by obtain ⟨p, p1, p2, p3⟩ := f3 k hk; exact ⟨p, by omega, p2, p3⟩⟩, f1, f6, f7, f8⟩
/-- the model after a piece was filed -/
def Bfil (B : Mm) (w p F : Nat) : Mm := wI (wI (wI (wI (wI B 209 (40 * w + p) (nI F)) 208 (40 * w + F) (nI p)) 210 (40 * w + p) 0) 211 (40 * w + p) (-1)) 207 w (nI (F + 1))
def Afil (A : Mm) (w p L : Nat) : Mm := wI (wI (wI A (65 + 4 * w) L (nI p)) (66 + 4 * w) p 0) (64 + 4 * w) 3 (nI (L + 1))
end FIL
