/-! LAYER 2: file -/
section FIL
variable {c : Nat} {A B : Mm}
theorem Inv.fF (h : Inv c (mg A B)) {w : Nat} (hw : w < nW B) : ∃ F, Fm B w F ∧ F ≤ nP B ∧ rI A (64 + 4 * w) 3 = nI (Qr B w 0 F).length ∧ (Qr B w 0 F).length ≤ 12 ∧ ∀ i, i < (Qr B w 0 F).length → rI A (65 + 4 * w) i = nI ((Qr B w 0 F).getD i 0) := by
  have h1 := h.ple
  obtain ⟨F, f1, f2, f3, f4, f5, f6, f7, f8⟩ := h.fk hw
  rw [Qm_r] at f6 f7 f8
  exact ⟨F, ⟨f2, by omega, fun k hk => by obtain ⟨p, p1, p2, p3⟩ := f3 k hk; exact ⟨p, by omega, p2, p3⟩⟩, f1, f6, f7, f8⟩
/-- the model after a piece was filed -/
def Bfil (B : Mm) (w p F : Nat) : Mm := wI (wI (wI (wI (wI B 209 (40 * w + p) (nI F)) 208 (40 * w + F) (nI p)) 210 (40 * w + p) 0) 211 (40 * w + p) (-1)) 207 w (nI (F + 1))
def Afil (A : Mm) (w p L : Nat) : Mm := wI (wI (wI A (65 + 4 * w) L (nI p)) (66 + 4 * w) p 0) (64 + 4 * w) 3 (nI (L + 1))
theorem Bfil_wr (B : Mm) (w p F : Nat) (hF : F < 40) (hp : p < 40) : Wr (fun k s => (k = 207 ∧ s = w) ∨ (208 ≤ k ∧ k ≤ 211 ∧ 40 * w ≤ s ∧ s < 40 * w + 40)) B (Bfil B w p F) :=
  ((((((Wr.rf _ _).wI (by omega)).wI (by omega)).wI (by omega)).wI (by omega)).wI (by omega))
theorem Afil_wr (A : Mm) (w p L : Nat) : Wr (fun k s => (k = 64 + 4 * w ∧ s = 3) ∨ k = 65 + 4 * w ∨ k = 66 + 4 * w) A (Afil A w p L) :=
  ((((Wr.rf _ _).wI (by omega)).wI (by omega)).wI (by omega))
theorem Bfil_209 (B : Mm) (w p F j : Nat) : rI (Bfil B w p F) 209 j = if j = 40 * w + p then nI F else rI B 209 j := by simp [Bfil, rI_wI]
theorem Bfil_208 (B : Mm) (w p F j : Nat) : rI (Bfil B w p F) 208 j = if j = 40 * w + F then nI p else rI B 208 j := by simp [Bfil, rI_wI]
theorem Bfil_210 (B : Mm) (w p F j : Nat) : rI (Bfil B w p F) 210 j = if j = 40 * w + p then 0 else rI B 210 j := by simp [Bfil, rI_wI]
theorem Bfil_211 (B : Mm) (w p F j : Nat) : rI (Bfil B w p F) 211 j = if j = 40 * w + p then -1 else rI B 211 j := by simp [Bfil, rI_wI]
theorem Bfil_207 (B : Mm) (w p F : Nat) : rI (Bfil B w p F) 207 w = nI (F + 1) := by simp [Bfil, rI_wI]
/-- the queue's new end -/
theorem Bfil_Qr {B : Mm} {w p F : Nat} (hF : Fm B w F) (hp : p < 40) (h9 : rI B 209 (40 * w + p) = -1) : Qr (Bfil B w p F) w 0 (F + 1) = Qr B w 0 F ++ [p] := by
  have f40 := hF.2.1
  have fl1 : ∀ k, k < F → fl (Bfil B w p F) w k = fl B w k := fun k hk => by
    unfold fl
    rw [Bfil_208, if_neg (by omega)]
  have fl2 : fl (Bfil B w p F) w F = p := by
    unfold fl
    rw [Bfil_208, if_pos rfl, nI_clamp (by omega)]
  have e1 : Qr (Bfil B w p F) w 0 F = Qr B w 0 F := by
    unfold Qr
    have e2 : (List.range' 0 F).map (fl (Bfil B w p F) w) = (List.range' 0 F).map (fl B w) := by
      apply List.map_congr_left
      intro k hk
      exact fl1 k (by have := (List.mem_range'_1.1 hk).2; omega)
    rw [e2]
    apply List.filter_congr
    intro q hq
    obtain ⟨k, hk, rfl⟩ := List.mem_map.1 hq
    have hk2 : k < F := by have := (List.mem_range'_1.1 hk).2; omega
    have n1 : fl B w k ≠ p := fun e => by
      have := (hF.fl hk2).2.2
      rw [e, h9] at this
      exact ne_m1 (by omega) this.symm
    rw [Bfil_211, if_neg (by omega)]
  rw [Qr_app, e1, Nat.zero_add, Qr_s, fl2, Bfil_211, if_pos rfl, if_pos rfl]
  rfl
end FIL
