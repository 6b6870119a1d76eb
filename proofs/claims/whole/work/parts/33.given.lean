/-! from the law's entry -/
def tmS (i : Nat) : Term := Term.string (lks.getD i ("", 0, "")).1 (lks.getD i ("", 0, "")).2.1
def fcN : List Cond := flatC (Cond.and given_1 narrow_1)
theorem st_1 : ∀ i, i < 14 → Cond.exactly (tmS i) "java/lang/String" ∈ fcN := by decide +kernel
theorem st_2 : ∀ i, i < 14 → Cond.eq (.field (tmS i) "java/lang/String" "coder" "B") (.int 0) ∈ fcN := by decide +kernel
theorem st_3 : ∀ i, i < 14 → Cond.arrayOf (.field (tmS i) "java/lang/String" "value" "[B") .byte ∈ fcN := by decide +kernel
theorem st_4 : ∀ i, i < 14 → Cond.eq (.length (.field (tmS i) "java/lang/String" "value" "[B")) (.int (Int32.ofNat (slen.getD i 0))) ∈ fcN := by decide +kernel
theorem st_5 : ∀ i, i < 14 → ∀ j, j < slen.getD i 0 → Cond.eq (.elem (.field (tmS i) "java/lang/String" "value" "[B") (.int (Int32.ofNat j))) (.int ((sbyt.getD i []).getD j 0)) ∈ fcN := by decide +kernel
theorem st_6 : ∀ j, j < 14 → ∀ i, i < j → Cond.not (Cond.eq (tmS i) (tmS j)) ∈ fcN := by decide +kernel
theorem st_7 : ∀ i, i < 14 → slen.getD i 0 < 2 ^ 31 := by decide +kernel
theorem st_8 : ∀ i, i < 14 → (match lks[i]? with | some q => decide (Cond.stringRef q.1 q.2.1 q.2.2 ∈ tables_1) && decide (tmS i = Term.string q.1 q.2.1) | none => false) = true := by decide +kernel
theorem st_9 : Cond.eq (.static "java/lang/String" "COMPACT_STRINGS" "Z") (.int 1) ∈ fcN := by decide +kernel
theorem st_10 : Cond.isRef (.static "jdk/internal/util/Preconditions" "SIOOBE_FORMATTER" "Ljava/util/function/BiFunction;") ∈ fcN := by decide +kernel
theorem nz_in : ∀ w ∈ nzw, w ∈ tables_1 := by decide +kernel
theorem ao_in : ∀ n ∈ aow, Cond.arrayOver (.object n) ∈ tables_1 := by decide +kernel
