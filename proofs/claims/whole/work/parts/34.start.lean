theorem kn_all {s : State} {args : Array Value} (hT : ∀ w ∈ TW, w.before args s = true) : ∀ (k : Nat) (q : vw_C), cls[k]? = some q → ∃ (cC : ClassId) (iS : Nat → Nat), u_Kn s q.1 q.2.1 q.2.2 cC iS := by
  intro k q hq
  match k, hq with
  | 0, hq => cases hq; exact u_known (C := n_c0) (T := f_c0) (N := 4) (n := 4) hT in_c0 (hT (.instantiable n_c0 4) (tw_i 203 (by decide +kernel)))
  | 1, hq => cases hq; exact u_known (C := n_c1) (T := f_c1) (N := 3) (n := 3) hT in_c1 (hT (.instantiable n_c1 3) (tw_i 142 (by decide +kernel)))
  | 2, hq => cases hq; exact u_known (C := n_c2) (T := f_c2) (N := 5) (n := 5) hT in_c2 (hT (.instantiable n_c2 5) (tw_i 334 (by decide +kernel)))
  | 3, hq => cases hq; exact u_known (C := n_c3) (T := f_c3) (N := 8) (n := 8) hT in_c3 (hT (.instantiable n_c3 8) (tw_i 291 (by decide +kernel)))
  | 4, hq => cases hq; exact u_known (C := n_c4) (T := f_c4) (N := 2) (n := 2) hT in_c4 (hT (.instantiable n_c4 2) (tw_i 244 (by decide +kernel)))
  | 5, hq => cases hq; exact u_known (C := n_c5) (T := f_c5) (N := 8) (n := 8) hT in_c5 (hT (.instantiable n_c5 8) (tw_i 95 (by decide +kernel)))
  | 6, hq => cases hq; exact u_known (C := n_c6) (T := f_c6) (N := 2) (n := 2) hT in_c6 (hT (.instantiable n_c6 2) (tw_i 88 (by decide +kernel)))
  | 7, hq => cases hq; exact u_known (C := n_c7) (T := f_c7) (N := 10) (n := 10) hT in_c7 (hT (.instantiable n_c7 10) (tw_i 159 (by decide +kernel)))
  | 8, hq => cases hq; exact u_known (C := n_c8) (T := f_c8) (N := 4) (n := 4) hT in_c8 (hT (.instantiable n_c8 4) (tw_i 224 (by decide +kernel)))
  | 9, hq => cases hq; exact u_known (C := n_c9) (T := f_c9) (N := 7) (n := 7) hT in_c9 (hT (.instantiable n_c9 7) (tw_i 258 (by decide +kernel)))
  | 10, hq => cases hq; exact u_known (C := n_c10) (T := f_c10) (N := 16) (n := 16) hT in_c10 (hT (.instantiable n_c10 16) (tw_i 74 (by decide +kernel)))
  | 11, hq => cases hq; exact u_known (C := n_c11) (T := f_c11) (N := 58) (n := 58) hT in_c11 (hT (.instantiable n_c11 58) (tw_i 861 (by decide +kernel)))
  | k + 12, hq => simp [cls] at hq
theorem arr_prim {s : State} {args : Array Value} {ty : FieldType} (hty : (ty = .int ∨ ty = .boolean)) (h : (Cond.arrayClass ty).before args s = true) : ∃ cA : ClassId, ArrOfT s cA ty ∧ va_RA s cA ty := by
  obtain ⟨cA, kA, comp, h1, h2, h3⟩ := Cond.arrayClass_spec h
  refine ⟨cA, fun n z => ⟨fun k h => (by cases h), kA, h2, comp, h3⟩, ?_⟩
  rcases hty with rfl | rfl <;> exact h1
theorem arr_obj {s : State} {args : Array Value} {n : String} (h : (Cond.arrayOver (.object n)).before args s = true) : ∃ cA : ClassId, ArrOfT s cA (.object n) ∧ va_RA s cA (.object n) := by
  obtain ⟨comp, c, k, h1, h2, h3, h4, h5⟩ := Cond.arrayOver_spec h
  exact ⟨c, fun N z => ⟨fun k h => (by cases h), k, h3, comp, h4⟩, ⟨k, comp, h3, h4, h1, h5⟩⟩
theorem arr_all {s : State} {args : Array Value} (hT : ∀ w ∈ TW, w.before args s = true) (hts : ∀ w ∈ lw_tbl, w.before args s = true) : ∃ a : Nat → ClassId, ∀ V : Ev, V.2.2.1 = a → ∀ (k : Nat) (q : ClassId × FieldType), (tys V)[k]? = some q → ArrOfT s q.1 q.2 ∧ va_RA s q.1 q.2 := by
  have hao : ∀ n ∈ aow, (Cond.arrayOver (.object n)).before args s = true := fun n hn => hts _ (List.mem_append_right _ (ao_in n hn))
  obtain ⟨c0, h0⟩ := arr_prim (s := s) (args := args) (Or.inl rfl) (hT (.arrayClass .int) (tw_i 131 (by decide +kernel)))
  obtain ⟨c1, h1⟩ := arr_prim (s := s) (args := args) (Or.inr rfl) (hT (.arrayClass .boolean) (tw_i 1040 (by decide +kernel)))
  obtain ⟨c2, h2⟩ := arr_obj (hao n_c2 (by decide))
  obtain ⟨c3, h3⟩ := arr_obj (hao n_c3 (by decide))
  obtain ⟨c4, h4⟩ := arr_obj (hao n_c5 (by decide))
  obtain ⟨c5, h5⟩ := arr_obj (hao n_c9 (by decide))
  refine ⟨fun k => if k = 0 then c0 else if k = 1 then c1 else if k = 2 then c2 else if k = 3 then c3 else if k = 4 then c4 else c5, fun V hV k q hq => ?_⟩
  match k, hq with
  | 0, hq => cases hq; rw [hV]; exact h0
  | 1, hq => cases hq; rw [hV]; exact h1
  | 2, hq => cases hq; rw [hV]; exact h2
  | 3, hq => cases hq; rw [hV]; exact h3
  | 4, hq => cases hq; rw [hV]; exact h4
  | 5, hq => cases hq; rw [hV]; exact h5
  | k + 6, hq => simp [tys] at hq
/-- the empty memory -/
def Mm0 : Mm := (0, fun _ _ => 0, fun _ _ => 0, fun _ _ => 0)
set_option maxHeartbeats 4000000 in
set_option maxRecDepth 100000 in
/-- the law's walk, from what s_law answers -/
theorem start_of {p : Program} {e : Env} {s : State} {m : MethodId} {below : List Frame} {meth : Method} {c : Code} (l : Launch) {b L : Nat} {xs : Nat → Int32} {M' : Mm} (hlaw : s_law L xs Mm0 = some (1, M')) (C0 : lw_At p s m meth c b L xs) : W p l e room_1 s m #[Value.ref b] below meth c s.heap [] 0 0 (lw_Z below #[Value.ref b] s) (entryFrame m ([Value.ref b] : List Value).toArray 4) := by
  obtain ⟨hx, hb, hr, hml, hown, hts, hX, hbl, hlocks, hgv⟩ := id C0
  have hT : ∀ w ∈ TW, w.before #[Value.ref b] s = true := fun w hw => hts w (tw_good w hw).1
  have hfc : ∀ w ∈ fcN, w.before #[Value.ref b] s = true := flat_of_before _ hgv
  have hk : ∀ k : Nat, ∃ q9 : ClassId × (Nat → Nat), ∀ q : vw_C, cls[k]? = some q → u_Kn s q.1 q.2.1 q.2.2 q9.1 q9.2 := by
    intro k
    cases hq : cls[k]? with
    | none => exact ⟨(m.cls, fun _ => 0), fun q h => by cases h⟩
    | some q =>
      obtain ⟨cC, iS, h⟩ := kn_all hT k q hq
      exact ⟨(cC, iS), fun q' h' => by cases h'; exact h⟩
  obtain ⟨D, hD⟩ := Classical.axiomOfChoice hk
  obtain ⟨a, ha⟩ := arr_all hT hts
  have hA0 : ∀ q : Nat, q < s.heap.size → ¬ (s.heap.size - 1 + 1 ≤ q) := fun q h => by omega
  obtain ⟨adK, adV, hS, hE⟩ := vk_Sof (args := #[Value.ref b]) (s := s) (N := 14) (tm := tmS) (len := slen) (byt := sbyt) (A := fun q => s.heap.size - 1 + 1 ≤ q) st_7 (fun i hi => hfc _ (st_1 i hi)) (fun i hi => hfc _ (st_2 i hi)) (fun i hi => hfc _ (st_3 i hi)) (fun i hi => hfc _ (st_4 i hi)) (fun i hi j hj => hfc _ (st_5 i hi j hj)) (fun i j hi hj hn => by
    rcases Nat.lt_or_ge i j with h | h
    · exact Or.inl (hfc _ (st_6 j hj i h))
    · exact Or.inr (hfc _ (st_6 i hi j (by omega)))) hA0
  obtain ⟨V, hV⟩ : ∃ V : Ev, V = (s.heap.size - 1, (fun k => (D k).1, fun k => (D k).2), a, adK, adV) := ⟨_, rfl⟩
  have hAf : Af V = fun q => s.heap.size - 1 + 1 ≤ q := by rw [hV]; rfl
  have hV1 : V.1 = s.heap.size - 1 := by rw [hV]
  have hKs : Ks V s := by
    refine ⟨⟨fun k q hq => ?_, ha V (by rw [hV])⟩, fun w hw => ?_, fun n hn => va_AO.of (hts _ (List.mem_append_right _ (ao_in n hn))), fun i q hq => ?_, ?_, ?_, ?_⟩
    · rw [hV]
      exact hD k q hq
    · obtain ⟨a9, i9, x9, h9, rfl⟩ := nzw_nest w hw
      exact va_Nw.of rfl (hts _ (List.mem_append_right _ (nz_in _ hw)))
    · have hi : i < 14 := (List.getElem?_eq_some_iff.mp hq).1
      have h8 := st_8 i hi
      rw [hq] at h8
      simp only [Bool.and_eq_true, decide_eq_true_eq] at h8
      have h7 := hE i hi
      rw [h8.2] at h7
      rw [hV]
      exact vk_R.of (hts _ (List.mem_append_right _ h8.1)) h7
    · rw [hAf, hV]
      exact hS
    · rw [hAf]
      exact va_Zof (args := #[Value.ref b]) (hts _ (List.mem_append_right _ (List.mem_of_getElem? (i := 456) (by decide +kernel)))) (hts _ (List.mem_append_right _ (List.mem_of_getElem? (i := 14) (by decide +kernel)))) (va_eqi (hfc _ st_9)) hA0
    · rw [hAf]
      exact va_Zqof (args := #[Value.ref b]) (hts _ (List.mem_append_right _ (List.mem_of_getElem? (i := 473) (by decide +kernel)))) (hts _ (List.mem_append_right _ (List.mem_of_getElem? (i := 16) (by decide +kernel)))) (hfc _ st_10) hA0
  have hC : Cok V (p, l, e, room_1, s, m, #[Value.ref b], below, meth, c) "NewsWireLaw" code 4 0 ret meth.name :=
    ⟨hx, hb, hml, hown, hT, hKs, by show s.heap.size = V.1 + 1 + 0; omega, hr, hlocks, rfl⟩
  have hl := lv_entry ([.ref b]) (n := 4) (Nat.le_of_ble_eq_true rfl)
  have hw := w_law hC rfl hX hbl (by rw [hAf]; exact hA0 b hbl) rfl Mm0
  rw [lg_entry_eq]
  have h9 := hw s.heap [] _ hl ⟨⟨by omega, rfl⟩, fun k q h => by simp [wl, mN, Mm0] at h, va_S.rf⟩ _ hlaw
  unfold qW at h9
  rw [if_pos rfl] at h9
  exact h9
