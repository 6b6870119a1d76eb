abbrev qI (V : Ev) (C : Cx) : Int32 × Mm → State → Prop := fun res => MQ (cB C) (QC V (some (.int res.1)) res.2 0) (cA C) (cS C) 0 0 (Af V)
abbrev qL (V : Ev) (C : Cx) : Int64 × Mm → State → Prop := fun res => MQ (cB C) (QC V (some (.long res.1)) res.2 0) (cA C) (cS C) 0 0 (Af V)
abbrev qV (V : Ev) (C : Cx) : Unit × Mm → State → Prop := fun res => MQ (cB C) (QC V none res.2 0) (cA C) (cS C) 0 0 (Af V)
theorem cat_i (x : Int32) : (Value.int x).category = 1 := rfl
theorem cat_l (x : Int64) : (Value.long x).category = 2 := rfl
theorem cat_f (x : Nat) : (Value.ref x).category = 1 := rfl
/-- more rounds than any loop makes -/
def FU : Nat := 5000
/-- a text's length, and its sign at a place -/
def tL {α : Type} (i : Nat) (f : Int32 → Option α) : Option α := if i < 14 then f (Int32.ofNat (slen.getD i 0)) else none
def tC {α : Type} (i : Nat) (k : Int32) (f : Int32 → Option α) : Option α := if i < 14 then (if inb k (slen.getD i 0) = true then f ((sbyt.getD i []).getD k.toNatClampNeg 0) else none) else none
section RULES5
variable {α : Type} {V : Ev} {C : Cx} {own nm : String} {cc : ByteArray} {nL n0 nc : Nat} {ret : Option FieldType} {QQ : α → State → Prop} {pc : Nat} {lv : List (Nat × Value)} {st : List Value} {M : Mm} {X Y : Option α} {R9 : Room} {index : Nat}
theorem Sm.copy (hC : Cok V C own cc nL n0 ret nm) (hR : cR C = R9) (hl : Cond.methodLink own index arraycopyName ∈ TW) (hnat : Cond.native arraycopyName ∈ TW) (hst : Cond.static arraycopyName ∈ TW) (hini : Cond.initialized "java/lang/System" ∈ TW) (hfr : 1 ≤ R9.frames) (hlo : 8 + (nativeFrameWords "java/lang/System" "arraycopy" 5 + 11) ≤ R9.locals) (hcat : 2 * st.length ≤ 8)
    {a b : Nat} {sp dp n : Int32} {f : Mm → Option α} (hd : decode cc pc = .ok (.invokestatic index, 3)) (kk : ∀ M1, Sm V C nL n0 nc QQ (pc + 3) lv st M1 (f M1)) : Sm V C nL n0 nc QQ pc lv (.int n :: .int dp :: rv V.1 b :: .int sp :: rv V.1 a :: st) M (cp M a sp b dp n f) := by
  unfold cp
  refine Sm.if_ (fun hg => ?_) (fun _ => Sm.none_)
  obtain ⟨ha, hb, h1, h2, h3, h4, h5⟩ := hg
  intro H locs ls hlv hh res hr
  have a1 := hC.1
  have a2 := hC.2.1
  have a3 := hC.2.2.1
  have a4 := hC.2.2.2.1
  have hts := hC.2.2.2.2.1
  have hK := hC.2.2.2.2.2.1.1
  obtain ⟨p1, p2, p3⟩ := has_spec ha
  obtain ⟨r1, r2, r3⟩ := has_spec hb
  have ea := hh.get ha
  rw [cel_int (by omega) p3] at ea
  have eb := hh.get hb
  rw [cel_int (by omega) r3] at eb
  rw [rv_pos p1, rv_pos r1]
  subst hR
  have nn : ∀ z : Int32, ¬ z < 0 → z.toInt = (z.toNatClampNeg : Int) := by
    intro z hz
    obtain ⟨j, hj, rfl⟩ := nI_of hz
    rw [nI_toInt hj, nI_clamp hj]
  intro T hT X
  have hc0 : H[V.1 + a]? = some (vp_cell (V.2.2.1 0) ((tb a).2, .inl (rI M a))) := hh.2.1 (a - 1) _ ea
  have hc1 : H[V.1 + b]? = some (vp_cell (V.2.2.1 0) ((tb b).2, .inl (rI M b))) := hh.2.1 (b - 1) _ eb
  obtain ⟨-, k0, hk0, cm0, hkk0⟩ := (hK.2 0 _ rfl).1 (tb a).2 (fun j => .int (rI M a j))
  obtain ⟨-, k1, hk1, cm1, hkk1⟩ := (hK.2 0 _ rfl).1 (tb b).2 (fun j => .int (rI M b j))
  obtain ⟨vm', X', step⟩ := X.arraycopy a1 a4 (hts _ hl) (hts _ hnat) (hts _ hst) (hts _ hini) (src := V.1 + a) (dst := V.1 + b) (cs := vp_cell (V.2.2.1 0) ((tb a).2, .inl (rI M a))) (cd := vp_cell (V.2.2.1 0) ((tb b).2, .inl (rI M b))) (srcPos := sp) (destPos := dp) (n := n) (by rw [hT]; exact hc0) (by rw [hT]; exact hc1)
    (fun _ h => by cases h) (fun _ h => by cases h) (fun h => by cases h) (fun h => by cases h) hk0 hk1 hkk0 hkk1 (by simp [refKind]) h1 h2 h3
    (by rw [nn sp h1, nn n h3]; show ¬ _ > ((arrV _ (tb a).2 (fun j => .int (rI M a j))).slots.size : Int); rw [arrV_size]; omega)
    (by rw [nn dp h2, nn n h3]; show ¬ _ > ((arrV _ (tb b).2 (fun j => .int (rI M b j))).slots.size : Int); rw [arrV_size]; omega)
    (fun vm₁ _ i hi => by
      have e : (vp_cell (V.2.2.1 0) ((tb a).2, .inl (rI M a))).slots.getD (sp.toNatClampNeg + i) .null = .int (rI M a (sp.toNatClampNeg + i)) := by
        show (arrV _ (tb a).2 (fun j => .int (rI M a j))).slots.getD _ _ = _
        rw [Array.getD_eq_getD_getElem?, arrV_read _ _ (by omega)]
        rfl
      refine ⟨?_, ?_⟩
      · rw [e]
        rfl
      · rw [e]
        exact trivial)
    (g := F0 (cM C) pc ls (.int n :: .int dp :: .ref (V.1 + b) :: .int sp :: .ref (V.1 + a) :: st)) rfl (by rw [a3]; exact hlv.1.symm ▸ rfl) (rest := st) rfl (by rw [a2]; exact hd) hfr (by
      have hq := cat_le st
      show 2 * 0 + _ + _ ≤ _
      omega)
  have e1 : copied (vp_cell (V.2.2.1 0) ((tb a).2, .inl (rI M a))) (vp_cell (V.2.2.1 0) ((tb b).2, .inl (rI M b))) sp dp n = vp_cell (V.2.2.1 0) ((tb b).2, .inl (va_cpy (rI M a) (rI M b) sp.toNatClampNeg dp.toNatClampNeg n.toNatClampNeg)) := va_copied (fun z => .int z) _ _ (rI M a) (rI M b) h4
  rw [e1] at X' step
  have hl2 : V.1 + b < H.size := (Array.getElem?_eq_some_iff.mp hc1).1
  generalize hH1 : H.setIfInBounds (V.1 + b) (vp_cell (V.2.2.1 0) ((tb b).2, .inl (va_cpy (rI M a) (rI M b) sp.toNatClampNeg dp.toNatClampNeg n.toNatClampNeg))) = H1
  have hheap : ((T.setVm vm').setCell (V.1 + b) (vp_cell (V.2.2.1 0) ((tb b).2, .inl (va_cpy (rI M a) (rI M b) sp.toNatClampNeg dp.toNatClampNeg n.toNatClampNeg)))).heap = H1 := by rw [← hH1, ← hT]; rfl
  have oq : ∀ q : Nat, q ≠ V.1 + b → H1[q]? = H[q]? := fun q hq => by rw [← hH1]; simp [Array.getElem?_setIfInBounds, Ne.symm hq]
  have z1 : H1.size = H.size := by rw [← hH1]; simp
  have hat : H1[V.1 + b]? = some (vp_cell (V.2.2.1 0) ((tb b).2, .inl (va_cpy (rI M a) (rI M b) sp.toNatClampNeg dp.toNatClampNeg n.toNatClampNeg))) := by rw [← hH1]; simp [Array.getElem?_setIfInBounds, hl2]
  have hAb : Af V (V.1 + b) := (wl_D V M).2 (b - 1) _ eb
  obtain ⟨t, b1, b2⟩ := kk _ H1 _ ls hlv (hh.put (M' := wC M a sp.toNatClampNeg b dp.toNatClampNeg n.toNatClampNeg) (e := .inl (V.2.2.1 0, (tb b).2, .inl (va_cpy (rI M a) (rI M b) sp.toNatClampNeg dp.toNatClampNeg n.toNatClampNeg))) hb rfl (fun j hj => cel_wC hj) (by
      rw [cel_int (by omega) r3]
      congr 4
      funext t
      show (if b = b ∧ _ then _ else _) = va_cpy (rI M a) (rI M b) _ _ _ t
      unfold va_cpy rI
      by_cases ht : dp.toNatClampNeg ≤ t ∧ t < dp.toNatClampNeg + n.toNatClampNeg
      · rw [if_pos ⟨rfl, ht⟩, if_pos ht]
      · rw [if_neg (fun e => ht e.2), if_neg ht]) z1 (hh.2.1.set (wl_D V M) eb hat oq) ⟨by rw [z1]; exact hh.2.2.1, fun q g1 g2 => by
        rw [oq q (fun e => g2 (by rw [e]; exact hAb))]
        exact hh.2.2.2.1 q g1 g2, fun q hq => by
        rcases List.mem_append.mp hq with h | h
        · exact hh.2.2.2.2 q h
        · obtain ⟨z, -, hz⟩ := List.mem_map.mp h
          rw [← hz]
          exact hAb⟩) res hr _ hheap X'
  exact ⟨t, step t b1, b2⟩
end RULES5
