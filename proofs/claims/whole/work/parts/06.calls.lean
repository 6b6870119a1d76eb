section RULES4
variable {α β : Type} {V : Ev} {C : Cx} {own nm : String} {cc : ByteArray} {nL n0 nc : Nat} {ret : Option FieldType} {QQ : α → State → Prop} {pc : Nat} {lv : List (Nat × Value)} {st : List Value} {M : Mm} {X : Option α}
theorem cat_le : ∀ st : List Value, (st.map fun v => v.category).sum ≤ 2 * st.length
  | [] => Nat.le_refl _
  | v :: st => by
    have h := cat_le st
    have h2 : v.category ≤ 2 := by rcases lv_cat v with e | e <;> rw [e] <;> decide
    simp only [List.map_cons, List.sum_cons, List.length_cons]
    omega
/-- what the tables say of a method that is called -/
def CW (y : MethodName) (bytes : ByteArray) (maxL : Nat) (ret : Option FieldType) (n : Nat) : Prop := Cond.initialized y.cls ∈ TW ∧ Cond.code y bytes maxL ret ∈ TW ∧ (y.cls ≠ "java/lang/invoke/MethodHandle" ∧ y.cls ≠ "java/lang/invoke/VarHandle" ∧ (parseMethodDescriptor y.desc).map (fun d => d.parameters.length) = some n)
/-- the room of a call -/
def RW (rm R9 : Room) (maxL mc ms n0 nc : Nat) : Prop := rm.cells = mc ∧ rm.slots = ms ∧ rm.frames + 1 ≤ R9.frames ∧ 8 + (maxL + 11) + rm.locals ≤ R9.locals ∧ nc - n0 + mc ≤ R9.cells ∧ Sz nc - Sz n0 + ms ≤ R9.slots ∧ n0 ≤ nc ∧ Sz (nc + mc) - Sz n0 = Sz nc - Sz n0 + ms
theorem RW.of {rm R9 : Room} {maxL n0 : Nat} (h : rm.cells = 0 ∧ rm.slots = 0 ∧ rm.frames + 1 ≤ R9.frames ∧ 8 + (maxL + 11) + rm.locals ≤ R9.locals) : RW rm R9 maxL 0 0 n0 n0 :=
  ⟨h.1, h.2.1, h.2.2.1, h.2.2.2, by omega, by omega, Nat.le_refl _, rfl⟩
variable {ev : β → Option Value} {mc ms index maxL n r : Nat} {Y : Option (β × Mm)} {K : β → Mm → Option α} {rm R9 : Room} {y : MethodName} {bytes : ByteArray} {ret9 : Option FieldType} {As st0 : List Value}
theorem Hd.pre {H : Heap} {locs : List Loc} {av : List Value} (hC : Cok V C own cc nL n0 ret nm) (hh : Hd V C nc M H locs) : ∀ U : State, U.heap = H → (cS C).WarmedH U.vm → va_Pc av (Wd V M) av.toArray U := fun U hU hW => ⟨rfl, hh.wd hC.2.2.2.2.2.1 hU hW⟩
theorem Sm.callV (ci : Nat) (hC : Cok V C own cc nL n0 ret nm) (hR : cR C = R9) (hw : CW y bytes maxL ret9 n) (hl : Cond.methodLink own index y ∈ TW) (hi : Cond.instanceMethod y ∈ TW) (hsel : Cond.selects y.cls y y ∈ TW) (hci : ∃ q : vw_C, cls[ci]? = some q ∧ q.1 = y.cls)
    (hM : ∀ r0 M1, Y = some (r0, M1) → Met (cL C) y (Cond.code y bytes maxL ret9 :: TW) rm (va_Pc (rv V.1 r :: As) (Wd V M)) (QC V (ev r0) M1 mc) mc ms (Af V)) (hst : st0 = As.reverse ++ rv V.1 r :: st) (hn : As.length = n) (hrw : RW rm R9 maxL mc ms n0 nc) (hcat : 2 * st.length ≤ 8) (hd : decode cc pc = .ok (.invokevirtual index, 3))
    (kk : ∀ r0 M1, Sm V C nL n0 (nc + mc) QQ (pc + 3) lv ((ev r0).toList ++ st) M1 (K r0 M1)) : Sm V C nL n0 nc QQ pc lv st0 M (cl (has M r (10 + ci)) Y K) := by
  unfold cl
  refine Sm.if_ (fun hr => ?_) (fun _ => Sm.none_)
  obtain ⟨h1, h2, h3, h4, h5, h6, h7, h8⟩ := hrw
  have hts := hC.2.2.2.2.1
  have a1 := hC.1
  have a2 := hC.2.1
  have a3 := hC.2.2.1
  have a4 := hC.2.2.2.1
  have hK := hC.2.2.2.2.2.1.1
  refine Sm.behind (ev := ev) (mc := mc) (ms := ms) (st0 := st0) (st := st) (free := Af V) hC rfl h7 h8 (fun H locs ls r0 M1 hlv hh hY => ⟨(rv V.1 r :: As).toArray, ?_⟩) kk
  obtain ⟨r1, r2, r3⟩ := has_spec hr
  have he0 := hh.get hr
  rw [cel_obj r3] at he0
  obtain ⟨q, hq, hq2⟩ := hci
  have hrec := va_recv hK hh.2.1 hq he0
  rw [hq2] at hrec
  have hM9 := hM r0 M1 hY
  subst hR
  subst hst
  rw [rv_pos r1] at hM9 ⊢
  refine va_runV (b := V.1 + r) (As := As) (rest := st) (n := n) (maxL := maxL) ⟨a1, a2, a3, a4, hts⟩ hM9 ⟨⟨h1, h2, h3, h4, tw_pay hts hw.2.1, List.mem_cons_self, hts _ hw.2.1, hts _ hw.1, ⟨hw.2.2.1, hw.2.2.2.1⟩, fun sig h => ?_, hts _ hl⟩, hts _ hi, hts _ hsel⟩ ⟨blind_of, hrec, fun U hU hW => hh.pre hC U hU hW⟩ rfl hn (hlv.1) rfl (lv_room (Nat.le_trans (cat_le st) hcat)) hd ⟨h5, h6⟩
  have h9 := hw.2.2.2.2
  rw [h] at h9
  exact (Option.some.inj h9).symm
theorem Sm.callS (hC : Cok V C own cc nL n0 ret nm) (hR : cR C = R9) (hw : CW y bytes maxL ret9 n) (hl : Cond.methodLink own index y ∈ TW) (hi : Cond.static y ∈ TW)
    (hM : ∀ r0 M1, Y = some (r0, M1) → Met (cL C) y (Cond.code y bytes maxL ret9 :: TW) rm (va_Pc As (Wd V M)) (QC V (ev r0) M1 mc) mc ms (Af V)) (hst : st0 = As.reverse ++ st) (hn : As.length = n) (hrw : RW rm R9 maxL mc ms n0 nc) (hcat : 2 * st.length ≤ 8) (hd : decode cc pc = .ok (.invokestatic index, 3))
    (kk : ∀ r0 M1, Sm V C nL n0 (nc + mc) QQ (pc + 3) lv ((ev r0).toList ++ st) M1 (K r0 M1)) : Sm V C nL n0 nc QQ pc lv st0 M (cl true Y K) := by
  unfold cl
  rw [if_pos rfl]
  obtain ⟨h1, h2, h3, h4, h5, h6, h7, h8⟩ := hrw
  have hts := hC.2.2.2.2.1
  have a1 := hC.1
  have a2 := hC.2.1
  have a3 := hC.2.2.1
  have a4 := hC.2.2.2.1
  refine Sm.behind (ev := ev) (mc := mc) (ms := ms) (st0 := st0) (st := st) (free := Af V) hC rfl h7 h8 (fun H locs ls r0 M1 hlv hh hY => ⟨As.toArray, ?_⟩) kk
  have hM9 := hM r0 M1 hY
  subst hR
  subst hst
  refine va_runS (As := As) (rest := st) (n := n) (maxL := maxL) ⟨a1, a2, a3, a4, hts⟩ hM9 ⟨⟨h1, h2, h3, h4, tw_pay hts hw.2.1, List.mem_cons_self, hts _ hw.2.1, hts _ hw.1, ⟨hw.2.2.1, hw.2.2.2.1⟩, fun sig h => ?_, hts _ hl⟩, hts _ hi⟩ ⟨blind_of, fun U hU hW => hh.pre hC U hU hW⟩ rfl hn (hlv.1) rfl (lv_room (Nat.le_trans (cat_le st) hcat)) hd ⟨h5, h6⟩
  have h9 := hw.2.2.2.2
  rw [h] at h9
  exact (Option.some.inj h9).symm
theorem Sm.callSN {host : String} (hC : Cok V C own cc nL n0 ret nm) (hR : cR C = R9) (hw : CW y bytes maxL ret9 n) (hl : Cond.methodLinkNest own index y host ∈ nzw) (hi : Cond.static y ∈ TW)
    (hM : ∀ r0 M1, Y = some (r0, M1) → Met (cL C) y (Cond.code y bytes maxL ret9 :: TW) rm (va_Pc As (Wd V M)) (QC V (ev r0) M1 mc) mc ms (Af V)) (hst : st0 = As.reverse ++ st) (hn : As.length = n) (hrw : RW rm R9 maxL mc ms n0 nc) (hcat : 2 * st.length ≤ 8) (hd : decode cc pc = .ok (.invokestatic index, 3))
    (kk : ∀ r0 M1, Sm V C nL n0 (nc + mc) QQ (pc + 3) lv ((ev r0).toList ++ st) M1 (K r0 M1)) : Sm V C nL n0 nc QQ pc lv st0 M (cl true Y K) := by
  unfold cl
  rw [if_pos rfl]
  obtain ⟨h1, h2, h3, h4, h5, h6, h7, h8⟩ := hrw
  have hts := hC.2.2.2.2.1
  have a1 := hC.1
  have a2 := hC.2.1
  have a3 := hC.2.2.1
  have a4 := hC.2.2.2.1
  have hl9 := va_Nw.use (A := cA C) rfl (hC.2.2.2.2.2.1.2.1 _ hl)
  refine Sm.behind (ev := ev) (mc := mc) (ms := ms) (st0 := st0) (st := st) (free := Af V) hC rfl h7 h8 (fun H locs ls r0 M1 hlv hh hY => ⟨As.toArray, ?_⟩) kk
  have hM9 := hM r0 M1 hY
  subst hR
  subst hst
  refine va_runSN (As := As) (rest := st) (n := n) (maxL := maxL) (host := host) ⟨a1, a2, a3, a4, hts⟩ hM9 ⟨⟨⟨h1, h2, h3, h4, tw_pay hts hw.2.1, List.mem_cons_self⟩, hts _ hw.2.1, hts _ hw.1, ⟨hw.2.2.1, hw.2.2.2.1⟩, fun sig h => ?_, hl9⟩, hts _ hi, trivial⟩ ⟨blind_of, fun U hU hW => hh.pre hC U hU hW⟩ rfl hn (hlv.1) rfl (lv_room (Nat.le_trans (cat_le st) hcat)) hd ⟨h5, h6⟩
  have h9 := hw.2.2.2.2
  rw [h] at h9
  exact (Option.some.inj h9).symm
theorem Sm.callI (ci : Nat) (hC : Cok V C own cc nL n0 ret nm) (hR : cR C = R9) (hw : CW y bytes maxL none n) (hl : Cond.methodLink own index y ∈ TW) (hi : Cond.instanceMethod y ∈ TW) (hy1 : y.name = "<init>")
    (hM : ∀ r0 M1, Y = some (r0, M1) → Met (cL C) y (Cond.code y bytes maxL none :: TW) rm (va_Pc (rv V.1 r :: As) (Wd V M)) (QC V (ev r0) M1 mc) mc ms (Af V)) (hst : st0 = As.reverse ++ rv V.1 r :: st) (hn : As.length = n) (hrw : RW rm R9 maxL mc ms n0 nc) (hcat : 2 * st.length ≤ 8) (hd : decode cc pc = .ok (.invokespecial index, 3))
    (kk : ∀ r0 M1, Sm V C nL n0 (nc + mc) QQ (pc + 3) lv ((ev r0).toList ++ st) M1 (K r0 M1)) : Sm V C nL n0 nc QQ pc lv st0 M (cl (has M r (10 + ci)) Y K) := by
  unfold cl
  refine Sm.if_ (fun hr => ?_) (fun _ => Sm.none_)
  obtain ⟨h1, h2, h3, h4, h5, h6, h7, h8⟩ := hrw
  have hts := hC.2.2.2.2.1
  have a1 := hC.1
  have a2 := hC.2.1
  have a3 := hC.2.2.1
  have a4 := hC.2.2.2.1
  refine Sm.behind (ev := ev) (mc := mc) (ms := ms) (st0 := st0) (st := st) (free := Af V) hC rfl h7 h8 (fun H locs ls r0 M1 hlv hh hY => ⟨(rv V.1 r :: As).toArray, ?_⟩) kk
  obtain ⟨r1, r2, r3⟩ := has_spec hr
  have hM9 := hM r0 M1 hY
  subst hR
  subst hst
  rw [rv_pos r1] at hM9 ⊢
  refine va_runI (b := V.1 + r) (As := As) (rest := st) (n := n) (maxL := maxL) ⟨a1, a2, a3, a4, hts⟩ hM9 ⟨⟨h1, h2, h3, h4, tw_pay hts hw.2.1, List.mem_cons_self, hts _ hw.2.1, hts _ hw.1, ⟨hw.2.2.1, hw.2.2.2.1⟩, fun sig h => ?_, hts _ hl⟩, hy1, hts _ hi⟩ ⟨blind_of, fun U hU hW => hh.pre hC U hU hW⟩ rfl hn (hlv.1) rfl (lv_room (Nat.le_trans (cat_le st) hcat)) hd ⟨h5, h6⟩
  have h9 := hw.2.2.2.2
  rw [h] at h9
  exact (Option.some.inj h9).symm
theorem Sm.callIN {host : String} (ci : Nat) (hC : Cok V C own cc nL n0 ret nm) (hR : cR C = R9) (hw : CW y bytes maxL none n) (hl : Cond.methodLinkNest own index y host ∈ nzw) (hi : Cond.instanceMethod y ∈ TW) (hy1 : y.name = "<init>")
    (hM : ∀ r0 M1, Y = some (r0, M1) → Met (cL C) y (Cond.code y bytes maxL none :: TW) rm (va_Pc (rv V.1 r :: As) (Wd V M)) (QC V (ev r0) M1 mc) mc ms (Af V)) (hst : st0 = As.reverse ++ rv V.1 r :: st) (hn : As.length = n) (hrw : RW rm R9 maxL mc ms n0 nc) (hcat : 2 * st.length ≤ 8) (hd : decode cc pc = .ok (.invokespecial index, 3))
    (kk : ∀ r0 M1, Sm V C nL n0 (nc + mc) QQ (pc + 3) lv ((ev r0).toList ++ st) M1 (K r0 M1)) : Sm V C nL n0 nc QQ pc lv st0 M (cl (has M r (10 + ci)) Y K) := by
  unfold cl
  refine Sm.if_ (fun hr => ?_) (fun _ => Sm.none_)
  obtain ⟨h1, h2, h3, h4, h5, h6, h7, h8⟩ := hrw
  have hts := hC.2.2.2.2.1
  have a1 := hC.1
  have a2 := hC.2.1
  have a3 := hC.2.2.1
  have a4 := hC.2.2.2.1
  have hl9 := va_Nw.use (A := cA C) rfl (hC.2.2.2.2.2.1.2.1 _ hl)
  refine Sm.behind (ev := ev) (mc := mc) (ms := ms) (st0 := st0) (st := st) (free := Af V) hC rfl h7 h8 (fun H locs ls r0 M1 hlv hh hY => ⟨(rv V.1 r :: As).toArray, ?_⟩) kk
  obtain ⟨r1, r2, r3⟩ := has_spec hr
  have hM9 := hM r0 M1 hY
  subst hR
  subst hst
  rw [rv_pos r1] at hM9 ⊢
  refine va_runIN (b := V.1 + r) (As := As) (rest := st) (n := n) (maxL := maxL) (host := host) ⟨a1, a2, a3, a4, hts⟩ hM9 ⟨⟨⟨h1, h2, h3, h4, tw_pay hts hw.2.1, List.mem_cons_self⟩, hts _ hw.2.1, hts _ hw.1, ⟨hw.2.2.1, hw.2.2.2.1⟩, fun sig h => ?_, hl9⟩, hy1, hts _ hi⟩ ⟨blind_of, fun U hU hW => hh.pre hC U hU hW⟩ rfl hn (hlv.1) rfl (lv_room (Nat.le_trans (cat_le st) hcat)) hd ⟨h5, h6⟩
  have h9 := hw.2.2.2.2
  rw [h] at h9
  exact (Option.some.inj h9).symm
theorem Sm.objInit (hC : Cok V C own cc nL n0 ret nm) (hR : cR C = R9) (hl : Cond.methodLink own index objectInit ∈ TW) (hi : Cond.instanceMethod objectInit ∈ TW) (hc : Cond.code objectInit ⟨#[0xb1]⟩ 1 none ∈ TW) (hfr : 1 ≤ R9.frames) (hlo : 20 ≤ R9.locals) (hcat : 2 * st.length ≤ 8) (hd : decode cc pc = .ok (.invokespecial index, 3))
    {kd : Nat} (k : Sm V C nL n0 nc QQ (pc + 3) lv st M X) : Sm V C nL n0 nc QQ pc lv (rv V.1 r :: st) M (if has M r kd = true then X else none) := by
  refine Sm.if_ (fun hr => ?_) (fun _ => Sm.none_)
  intro H locs ls hlv hh res hres
  have hts := hC.2.2.2.2.1
  have a1 := hC.1
  have a2 := hC.2.1
  have a3 := hC.2.2.1
  have a4 := hC.2.2.2.1
  obtain ⟨r1, r2, r3⟩ := has_spec hr
  subst hR
  rw [rv_pos r1]
  have hq := cat_le st
  refine W.objInit a1 a2 a4 (hts _ hl) (hts _ hi) (hts _ hc) rfl (by rw [a3]; exact hlv.1) rfl hd hfr (by
    show 2 * 0 + _ + 12 ≤ _
    omega) ?_
  exact k H locs ls hlv hh res hres
theorem Sm.callVi {Y9 : Option (Int32 × Mm)} {K9 : Int32 → Mm → Option α} (ci : Nat) (hC : Cok V C own cc nL n0 ret nm) (hR : cR C = R9) (hw : CW y bytes maxL ret9 n) (hl : Cond.methodLink own index y ∈ TW) (hi : Cond.instanceMethod y ∈ TW) (hsel : Cond.selects y.cls y y ∈ TW) (hci : ∃ q : vw_C, cls[ci]? = some q ∧ q.1 = y.cls)
    (hM : ∀ r0 M1, Y9 = some (r0, M1) → Met (cL C) y (Cond.code y bytes maxL ret9 :: TW) rm (va_Pc (rv V.1 r :: As) (Wd V M)) (QC V (some (.int r0)) M1 0) 0 0 (Af V)) (hst : st0 = As.reverse ++ rv V.1 r :: st) (hn : As.length = n) (hrw : RW rm R9 maxL 0 0 n0 nc) (hcat : 2 * st.length ≤ 8) (hd : decode cc pc = .ok (.invokevirtual index, 3))
    (kk : ∀ r0 M1, Sm V C nL n0 nc QQ (pc + 3) lv (.int r0 :: st) M1 (K9 r0 M1)) : Sm V C nL n0 nc QQ pc lv st0 M (cl (β := Int32) (has M r (10 + ci)) Y9 K9) :=
  Sm.callV (ev := fun x : Int32 => some (.int x)) ci hC hR hw hl hi hsel hci hM hst hn hrw hcat hd kk
theorem Sm.callVl {Y9 : Option (Int64 × Mm)} {K9 : Int64 → Mm → Option α} (ci : Nat) (hC : Cok V C own cc nL n0 ret nm) (hR : cR C = R9) (hw : CW y bytes maxL ret9 n) (hl : Cond.methodLink own index y ∈ TW) (hi : Cond.instanceMethod y ∈ TW) (hsel : Cond.selects y.cls y y ∈ TW) (hci : ∃ q : vw_C, cls[ci]? = some q ∧ q.1 = y.cls)
    (hM : ∀ r0 M1, Y9 = some (r0, M1) → Met (cL C) y (Cond.code y bytes maxL ret9 :: TW) rm (va_Pc (rv V.1 r :: As) (Wd V M)) (QC V (some (.long r0)) M1 0) 0 0 (Af V)) (hst : st0 = As.reverse ++ rv V.1 r :: st) (hn : As.length = n) (hrw : RW rm R9 maxL 0 0 n0 nc) (hcat : 2 * st.length ≤ 8) (hd : decode cc pc = .ok (.invokevirtual index, 3))
    (kk : ∀ r0 M1, Sm V C nL n0 nc QQ (pc + 3) lv (.long r0 :: st) M1 (K9 r0 M1)) : Sm V C nL n0 nc QQ pc lv st0 M (cl (β := Int64) (has M r (10 + ci)) Y9 K9) :=
  Sm.callV (ev := fun x : Int64 => some (.long x)) ci hC hR hw hl hi hsel hci hM hst hn hrw hcat hd kk
theorem Sm.callVv {Y9 : Option (Unit × Mm)} {K9 : Unit → Mm → Option α} (ci : Nat) (hC : Cok V C own cc nL n0 ret nm) (hR : cR C = R9) (hw : CW y bytes maxL ret9 n) (hl : Cond.methodLink own index y ∈ TW) (hi : Cond.instanceMethod y ∈ TW) (hsel : Cond.selects y.cls y y ∈ TW) (hci : ∃ q : vw_C, cls[ci]? = some q ∧ q.1 = y.cls)
    (hM : ∀ r0 M1, Y9 = some (r0, M1) → Met (cL C) y (Cond.code y bytes maxL ret9 :: TW) rm (va_Pc (rv V.1 r :: As) (Wd V M)) (QC V (none) M1 0) 0 0 (Af V)) (hst : st0 = As.reverse ++ rv V.1 r :: st) (hn : As.length = n) (hrw : RW rm R9 maxL 0 0 n0 nc) (hcat : 2 * st.length ≤ 8) (hd : decode cc pc = .ok (.invokevirtual index, 3))
    (kk : ∀ r0 M1, Sm V C nL n0 nc QQ (pc + 3) lv st M1 (K9 r0 M1)) : Sm V C nL n0 nc QQ pc lv st0 M (cl (β := Unit) (has M r (10 + ci)) Y9 K9) :=
  Sm.callV (ev := fun _ : Unit => none) ci hC hR hw hl hi hsel hci hM hst hn hrw hcat hd kk
theorem Sm.callSi {Y9 : Option (Int32 × Mm)} {K9 : Int32 → Mm → Option α} (hC : Cok V C own cc nL n0 ret nm) (hR : cR C = R9) (hw : CW y bytes maxL ret9 n) (hl : Cond.methodLink own index y ∈ TW) (hi : Cond.static y ∈ TW)
    (hM : ∀ r0 M1, Y9 = some (r0, M1) → Met (cL C) y (Cond.code y bytes maxL ret9 :: TW) rm (va_Pc As (Wd V M)) (QC V (some (.int r0)) M1 0) 0 0 (Af V)) (hst : st0 = As.reverse ++ st) (hn : As.length = n) (hrw : RW rm R9 maxL 0 0 n0 nc) (hcat : 2 * st.length ≤ 8) (hd : decode cc pc = .ok (.invokestatic index, 3))
    (kk : ∀ r0 M1, Sm V C nL n0 nc QQ (pc + 3) lv (.int r0 :: st) M1 (K9 r0 M1)) : Sm V C nL n0 nc QQ pc lv st0 M (cl (β := Int32) true Y9 K9) :=
  Sm.callS (ev := fun x : Int32 => some (.int x)) hC hR hw hl hi hM hst hn hrw hcat hd kk
theorem Sm.callSl {Y9 : Option (Int64 × Mm)} {K9 : Int64 → Mm → Option α} (hC : Cok V C own cc nL n0 ret nm) (hR : cR C = R9) (hw : CW y bytes maxL ret9 n) (hl : Cond.methodLink own index y ∈ TW) (hi : Cond.static y ∈ TW)
    (hM : ∀ r0 M1, Y9 = some (r0, M1) → Met (cL C) y (Cond.code y bytes maxL ret9 :: TW) rm (va_Pc As (Wd V M)) (QC V (some (.long r0)) M1 0) 0 0 (Af V)) (hst : st0 = As.reverse ++ st) (hn : As.length = n) (hrw : RW rm R9 maxL 0 0 n0 nc) (hcat : 2 * st.length ≤ 8) (hd : decode cc pc = .ok (.invokestatic index, 3))
    (kk : ∀ r0 M1, Sm V C nL n0 nc QQ (pc + 3) lv (.long r0 :: st) M1 (K9 r0 M1)) : Sm V C nL n0 nc QQ pc lv st0 M (cl (β := Int64) true Y9 K9) :=
  Sm.callS (ev := fun x : Int64 => some (.long x)) hC hR hw hl hi hM hst hn hrw hcat hd kk
theorem Sm.callSNi {Y9 : Option (Int32 × Mm)} {K9 : Int32 → Mm → Option α} {host : String} (hC : Cok V C own cc nL n0 ret nm) (hR : cR C = R9) (hw : CW y bytes maxL ret9 n) (hl : Cond.methodLinkNest own index y host ∈ nzw) (hi : Cond.static y ∈ TW)
    (hM : ∀ r0 M1, Y9 = some (r0, M1) → Met (cL C) y (Cond.code y bytes maxL ret9 :: TW) rm (va_Pc As (Wd V M)) (QC V (some (.int r0)) M1 0) 0 0 (Af V)) (hst : st0 = As.reverse ++ st) (hn : As.length = n) (hrw : RW rm R9 maxL 0 0 n0 nc) (hcat : 2 * st.length ≤ 8) (hd : decode cc pc = .ok (.invokestatic index, 3))
    (kk : ∀ r0 M1, Sm V C nL n0 nc QQ (pc + 3) lv (.int r0 :: st) M1 (K9 r0 M1)) : Sm V C nL n0 nc QQ pc lv st0 M (cl (β := Int32) true Y9 K9) :=
  Sm.callSN (ev := fun x : Int32 => some (.int x)) hC hR hw hl hi hM hst hn hrw hcat hd kk
theorem Sm.callIv {Y9 : Option (Unit × Mm)} {K9 : Unit → Mm → Option α} (ci : Nat) (hC : Cok V C own cc nL n0 ret nm) (hR : cR C = R9) (hw : CW y bytes maxL none n) (hl : Cond.methodLink own index y ∈ TW) (hi : Cond.instanceMethod y ∈ TW) (hy1 : y.name = "<init>")
    (hM : ∀ r0 M1, Y9 = some (r0, M1) → Met (cL C) y (Cond.code y bytes maxL none :: TW) rm (va_Pc (rv V.1 r :: As) (Wd V M)) (QC V (none) M1 mc) mc ms (Af V)) (hst : st0 = As.reverse ++ rv V.1 r :: st) (hn : As.length = n) (hrw : RW rm R9 maxL mc ms n0 nc) (hcat : 2 * st.length ≤ 8) (hd : decode cc pc = .ok (.invokespecial index, 3))
    (kk : ∀ r0 M1, Sm V C nL n0 (nc + mc) QQ (pc + 3) lv st M1 (K9 r0 M1)) : Sm V C nL n0 nc QQ pc lv st0 M (cl (β := Unit) (has M r (10 + ci)) Y9 K9) :=
  Sm.callI (ev := fun _ : Unit => none) ci hC hR hw hl hi hy1 hM hst hn hrw hcat hd kk
theorem Sm.callINv {Y9 : Option (Unit × Mm)} {K9 : Unit → Mm → Option α} {host : String} (ci : Nat) (hC : Cok V C own cc nL n0 ret nm) (hR : cR C = R9) (hw : CW y bytes maxL none n) (hl : Cond.methodLinkNest own index y host ∈ nzw) (hi : Cond.instanceMethod y ∈ TW) (hy1 : y.name = "<init>")
    (hM : ∀ r0 M1, Y9 = some (r0, M1) → Met (cL C) y (Cond.code y bytes maxL none :: TW) rm (va_Pc (rv V.1 r :: As) (Wd V M)) (QC V (none) M1 mc) mc ms (Af V)) (hst : st0 = As.reverse ++ rv V.1 r :: st) (hn : As.length = n) (hrw : RW rm R9 maxL mc ms n0 nc) (hcat : 2 * st.length ≤ 8) (hd : decode cc pc = .ok (.invokespecial index, 3))
    (kk : ∀ r0 M1, Sm V C nL n0 (nc + mc) QQ (pc + 3) lv st M1 (K9 r0 M1)) : Sm V C nL n0 nc QQ pc lv st0 M (cl (β := Unit) (has M r (10 + ci)) Y9 K9) :=
  Sm.callIN (ev := fun _ : Unit => none) ci hC hR hw hl hi hy1 hM hst hn hrw hcat hd kk
end RULES4
