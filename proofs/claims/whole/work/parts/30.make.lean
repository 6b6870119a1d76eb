/-! new cells: what they want of the room is asked at run time -/
def mk {α : Type} (n0 mc ms : Nat) (M : Mm) (k : Nat) (f : Nat → Mm → Option α) : Option α :=
  if (Nat.beq (tb (mN M + 1)).1 k && (Nat.ble (mN M + 1) (n0 + mc) && (Nat.ble (Sz (mN M + 1)) (Sz n0 + ms) && (Nat.ble (Sz n0) (Sz (mN M)) && Nat.ble n0 (mN M))))) = true then f (mN M + 1) (nw M) else none
def mkA {α : Type} (n0 mc ms : Nat) (M : Mm) (k : Nat) (n : Int32) (f : Nat → Mm → Option α) : Option α :=
  if ¬ n < 0 ∧ (tb (mN M + 1)).2 = n.toNatClampNeg ∧ n.toNatClampNeg ≤ 1000 then mk n0 mc ms M k f else none
def rtK (n0 mc ms : Nat) (M : Mm) : Option (Unit × Mm) := if (Nat.beq (mN M) (n0 + mc) && Nat.beq (Sz (mN M)) (Sz n0 + ms)) = true then some ((), M) else none
def clK {α β : Type} (n0 mc ms mc' ms' : Nat) (M : Mm) (g : Bool) (Y : Option (β × Mm)) (K : β → Mm → Option α) : Option α :=
  if (Nat.ble n0 (mN M) && (Nat.ble (mN M + mc') (n0 + mc) && (Nat.ble (Sz (mN M) + ms') (Sz n0 + ms) && (Nat.beq (Sz (mN M + mc')) (Sz (mN M) + ms') && Nat.ble (Sz n0) (Sz (mN M)))))) = true then cl g Y K else none
def dv (t : Nat) : Value := match t with
  | 0 => .int 0
  | 1 => .long 0
  | _ => .null
theorem cel_nw {V : Ev} {M : Mm} {j : Nat} (h : j ≤ mN M) : cel V (nw M) j = cel V M j := by
  have h9 : ¬ j = M.1 + 1 := by
    have : j ≤ M.1 := h
    omega
  exact cel_ext (fun _ => if_neg h9) (fun _ => if_neg h9) (fun _ => if_neg h9)
theorem rI_nw (M : Mm) (s : Nat) : rI (nw M) (mN M + 1) s = 0 := if_pos rfl
theorem rL_nw (M : Mm) (s : Nat) : rL (nw M) (mN M + 1) s = 0 := if_pos rfl
theorem rR_nw (M : Mm) (s : Nat) : rR (nw M) (mN M + 1) s = 0 := if_pos rfl
theorem dv_fv (V : Ev) (M : Mm) (j : Nat) : ∀ t : Nat, dv t = fv V.1 (nw M) (mN M + 1) j t
  | 0 => congrArg Value.int (rI_nw M j).symm
  | 1 => congrArg Value.long (rL_nw M j).symm
  | n + 2 => by
    show Value.null = rv V.1 (rR (nw M) (mN M + 1) j)
    rw [rR_nw]
    rfl
section RULES8
variable {α : Type} {V : Ev} {C : Cx} {own nm : String} {cc : ByteArray} {nL n0 nc : Nat} {ret : Option FieldType} {QQ : α → State → Prop} {pc : Nat} {lv : List (Nat × Value)} {st : List Value} {M : Mm} {X : Option α} {R9 : Room} {index : Nat}
/-- the count is the memory's own -/
theorem Sm.cnt (h : mN M = nc → Sm V C nL n0 nc QQ pc lv st M X) : Sm V C nL n0 nc QQ pc lv st M X := fun H locs ls hl hh res hr => h hh.1.2 H locs ls hl hh res hr
theorem Hd.push {H H1 : Heap} {locs : List Loc} {e : va_E} (hh : Hd V C nc M H locs) (hz : H1.size = H.size + 1) (ho : ∀ q : Nat, q < H.size → H1[q]? = H[q]?) (he : cel V (nw M) (mN M + 1) = e) (hat : va_at V.2.1 cls (H.size, e) H1) : Hd V C (nc + 1) (nw M) H1 locs := by
  obtain ⟨⟨h1, h2⟩, h3, h4⟩ := hh
  have e1 : V.1 + 1 + mN M = H.size := by omega
  refine ⟨⟨by omega, by rw [mN_nw, h2]⟩, ?_, Nat.le_trans h4.1 (by omega), fun q g1 g2 => (ho q (Nat.lt_of_lt_of_le g1 h4.1)).trans (h4.2.1 q g1 g2), h4.2.2⟩
  rw [wl_push V M (nw M) (mN_nw M) (fun j hj => cel_nw hj), he, e1]
  refine va_P.app (h3.kept (fun k x hx => ho x.1 (h3 k x hx).lt)) (fun k x hx => ?_)
  have hz : k < 1 := (List.getElem?_eq_some_iff.mp hx).1
  rw [show k = 0 by omega] at hx
  cases hx
  exact hat
theorem mk_spec {mc ms k : Nat} {f : Nat → Mm → Option α} {res : α} (h : mk n0 mc ms M k f = some res) : (tb (mN M + 1)).1 = k ∧ mN M + 1 ≤ n0 + mc ∧ Sz (mN M + 1) ≤ Sz n0 + ms ∧ Sz n0 ≤ Sz (mN M) ∧ n0 ≤ mN M ∧ f (mN M + 1) (nw M) = some res := by
  unfold mk at h
  split at h
  · rename_i g
    simp only [Bool.and_eq_true, Nat.beq_eq, Nat.ble_eq] at g
    exact ⟨g.1, g.2.1, g.2.2.1, g.2.2.2.1, g.2.2.2.2, h⟩
  · cases h
theorem Sz_succ (n : Nat) : Sz (n + 1) = Sz n + sz1 (n + 1) := rfl
theorem Sm.new {mc ms ci k N : Nat} {Cn : String} {T : u_T} {ty : Nat → FieldType} {f : Nat → Mm → Option α} (hC : Cok V C own cc nL n0 ret nm) (hR : cR C = R9) (hrm : R9.cells = mc ∧ R9.slots = ms) (hk : k = 10 + ci) (hc : cls[ci]? = some (Cn, T, N)) (hin : ∀ w ∈ u_ws Cn T N, w ∈ TW) (hty : ∀ j, j < N → parseFieldDescriptor (T j).2.2.1 = some (ty j)) (hN : (ft ci).length = N) (hdf : ∀ j, j < N → ((ft ci)[j]?).map dv = some (defaultValue (ty j)))
    (hcl : Cond.classLink own index Cn ∈ TW) (hinst : Cond.instantiable Cn N ∈ TW) (hini : Cond.initialized Cn ∈ TW) (hd : decode cc pc = .ok (.new index, 3)) (kk : ∀ q M1, Sm V C nL n0 (nc + 1) QQ (pc + 3) lv (rv V.1 q :: st) M1 (f q M1)) : Sm V C nL n0 nc QQ pc lv st M (mk n0 mc ms M k f) := by
  intro H locs ls hl hh res hr
  obtain ⟨g1, g2, g3, g4, g5, hf⟩ := mk_spec hr
  have hN0 := hh.1.2
  have hts := hC.2.2.2.2.1
  have a1 := hC.1
  have a2 := hC.2.1
  have a4 := hC.2.2.2.1
  have hK := hC.2.2.2.2.2.1.1
  have hKn := hK.1 ci _ hc
  subst hR
  subst hk
  have hs1 : sz1 (mN M + 1) = N := by
    unfold sz1
    rw [if_neg (by omega), g1]
    simpa using hN
  have hszs := Sz_succ (mN M)
  rw [hs1] at hszs
  rw [hN0] at g2 g3 g4 g5 hszs
  have hslots : Sz nc - Sz n0 + N ≤ (cR C).slots := by rw [hrm.2]; omega
  have hcells : nc - n0 + 1 ≤ (cR C).cells := by rw [hrm.1]; omega
  refine W.newcK a1 a2 a4 (hts _ hcl) (hts _ hinst) (hts _ hini) rfl hd hcells hslots hKn.2.1 rfl fun H1 kC hkC e1 z1 o1 => ?_
  have hsz : H.size = V.1 + (mN M + 1) := by
    have := hh.1.1
    omega
  have hd2 : Hd V C (nc + 1) (nw M) H1 locs := hh.push z1 o1 (e := .inr (ci, flds V.1 (nw M) (mN M + 1) 0 (ft ci))) (cel_obj (by rw [g1])) ⟨_, hc, (u_born ty hts hin hKn hkC e1 hty).to (fun j hj => by
    have h9 := hdf j hj
    cases hj2 : (ft ci)[j]? with
    | none => rw [hj2] at h9; cases h9
    | some t =>
      rw [hj2] at h9
      have h8 := flds_get V.1 (nw M) (mN M + 1) (ft ci) 0 j t hj2
      rw [Nat.zero_add] at h8
      have h7 : dv t = defaultValue (ty j) := Option.some.inj h9
      rw [← h7]
      show dv t = (flds V.1 (nw M) (mN M + 1) 0 (ft ci)).getD j .null
      rw [List.getD_eq_getElem?_getD, h8]
      exact dv_fv V M j t)⟩
  have k1 := kk (mN M + 1) (nw M) H1 locs ls hl hd2 res hf
  rw [rv_pos (by omega), ← hsz, show nc + 1 - n0 = nc - n0 + 1 by omega, show Sz (nc + 1) - Sz n0 = Sz nc - Sz n0 + N by omega] at k1
  exact k1
theorem mkA_spec {mc ms k : Nat} {n : Int32} {f : Nat → Mm → Option α} {res : α} (h : mkA n0 mc ms M k n f = some res) : ¬ n < 0 ∧ (tb (mN M + 1)).2 = n.toNatClampNeg ∧ n.toNatClampNeg ≤ 1000 ∧ mk n0 mc ms M k f = some res := by
  unfold mkA at h
  split at h
  · rename_i g
    exact ⟨g.1, g.2.1, g.2.2, h⟩
  · cases h
theorem Sm.newa {mc ms k : Nat} {n : Int32} {f : Nat → Mm → Option α} {atype : ArrayType} (hC : Cok V C own cc nL n0 ret nm) (hR : cR C = R9) (hrm : R9.cells = mc ∧ R9.slots = ms) (hk : (k = 0 ∧ newarray.typeOf atype = .int) ∨ (k = 1 ∧ newarray.typeOf atype = .boolean)) (harr : Cond.arrayClass (newarray.typeOf atype) ∈ TW) (hd : decode cc pc = .ok (.newarray atype, 2))
    (kk : ∀ q M1, Sm V C nL n0 (nc + 1) QQ (pc + 2) lv (rv V.1 q :: st) M1 (f q M1)) : Sm V C nL n0 nc QQ pc lv (.int n :: st) M (mkA n0 mc ms M k n f) := by
  intro H locs ls hl hh res hr
  obtain ⟨m1, m2, m3, hr⟩ := mkA_spec hr
  obtain ⟨g1, g2, g3, g4, g5, hf⟩ := mk_spec hr
  have hN0 := hh.1.2
  have hts := hC.2.2.2.2.1
  have a1 := hC.1
  have a2 := hC.2.1
  have hK := hC.2.2.2.2.2.1.1
  subst hR
  have hk2 : k < 2 := by rcases hk with ⟨h, -⟩ | ⟨h, -⟩ <;> omega
  have hs1 : sz1 (mN M + 1) = n.toNatClampNeg := by
    unfold sz1
    rw [if_pos (by omega), m2]
  have hszs := Sz_succ (mN M)
  rw [hs1] at hszs
  rw [hN0] at g2 g3 g4 g5 hszs
  have hslots : Sz nc - Sz n0 + n.toNatClampNeg ≤ (cR C).slots := by rw [hrm.2]; omega
  have hcells : nc - n0 + 1 ≤ (cR C).cells := by rw [hrm.1]; omega
  have hby : n.toNatClampNeg * componentBytes (newarray.typeOf atype) ≤ 536870912 := by
    rcases hk with ⟨-, h⟩ | ⟨-, h⟩ <;> rw [h]
    · show _ * 4 ≤ _
      omega
    · show _ * 1 ≤ _
      omega
  refine va_newaK a1 a2 (hts _ harr) rfl hd rfl m1 rfl hby hcells hslots rfl fun H1 cA e1 z1 o1 hAr hNm => ?_
  have hcA : cA = V.2.2.1 k := by
    rcases hk with ⟨rfl, h⟩ | ⟨rfl, h⟩
    · rw [h] at hNm
      exact Option.some.inj (hNm.symm.trans (hK.2 0 _ rfl).2)
    · rw [h] at hNm
      exact Option.some.inj (hNm.symm.trans (hK.2 1 _ rfl).2)
  subst hcA
  have hsz : H.size = V.1 + (mN M + 1) := by
    have := hh.1.1
    omega
  have hdf : defaultValue (newarray.typeOf atype) = .int 0 := by
    rcases hk with ⟨-, h⟩ | ⟨-, h⟩ <;> rw [h] <;> rfl
  have hd2 : Hd V C (nc + 1) (nw M) H1 locs := hh.push z1 o1 (e := .inl (V.2.2.1 k, n.toNatClampNeg, .inl (fun _ => 0))) (by
    rw [cel_int hk2 g1, m2]
    congr 4
    funext t
    exact rI_nw M t) (by
    show H1[H.size]? = some (vp_cell _ _)
    rw [e1, hdf]
    rfl)
  have k1 := kk (mN M + 1) (nw M) H1 locs ls hl hd2 res hf
  rw [rv_pos (by omega), ← hsz, show nc + 1 - n0 = nc - n0 + 1 by omega, show Sz (nc + 1) - Sz n0 = Sz nc - Sz n0 + n.toNatClampNeg by omega] at k1
  exact k1
theorem Sm.anew {mc ms k : Nat} {n : Int32} {f : Nat → Mm → Option α} {Cn : String} (hC : Cok V C own cc nL n0 ret nm) (hR : cR C = R9) (hrm : R9.cells = mc ∧ R9.slots = ms) (hk : 2 ≤ k ∧ k < 10) (ht : (tys V)[k]? = some (V.2.2.1 k, .object Cn)) (hcl : Cond.classLink own index Cn ∈ TW) (hao : Cn ∈ aow) (hd : decode cc pc = .ok (.anewarray index, 3))
    (kk : ∀ q M1, Sm V C nL n0 (nc + 1) QQ (pc + 3) lv (rv V.1 q :: st) M1 (f q M1)) : Sm V C nL n0 nc QQ pc lv (.int n :: st) M (mkA n0 mc ms M k n f) := by
  intro H locs ls hl hh res hr
  obtain ⟨m1, m2, m3, hr⟩ := mkA_spec hr
  obtain ⟨g1, g2, g3, g4, g5, hf⟩ := mk_spec hr
  have hN0 := hh.1.2
  have hts := hC.2.2.2.2.1
  have a1 := hC.1
  have a2 := hC.2.1
  have a4 := hC.2.2.2.1
  have hK := hC.2.2.2.2.2.1.1
  have hA := hC.2.2.2.2.2.1.2.2.1 Cn hao
  subst hR
  have hs1 : sz1 (mN M + 1) = n.toNatClampNeg := by
    unfold sz1
    rw [if_pos (by omega), m2]
  have hszs := Sz_succ (mN M)
  rw [hs1] at hszs
  rw [hN0] at g2 g3 g4 g5 hszs
  have hslots : Sz nc - Sz n0 + n.toNatClampNeg ≤ (cR C).slots := by rw [hrm.2]; omega
  have hcells : nc - n0 + 1 ≤ (cR C).cells := by rw [hrm.1]; omega
  refine W.anew a1 a2 a4 (hts _ hcl) (va_AO.use hA) rfl hd rfl m1 (by omega) hcells hslots fun cA kA comp f1 f2 f3 f4 => ?_
  obtain ⟨kA', comp', q1, q2, q3, q4⟩ := (hK.2 k _ ht).2
  have hcA : cA = V.2.2.1 k := Option.some.inj (f1.symm.trans q4)
  subst hcA
  generalize hH1 : H.push ({ cls := V.2.2.1 k, slots := Array.replicate n.toNatClampNeg .null, vm := .none } : Cell) = H1
  have z1 : H1.size = H.size + 1 := by rw [← hH1, Array.size_push]
  have e1 : H1[H.size]? = some (arrV (V.2.2.1 k) n.toNatClampNeg (fun _ => .null)) := by rw [← hH1, Array.getElem?_push_size, ← arrV_new]
  have o1 : ∀ q : Nat, q < H.size → H1[q]? = H[q]? := fun q hq => by rw [← hH1, Array.getElem?_push, if_neg (Nat.ne_of_lt hq)]
  have hsz : H.size = V.1 + (mN M + 1) := by
    have := hh.1.1
    omega
  have hd2 : Hd V C (nc + 1) (nw M) H1 locs := hh.push z1 o1 (e := .inl (V.2.2.1 k, n.toNatClampNeg, .inr (.inr (.inr (.inr (fun _ => none)))))) (by
    rw [cel_ref hk.1 hk.2 g1, m2]
    congr 7
    funext t
    rw [rR_nw]
    rfl) (by
    show H1[H.size]? = some (vp_cell _ _)
    rw [e1]
    rfl)
  have k1 := kk (mN M + 1) (nw M) H1 locs ls hl hd2 res hf
  rw [rv_pos (by omega), ← hsz, show nc + 1 - n0 = nc - n0 + 1 by omega, show Sz (nc + 1) - Sz n0 = Sz nc - Sz n0 + n.toNatClampNeg by omega] at k1
  exact k1
theorem Sm.vretK {mc ms : Nat} (hC : Cok V C own cc nL n0 none nm) (hd : decode cc pc = .ok (.return_, 1)) : Sm V C nL n0 nc (fun res : Unit × Mm => MQ (cB C) (QC V none res.2 mc) (cA C) (cS C) mc ms (Af V)) pc lv [] M (rtK n0 mc ms M) := by
  refine Sm.cnt (fun hN => ?_)
  unfold rtK
  refine Sm.if_ (fun h => ?_) (fun _ => Sm.none_)
  simp only [Bool.and_eq_true, Nat.beq_eq] at h
  rw [hN] at h
  exact Sm.vret hC hd h.1 (by omega)
theorem Sm.clK_ {β : Type} {mc ms mc' ms' maxL : Nat} {rm : Room} {g : Bool} {Y : Option (β × Mm)} {K : β → Mm → Option α} (hrm : R9.cells = mc ∧ R9.slots = ms) (h9 : rm.cells = mc' ∧ rm.slots = ms' ∧ rm.frames + 1 ≤ R9.frames ∧ 8 + (maxL + 11) + rm.locals ≤ R9.locals)
    (kk : RW rm R9 maxL mc' ms' n0 nc → Sm V C nL n0 nc QQ pc lv st M (cl g Y K)) : Sm V C nL n0 nc QQ pc lv st M (clK n0 mc ms mc' ms' M g Y K) := by
  refine Sm.cnt (fun hN => ?_)
  unfold clK
  refine Sm.if_ (fun h => ?_) (fun _ => Sm.none_)
  simp only [Bool.and_eq_true, Nat.beq_eq, Nat.ble_eq] at h
  rw [hN] at h
  obtain ⟨h1, h2, h3, h4, h5⟩ := h
  exact kk ⟨h9.1, h9.2.1, h9.2.2.1, h9.2.2.2, by rw [hrm.1]; omega, by rw [hrm.2]; omega, h1, by omega⟩
end RULES8
abbrev qK (V : Ev) (C : Cx) (mc ms : Nat) : Unit × Mm → State → Prop := fun res => MQ (cB C) (QC V none res.2 mc) (cA C) (cS C) mc ms (Af V)
theorem df_c0 : ∀ j, j < 4 → ((ft 0)[j]?).map dv = some (defaultValue (y_c0 j)) := by decide +kernel
theorem df_c1 : ∀ j, j < 3 → ((ft 1)[j]?).map dv = some (defaultValue (y_c1 j)) := by decide +kernel
theorem df_c2 : ∀ j, j < 5 → ((ft 2)[j]?).map dv = some (defaultValue (y_c2 j)) := by decide +kernel
theorem df_c3 : ∀ j, j < 8 → ((ft 3)[j]?).map dv = some (defaultValue (y_c3 j)) := by decide +kernel
theorem df_c4 : ∀ j, j < 2 → ((ft 4)[j]?).map dv = some (defaultValue (y_c4 j)) := by decide +kernel
theorem df_c5 : ∀ j, j < 8 → ((ft 5)[j]?).map dv = some (defaultValue (y_c5 j)) := by decide +kernel
theorem df_c6 : ∀ j, j < 2 → ((ft 6)[j]?).map dv = some (defaultValue (y_c6 j)) := by decide +kernel
theorem df_c7 : ∀ j, j < 10 → ((ft 7)[j]?).map dv = some (defaultValue (y_c7 j)) := by decide +kernel
theorem df_c8 : ∀ j, j < 4 → ((ft 8)[j]?).map dv = some (defaultValue (y_c8 j)) := by decide +kernel
theorem df_c9 : ∀ j, j < 7 → ((ft 9)[j]?).map dv = some (defaultValue (y_c9 j)) := by decide +kernel
theorem df_c10 : ∀ j, j < 16 → ((ft 10)[j]?).map dv = some (defaultValue (y_c10 j)) := by decide +kernel
theorem df_c11 : ∀ j, j < 58 → ((ft 11)[j]?).map dv = some (defaultValue (y_c11 j)) := by decide +kernel
/-! NewsWire$Choice -/
abbrev b_m0_init : ByteArray := prog_2_method_1_code
def y_m0_init : MethodName := ⟨"NewsWire$Choice", "<init>", "()V"⟩
def rm_m0_init : Room := { frames := 1, cells := 2, slots := 290, locals := 60 }
theorem cw_m0_init : CW y_m0_init b_m0_init 1 none 0 := ⟨tw_i 60 (by decide +kernel), tw_i 206 (by decide +kernel), by decide, by decide, by decide +kernel⟩
theorem d_m0_init_0 : decode b_m0_init 0 = .ok (.aload_n 0, 1) := by decide +kernel
theorem d_m0_init_1 : decode b_m0_init 1 = .ok (.invokespecial 3, 3) := by decide +kernel
theorem d_m0_init_4 : decode b_m0_init 4 = .ok (.aload_n 0, 1) := by decide +kernel
theorem d_m0_init_5 : decode b_m0_init 5 = .ok (.sipush 145, 3) := by decide +kernel
theorem d_m0_init_8 : decode b_m0_init 8 = .ok (.newarray .int, 2) := by decide +kernel
theorem d_m0_init_10 : decode b_m0_init 10 = .ok (.putfield 11, 3) := by decide +kernel
theorem d_m0_init_13 : decode b_m0_init 13 = .ok (.aload_n 0, 1) := by decide +kernel
theorem d_m0_init_14 : decode b_m0_init 14 = .ok (.sipush 145, 3) := by decide +kernel
theorem d_m0_init_17 : decode b_m0_init 17 = .ok (.newarray .int, 2) := by decide +kernel
theorem d_m0_init_19 : decode b_m0_init 19 = .ok (.putfield 15, 3) := by decide +kernel
theorem d_m0_init_22 : decode b_m0_init 22 = .ok (.return_, 1) := by decide +kernel
def s0_m0_init (n0 : Nat) (r0 : Nat) (M : Mm) : Option (Unit × Mm) := (if has M r0 10 = true then mkA n0 2 290 M 0 (145 : Int32) (fun v1 M2 => pR M2 r0 10 0 v1 (fun M3 => mkA n0 2 290 M3 0 (145 : Int32) (fun v4 M5 => pR M5 r0 10 1 v4 (fun M6 => rtK n0 2 290 M6)))) else none)
def s_m0_init (r0 : Nat) (M : Mm) : Option (Unit × Mm) := s0_m0_init (mN M) r0 M
set_option maxRecDepth 100000 in
set_option maxHeartbeats 4000000 in
theorem ok_m0_init {l : Launch} {V : Ev} {M M' : Mm} {r : Unit} {r0 : Nat} (h : s_m0_init r0 M = some (r, M')) : Met l y_m0_init (Cond.code y_m0_init b_m0_init 1 none :: TW) rm_m0_init (va_Pc [rv V.1 r0] (Wd V M)) (QC V none M' 2) 2 290 (Af V) := by
  refine met_of (fun _ : Unit => none) (lv0 := [(0, rv V.1 r0)]) (by decide) (by simp [lg_sl, cat_rv, cat_i, cat_l, cat_f]) (by simp [lv_args, cat_rv, cat_i, cat_l, cat_f]) (fun C hl hR hC => ?_) h
  subst hl
  unfold s_m0_init s0_m0_init
  generalize mN M = n0 at hC ⊢
  refine Sm.aload_n hC d_m0_init_0 rfl 0 rfl ?_
  refine Sm.objInit hC hR (tw_i 207 (by decide +kernel)) (tw_i 79 (by decide +kernel)) (tw_i 80 (by decide +kernel)) (by decide) (by decide) (by simp) d_m0_init_1 ?_
  refine Sm.aload_n hC d_m0_init_4 rfl 0 rfl ?_
  refine Sm.sipush (v := 145) hC d_m0_init_5 (by decide) ?_
  refine Sm.newa (atype := .int) hC hR ⟨rfl, rfl⟩ (Or.inl ⟨rfl, rfl⟩) (tw_i 131 (by decide +kernel)) d_m0_init_8 (fun v1 M2 => ?_)
  refine Sm.putRF hC rfl fl_m0_11 rfl rfl rfl d_m0_init_10 (fun M3 => ?_)
  refine Sm.aload_n hC d_m0_init_13 rfl 0 rfl ?_
  refine Sm.sipush (v := 145) hC d_m0_init_14 (by decide) ?_
  refine Sm.newa (atype := .int) hC hR ⟨rfl, rfl⟩ (Or.inl ⟨rfl, rfl⟩) (tw_i 131 (by decide +kernel)) d_m0_init_17 (fun v4 M5 => ?_)
  refine Sm.putRF hC rfl fl_m0_15 rfl rfl rfl d_m0_init_19 (fun M6 => ?_)
  exact Sm.vretK hC d_m0_init_22
/-! NewsWire$Garbles -/
abbrev b_m1_init : ByteArray := prog_3_method_1_code
def y_m1_init : MethodName := ⟨"NewsWire$Garbles", "<init>", "()V"⟩
def rm_m1_init : Room := { frames := 1, cells := 2, slots := 80, locals := 60 }
theorem cw_m1_init : CW y_m1_init b_m1_init 1 none 0 := ⟨tw_i 58 (by decide +kernel), tw_i 145 (by decide +kernel), by decide, by decide, by decide +kernel⟩
theorem d_m1_init_0 : decode b_m1_init 0 = .ok (.aload_n 0, 1) := by decide +kernel
theorem d_m1_init_1 : decode b_m1_init 1 = .ok (.invokespecial 3, 3) := by decide +kernel
theorem d_m1_init_4 : decode b_m1_init 4 = .ok (.aload_n 0, 1) := by decide +kernel
theorem d_m1_init_5 : decode b_m1_init 5 = .ok (.bipush 40, 2) := by decide +kernel
theorem d_m1_init_7 : decode b_m1_init 7 = .ok (.newarray .int, 2) := by decide +kernel
theorem d_m1_init_9 : decode b_m1_init 9 = .ok (.putfield 9, 3) := by decide +kernel
theorem d_m1_init_12 : decode b_m1_init 12 = .ok (.aload_n 0, 1) := by decide +kernel
theorem d_m1_init_13 : decode b_m1_init 13 = .ok (.bipush 40, 2) := by decide +kernel
theorem d_m1_init_15 : decode b_m1_init 15 = .ok (.newarray .int, 2) := by decide +kernel
theorem d_m1_init_17 : decode b_m1_init 17 = .ok (.putfield 15, 3) := by decide +kernel
theorem d_m1_init_20 : decode b_m1_init 20 = .ok (.return_, 1) := by decide +kernel
def s0_m1_init (n0 : Nat) (r0 : Nat) (M : Mm) : Option (Unit × Mm) := (if has M r0 11 = true then mkA n0 2 80 M 0 (40 : Int32) (fun v1 M2 => pR M2 r0 11 0 v1 (fun M3 => mkA n0 2 80 M3 0 (40 : Int32) (fun v4 M5 => pR M5 r0 11 1 v4 (fun M6 => rtK n0 2 80 M6)))) else none)
def s_m1_init (r0 : Nat) (M : Mm) : Option (Unit × Mm) := s0_m1_init (mN M) r0 M
set_option maxRecDepth 100000 in
set_option maxHeartbeats 4000000 in
theorem ok_m1_init {l : Launch} {V : Ev} {M M' : Mm} {r : Unit} {r0 : Nat} (h : s_m1_init r0 M = some (r, M')) : Met l y_m1_init (Cond.code y_m1_init b_m1_init 1 none :: TW) rm_m1_init (va_Pc [rv V.1 r0] (Wd V M)) (QC V none M' 2) 2 80 (Af V) := by
  refine met_of (fun _ : Unit => none) (lv0 := [(0, rv V.1 r0)]) (by decide) (by simp [lg_sl, cat_rv, cat_i, cat_l, cat_f]) (by simp [lv_args, cat_rv, cat_i, cat_l, cat_f]) (fun C hl hR hC => ?_) h
  subst hl
  unfold s_m1_init s0_m1_init
  generalize mN M = n0 at hC ⊢
  refine Sm.aload_n hC d_m1_init_0 rfl 0 rfl ?_
  refine Sm.objInit hC hR (tw_i 146 (by decide +kernel)) (tw_i 79 (by decide +kernel)) (tw_i 80 (by decide +kernel)) (by decide) (by decide) (by simp) d_m1_init_1 ?_
  refine Sm.aload_n hC d_m1_init_4 rfl 0 rfl ?_
  refine Sm.bipush (v := 40) hC d_m1_init_5 (by decide) ?_
  refine Sm.newa (atype := .int) hC hR ⟨rfl, rfl⟩ (Or.inl ⟨rfl, rfl⟩) (tw_i 131 (by decide +kernel)) d_m1_init_7 (fun v1 M2 => ?_)
  refine Sm.putRF hC rfl fl_m1_9 rfl rfl rfl d_m1_init_9 (fun M3 => ?_)
  refine Sm.aload_n hC d_m1_init_12 rfl 0 rfl ?_
  refine Sm.bipush (v := 40) hC d_m1_init_13 (by decide) ?_
  refine Sm.newa (atype := .int) hC hR ⟨rfl, rfl⟩ (Or.inl ⟨rfl, rfl⟩) (tw_i 131 (by decide +kernel)) d_m1_init_15 (fun v4 M5 => ?_)
  refine Sm.putRF hC rfl fl_m1_15 rfl rfl rfl d_m1_init_17 (fun M6 => ?_)
  exact Sm.vretK hC d_m1_init_20
/-! NewsWire$Paper -/
theorem fl_m2_15 : FL "NewsWire$Paper" 15 2 2 0 false .int := ⟨_, _, _, _, rfl, in_c2, ty_c2, nm_c2, by decide, rfl, tw_i 342 (by decide +kernel), rfl, rfl, rfl, rfl⟩
abbrev b_m2_init : ByteArray := prog_4_method_1_code
def y_m2_init : MethodName := ⟨"NewsWire$Paper", "<init>", "()V"⟩
def rm_m2_init : Room := { frames := 1, cells := 1, slots := 40, locals := 60 }
theorem cw_m2_init : CW y_m2_init b_m2_init 2 none 0 := ⟨tw_i 65 (by decide +kernel), tw_i 337 (by decide +kernel), by decide, by decide, by decide +kernel⟩
theorem d_m2_init_0 : decode b_m2_init 0 = .ok (.aload_n 0, 1) := by decide +kernel
theorem d_m2_init_1 : decode b_m2_init 1 = .ok (.invokespecial 3, 3) := by decide +kernel
theorem d_m2_init_4 : decode b_m2_init 4 = .ok (.aload_n 0, 1) := by decide +kernel
theorem d_m2_init_5 : decode b_m2_init 5 = .ok (.bipush 40, 2) := by decide +kernel
theorem d_m2_init_7 : decode b_m2_init 7 = .ok (.newarray .int, 2) := by decide +kernel
theorem d_m2_init_9 : decode b_m2_init 9 = .ok (.putfield 9, 3) := by decide +kernel
theorem d_m2_init_12 : decode b_m2_init 12 = .ok (.aload_n 0, 1) := by decide +kernel
theorem d_m2_init_13 : decode b_m2_init 13 = .ok (.iconst (-1), 1) := by decide +kernel
theorem d_m2_init_14 : decode b_m2_init 14 = .ok (.putfield 15, 3) := by decide +kernel
theorem d_m2_init_17 : decode b_m2_init 17 = .ok (.iconst 0, 1) := by decide +kernel
theorem d_m2_init_18 : decode b_m2_init 18 = .ok (.istore_n 1, 1) := by decide +kernel
theorem d_m2_init_19 : decode b_m2_init 19 = .ok (.iload_n 1, 1) := by decide +kernel
theorem d_m2_init_20 : decode b_m2_init 20 = .ok (.bipush 40, 2) := by decide +kernel
theorem d_m2_init_22 : decode b_m2_init 22 = .ok (.if_icmp .ge 16, 3) := by decide +kernel
theorem d_m2_init_25 : decode b_m2_init 25 = .ok (.aload_n 0, 1) := by decide +kernel
theorem d_m2_init_26 : decode b_m2_init 26 = .ok (.getfield 9, 3) := by decide +kernel
theorem d_m2_init_29 : decode b_m2_init 29 = .ok (.iload_n 1, 1) := by decide +kernel
theorem d_m2_init_30 : decode b_m2_init 30 = .ok (.iconst (-1), 1) := by decide +kernel
theorem d_m2_init_31 : decode b_m2_init 31 = .ok (.iastore, 1) := by decide +kernel
theorem d_m2_init_32 : decode b_m2_init 32 = .ok (.iinc 1 1, 3) := by decide +kernel
theorem d_m2_init_35 : decode b_m2_init 35 = .ok (.goto (-16), 3) := by decide +kernel
theorem d_m2_init_38 : decode b_m2_init 38 = .ok (.return_, 1) := by decide +kernel
def s_m2_init_19 (n0 : Nat) : Nat → Nat → Int32 → Mm → Option (Unit × Mm)
  | 0, _, _, _ => none
  | n + 1, r0, x1, M => (if (40 : Int32) ≤ x1 then rtK n0 1 40 M else gR M r0 12 0 (fun v1 => sI M v1 0 x1 (-1 : Int32) (fun M2 => (s_m2_init_19 n0 n) r0 (x1 + 1) M2)))
def s0_m2_init (n0 : Nat) (r0 : Nat) (M : Mm) : Option (Unit × Mm) := (if has M r0 12 = true then mkA n0 1 40 M 0 (40 : Int32) (fun v1 M2 => pR M2 r0 12 0 v1 (fun M3 => pI M3 r0 12 2 (-1 : Int32) (fun M4 => s_m2_init_19 n0 FU r0 (0 : Int32) M4))) else none)
def s_m2_init (r0 : Nat) (M : Mm) : Option (Unit × Mm) := s0_m2_init (mN M) r0 M
set_option maxRecDepth 100000 in
set_option maxHeartbeats 4000000 in
theorem w_m2_init_19 {V : Ev} {C : Cx} {n0 : Nat} (hC : Cok V C y_m2_init.cls b_m2_init 2 n0 none y_m2_init.name) (hR : cR C = rm_m2_init)  : ∀ (n : Nat) (r0 : Nat) (x1 : Int32) (M : Mm), Sm V C 2 n0 (mN M) (qK V C 1 40) 19 [(0, rv V.1 r0), (1, .int x1)] [] M (s_m2_init_19 n0 n r0 x1 M) := by
  intro n
  induction n with
  | zero => exact fun r0 x1 M => Sm.none_
  | succ n ih =>
    intro r0 x1 M
    unfold s_m2_init_19
    refine Sm.iload_n hC d_m2_init_19 rfl 1 rfl ?_
    refine Sm.bipush (v := 40) hC d_m2_init_20 (by decide) ?_
    refine Sm.icmp_ge (tgt := 38) hC d_m2_init_22 (by decide) ?_ ?_
    · exact Sm.vretK hC d_m2_init_38
    · refine Sm.aload_n hC d_m2_init_25 rfl 0 rfl ?_
      refine Sm.getR hC fl_m2_9 rfl d_m2_init_26 (fun v1 => ?_)
      refine Sm.iload_n hC d_m2_init_29 rfl 1 rfl ?_
      refine Sm.iconst (v := -1) hC d_m2_init_30 (by decide) ?_
      refine Sm.iast hC d_m2_init_31 (fun M2 => ?_)
      refine Sm.iinc (v := x1 + 1) (lv' := [(1, .int (x1 + 1)), (0, rv V.1 r0)]) hC d_m2_init_32 1 rfl rfl (by decide) (by simp [cat_rv]) ?_
      refine Sm.goto (tgt := 19) hC d_m2_init_35 (by decide) ?_
      refine Sm.sub [1, 0] rfl ?_
      refine Sm.cnt (fun hN9 => ?_)
      rw [← hN9]
      exact ih r0 (x1 + 1) M2
set_option maxRecDepth 100000 in
set_option maxHeartbeats 4000000 in
theorem ok_m2_init {l : Launch} {V : Ev} {M M' : Mm} {r : Unit} {r0 : Nat} (h : s_m2_init r0 M = some (r, M')) : Met l y_m2_init (Cond.code y_m2_init b_m2_init 2 none :: TW) rm_m2_init (va_Pc [rv V.1 r0] (Wd V M)) (QC V none M' 1) 1 40 (Af V) := by
  refine met_of (fun _ : Unit => none) (lv0 := [(0, rv V.1 r0)]) (by decide) (by simp [lg_sl, cat_rv, cat_i, cat_l, cat_f]) (by simp [lv_args, cat_rv, cat_i, cat_l, cat_f]) (fun C hl hR hC => ?_) h
  subst hl
  unfold s_m2_init s0_m2_init
  generalize mN M = n0 at hC ⊢
  refine Sm.aload_n hC d_m2_init_0 rfl 0 rfl ?_
  refine Sm.objInit hC hR (tw_i 338 (by decide +kernel)) (tw_i 79 (by decide +kernel)) (tw_i 80 (by decide +kernel)) (by decide) (by decide) (by simp) d_m2_init_1 ?_
  refine Sm.aload_n hC d_m2_init_4 rfl 0 rfl ?_
  refine Sm.bipush (v := 40) hC d_m2_init_5 (by decide) ?_
  refine Sm.newa (atype := .int) hC hR ⟨rfl, rfl⟩ (Or.inl ⟨rfl, rfl⟩) (tw_i 131 (by decide +kernel)) d_m2_init_7 (fun v1 M2 => ?_)
  refine Sm.putRF hC rfl fl_m2_9 rfl rfl rfl d_m2_init_9 (fun M3 => ?_)
  refine Sm.aload_n hC d_m2_init_12 rfl 0 rfl ?_
  refine Sm.iconst (v := -1) hC d_m2_init_13 (by decide) ?_
  refine Sm.putI hC fl_m2_15 rfl d_m2_init_14 (fun M4 => ?_)
  refine Sm.iconst (v := 0) hC d_m2_init_17 (by decide) ?_
  refine Sm.istore_n (i := 1) (lv' := [(1, .int (0 : Int32)), (0, rv V.1 r0)]) hC d_m2_init_18 rfl (by decide) (by simp [cat_rv, cat_i, cat_l, cat_f]) ?_
  refine Sm.sub [1, 0] rfl ?_
  refine Sm.cnt (fun hN9 => ?_)
  rw [← hN9]
  exact w_m2_init_19 hC hR FU r0 (0 : Int32) M4
/-! NewsWire$Piece -/
theorem fl_m3_9 : FL "NewsWire$Piece" 9 3 0 2 true (.array .int) := ⟨_, _, _, _, rfl, in_c3, ty_c3, nm_c3, by decide, rfl, tw_i 296 (by decide +kernel), rfl, rfl, rfl, rfl⟩
abbrev b_m3_init : ByteArray := prog_5_method_1_code
def y_m3_init : MethodName := ⟨"NewsWire$Piece", "<init>", "()V"⟩
def rm_m3_init : Room := { frames := 1, cells := 1, slots := 12, locals := 60 }
theorem cw_m3_init : CW y_m3_init b_m3_init 1 none 0 := ⟨tw_i 64 (by decide +kernel), tw_i 294 (by decide +kernel), by decide, by decide, by decide +kernel⟩
theorem d_m3_init_0 : decode b_m3_init 0 = .ok (.aload_n 0, 1) := by decide +kernel
theorem d_m3_init_1 : decode b_m3_init 1 = .ok (.invokespecial 3, 3) := by decide +kernel
theorem d_m3_init_4 : decode b_m3_init 4 = .ok (.aload_n 0, 1) := by decide +kernel
theorem d_m3_init_5 : decode b_m3_init 5 = .ok (.bipush 12, 2) := by decide +kernel
theorem d_m3_init_7 : decode b_m3_init 7 = .ok (.newarray .int, 2) := by decide +kernel
theorem d_m3_init_9 : decode b_m3_init 9 = .ok (.putfield 9, 3) := by decide +kernel
theorem d_m3_init_12 : decode b_m3_init 12 = .ok (.return_, 1) := by decide +kernel
def s0_m3_init (n0 : Nat) (r0 : Nat) (M : Mm) : Option (Unit × Mm) := (if has M r0 13 = true then mkA n0 1 12 M 0 (12 : Int32) (fun v1 M2 => pR M2 r0 13 0 v1 (fun M3 => rtK n0 1 12 M3)) else none)
def s_m3_init (r0 : Nat) (M : Mm) : Option (Unit × Mm) := s0_m3_init (mN M) r0 M
set_option maxRecDepth 100000 in
set_option maxHeartbeats 4000000 in
theorem ok_m3_init {l : Launch} {V : Ev} {M M' : Mm} {r : Unit} {r0 : Nat} (h : s_m3_init r0 M = some (r, M')) : Met l y_m3_init (Cond.code y_m3_init b_m3_init 1 none :: TW) rm_m3_init (va_Pc [rv V.1 r0] (Wd V M)) (QC V none M' 1) 1 12 (Af V) := by
  refine met_of (fun _ : Unit => none) (lv0 := [(0, rv V.1 r0)]) (by decide) (by simp [lg_sl, cat_rv, cat_i, cat_l, cat_f]) (by simp [lv_args, cat_rv, cat_i, cat_l, cat_f]) (fun C hl hR hC => ?_) h
  subst hl
  unfold s_m3_init s0_m3_init
  generalize mN M = n0 at hC ⊢
  refine Sm.aload_n hC d_m3_init_0 rfl 0 rfl ?_
  refine Sm.objInit hC hR (tw_i 295 (by decide +kernel)) (tw_i 79 (by decide +kernel)) (tw_i 80 (by decide +kernel)) (by decide) (by decide) (by simp) d_m3_init_1 ?_
  refine Sm.aload_n hC d_m3_init_4 rfl 0 rfl ?_
  refine Sm.bipush (v := 12) hC d_m3_init_5 (by decide) ?_
  refine Sm.newa (atype := .int) hC hR ⟨rfl, rfl⟩ (Or.inl ⟨rfl, rfl⟩) (tw_i 131 (by decide +kernel)) d_m3_init_7 (fun v1 M2 => ?_)
  refine Sm.putRF hC rfl fl_m3_9 rfl rfl rfl d_m3_init_9 (fun M3 => ?_)
  exact Sm.vretK hC d_m3_init_12
/-! NewsWire$Row -/
abbrev b_m4_init : ByteArray := prog_6_method_1_code
def y_m4_init : MethodName := ⟨"NewsWire$Row", "<init>", "()V"⟩
def rm_m4_init : Room := { frames := 1, cells := 1, slots := 16, locals := 60 }
theorem cw_m4_init : CW y_m4_init b_m4_init 1 none 0 := ⟨tw_i 62 (by decide +kernel), tw_i 247 (by decide +kernel), by decide, by decide, by decide +kernel⟩
theorem d_m4_init_0 : decode b_m4_init 0 = .ok (.aload_n 0, 1) := by decide +kernel
theorem d_m4_init_1 : decode b_m4_init 1 = .ok (.invokespecial 3, 3) := by decide +kernel
theorem d_m4_init_4 : decode b_m4_init 4 = .ok (.aload_n 0, 1) := by decide +kernel
theorem d_m4_init_5 : decode b_m4_init 5 = .ok (.bipush 16, 2) := by decide +kernel
theorem d_m4_init_7 : decode b_m4_init 7 = .ok (.newarray .int, 2) := by decide +kernel
theorem d_m4_init_9 : decode b_m4_init 9 = .ok (.putfield 9, 3) := by decide +kernel
theorem d_m4_init_12 : decode b_m4_init 12 = .ok (.return_, 1) := by decide +kernel
def s0_m4_init (n0 : Nat) (r0 : Nat) (M : Mm) : Option (Unit × Mm) := (if has M r0 14 = true then mkA n0 1 16 M 0 (16 : Int32) (fun v1 M2 => pR M2 r0 14 0 v1 (fun M3 => rtK n0 1 16 M3)) else none)
def s_m4_init (r0 : Nat) (M : Mm) : Option (Unit × Mm) := s0_m4_init (mN M) r0 M
set_option maxRecDepth 100000 in
set_option maxHeartbeats 4000000 in
theorem ok_m4_init {l : Launch} {V : Ev} {M M' : Mm} {r : Unit} {r0 : Nat} (h : s_m4_init r0 M = some (r, M')) : Met l y_m4_init (Cond.code y_m4_init b_m4_init 1 none :: TW) rm_m4_init (va_Pc [rv V.1 r0] (Wd V M)) (QC V none M' 1) 1 16 (Af V) := by
  refine met_of (fun _ : Unit => none) (lv0 := [(0, rv V.1 r0)]) (by decide) (by simp [lg_sl, cat_rv, cat_i, cat_l, cat_f]) (by simp [lv_args, cat_rv, cat_i, cat_l, cat_f]) (fun C hl hR hC => ?_) h
  subst hl
  unfold s_m4_init s0_m4_init
  generalize mN M = n0 at hC ⊢
  refine Sm.aload_n hC d_m4_init_0 rfl 0 rfl ?_
  refine Sm.objInit hC hR (tw_i 248 (by decide +kernel)) (tw_i 79 (by decide +kernel)) (tw_i 80 (by decide +kernel)) (by decide) (by decide) (by simp) d_m4_init_1 ?_
  refine Sm.aload_n hC d_m4_init_4 rfl 0 rfl ?_
  refine Sm.bipush (v := 16) hC d_m4_init_5 (by decide) ?_
  refine Sm.newa (atype := .int) hC hR ⟨rfl, rfl⟩ (Or.inl ⟨rfl, rfl⟩) (tw_i 131 (by decide +kernel)) d_m4_init_7 (fun v1 M2 => ?_)
  refine Sm.putRF hC rfl fl_m4_9 rfl rfl rfl d_m4_init_9 (fun M3 => ?_)
  exact Sm.vretK hC d_m4_init_12
/-! NewsWire$Rule -/
abbrev b_m5_init : ByteArray := prog_7_method_1_code
def y_m5_init : MethodName := ⟨"NewsWire$Rule", "<init>", "()V"⟩
def rm_m5_init : Room := { frames := 1, cells := 3, slots := 9, locals := 60 }
theorem cw_m5_init : CW y_m5_init b_m5_init 1 none 0 := ⟨tw_i 57 (by decide +kernel), tw_i 98 (by decide +kernel), by decide, by decide, by decide +kernel⟩
theorem d_m5_init_0 : decode b_m5_init 0 = .ok (.aload_n 0, 1) := by decide +kernel
theorem d_m5_init_1 : decode b_m5_init 1 = .ok (.invokespecial 3, 3) := by decide +kernel
theorem d_m5_init_4 : decode b_m5_init 4 = .ok (.aload_n 0, 1) := by decide +kernel
theorem d_m5_init_5 : decode b_m5_init 5 = .ok (.iconst 3, 1) := by decide +kernel
theorem d_m5_init_6 : decode b_m5_init 6 = .ok (.newarray .int, 2) := by decide +kernel
theorem d_m5_init_8 : decode b_m5_init 8 = .ok (.putfield 9, 3) := by decide +kernel
theorem d_m5_init_11 : decode b_m5_init 11 = .ok (.aload_n 0, 1) := by decide +kernel
theorem d_m5_init_12 : decode b_m5_init 12 = .ok (.iconst 3, 1) := by decide +kernel
theorem d_m5_init_13 : decode b_m5_init 13 = .ok (.newarray .int, 2) := by decide +kernel
theorem d_m5_init_15 : decode b_m5_init 15 = .ok (.putfield 15, 3) := by decide +kernel
theorem d_m5_init_18 : decode b_m5_init 18 = .ok (.aload_n 0, 1) := by decide +kernel
theorem d_m5_init_19 : decode b_m5_init 19 = .ok (.iconst 3, 1) := by decide +kernel
theorem d_m5_init_20 : decode b_m5_init 20 = .ok (.newarray .int, 2) := by decide +kernel
theorem d_m5_init_22 : decode b_m5_init 22 = .ok (.putfield 18, 3) := by decide +kernel
theorem d_m5_init_25 : decode b_m5_init 25 = .ok (.return_, 1) := by decide +kernel
def s0_m5_init (n0 : Nat) (r0 : Nat) (M : Mm) : Option (Unit × Mm) := (if has M r0 15 = true then mkA n0 3 9 M 0 (3 : Int32) (fun v1 M2 => pR M2 r0 15 0 v1 (fun M3 => mkA n0 3 9 M3 0 (3 : Int32) (fun v4 M5 => pR M5 r0 15 1 v4 (fun M6 => mkA n0 3 9 M6 0 (3 : Int32) (fun v7 M8 => pR M8 r0 15 2 v7 (fun M9 => rtK n0 3 9 M9)))))) else none)
def s_m5_init (r0 : Nat) (M : Mm) : Option (Unit × Mm) := s0_m5_init (mN M) r0 M
set_option maxRecDepth 100000 in
set_option maxHeartbeats 4000000 in
theorem ok_m5_init {l : Launch} {V : Ev} {M M' : Mm} {r : Unit} {r0 : Nat} (h : s_m5_init r0 M = some (r, M')) : Met l y_m5_init (Cond.code y_m5_init b_m5_init 1 none :: TW) rm_m5_init (va_Pc [rv V.1 r0] (Wd V M)) (QC V none M' 3) 3 9 (Af V) := by
  refine met_of (fun _ : Unit => none) (lv0 := [(0, rv V.1 r0)]) (by decide) (by simp [lg_sl, cat_rv, cat_i, cat_l, cat_f]) (by simp [lv_args, cat_rv, cat_i, cat_l, cat_f]) (fun C hl hR hC => ?_) h
  subst hl
  unfold s_m5_init s0_m5_init
  generalize mN M = n0 at hC ⊢
  refine Sm.aload_n hC d_m5_init_0 rfl 0 rfl ?_
  refine Sm.objInit hC hR (tw_i 99 (by decide +kernel)) (tw_i 79 (by decide +kernel)) (tw_i 80 (by decide +kernel)) (by decide) (by decide) (by simp) d_m5_init_1 ?_
  refine Sm.aload_n hC d_m5_init_4 rfl 0 rfl ?_
  refine Sm.iconst (v := 3) hC d_m5_init_5 (by decide) ?_
  refine Sm.newa (atype := .int) hC hR ⟨rfl, rfl⟩ (Or.inl ⟨rfl, rfl⟩) (tw_i 131 (by decide +kernel)) d_m5_init_6 (fun v1 M2 => ?_)
  refine Sm.putRF hC rfl fl_m5_9 rfl rfl rfl d_m5_init_8 (fun M3 => ?_)
  refine Sm.aload_n hC d_m5_init_11 rfl 0 rfl ?_
  refine Sm.iconst (v := 3) hC d_m5_init_12 (by decide) ?_
  refine Sm.newa (atype := .int) hC hR ⟨rfl, rfl⟩ (Or.inl ⟨rfl, rfl⟩) (tw_i 131 (by decide +kernel)) d_m5_init_13 (fun v4 M5 => ?_)
  refine Sm.putRF hC rfl fl_m5_15 rfl rfl rfl d_m5_init_15 (fun M6 => ?_)
  refine Sm.aload_n hC d_m5_init_18 rfl 0 rfl ?_
  refine Sm.iconst (v := 3) hC d_m5_init_19 (by decide) ?_
  refine Sm.newa (atype := .int) hC hR ⟨rfl, rfl⟩ (Or.inl ⟨rfl, rfl⟩) (tw_i 131 (by decide +kernel)) d_m5_init_20 (fun v7 M8 => ?_)
  refine Sm.putRF hC rfl fl_m5_18 rfl rfl rfl d_m5_init_22 (fun M9 => ?_)
  exact Sm.vretK hC d_m5_init_25
/-! NewsWire$Rules -/
abbrev b_m6_init : ByteArray := prog_8_method_1_code
def y_m6_init : MethodName := ⟨"NewsWire$Rules", "<init>", "()V"⟩
def rm_m6_init : Room := { frames := 2, cells := 41, slots := 180, locals := 80 }
theorem cw_m6_init : CW y_m6_init b_m6_init 2 none 0 := ⟨tw_i 56 (by decide +kernel), tw_i 91 (by decide +kernel), by decide, by decide, by decide +kernel⟩
theorem d_m6_init_0 : decode b_m6_init 0 = .ok (.aload_n 0, 1) := by decide +kernel
theorem d_m6_init_1 : decode b_m6_init 1 = .ok (.invokespecial 3, 3) := by decide +kernel
theorem d_m6_init_4 : decode b_m6_init 4 = .ok (.aload_n 0, 1) := by decide +kernel
theorem d_m6_init_5 : decode b_m6_init 5 = .ok (.bipush 10, 2) := by decide +kernel
theorem d_m6_init_7 : decode b_m6_init 7 = .ok (.anewarray 9, 3) := by decide +kernel
theorem d_m6_init_10 : decode b_m6_init 10 = .ok (.putfield 11, 3) := by decide +kernel
theorem d_m6_init_13 : decode b_m6_init 13 = .ok (.iconst 0, 1) := by decide +kernel
theorem d_m6_init_14 : decode b_m6_init 14 = .ok (.istore_n 1, 1) := by decide +kernel
theorem d_m6_init_15 : decode b_m6_init 15 = .ok (.iload_n 1, 1) := by decide +kernel
theorem d_m6_init_16 : decode b_m6_init 16 = .ok (.bipush 10, 2) := by decide +kernel
theorem d_m6_init_18 : decode b_m6_init 18 = .ok (.if_icmp .ge 22, 3) := by decide +kernel
theorem d_m6_init_21 : decode b_m6_init 21 = .ok (.aload_n 0, 1) := by decide +kernel
theorem d_m6_init_22 : decode b_m6_init 22 = .ok (.getfield 11, 3) := by decide +kernel
theorem d_m6_init_25 : decode b_m6_init 25 = .ok (.iload_n 1, 1) := by decide +kernel
theorem d_m6_init_26 : decode b_m6_init 26 = .ok (.new 9, 3) := by decide +kernel
theorem d_m6_init_29 : decode b_m6_init 29 = .ok (.dup, 1) := by decide +kernel
theorem d_m6_init_30 : decode b_m6_init 30 = .ok (.invokespecial 17, 3) := by decide +kernel
theorem d_m6_init_33 : decode b_m6_init 33 = .ok (.aastore, 1) := by decide +kernel
theorem d_m6_init_34 : decode b_m6_init 34 = .ok (.iinc 1 1, 3) := by decide +kernel
theorem d_m6_init_37 : decode b_m6_init 37 = .ok (.goto (-22), 3) := by decide +kernel
theorem d_m6_init_40 : decode b_m6_init 40 = .ok (.return_, 1) := by decide +kernel
def s_m6_init_15 (n0 : Nat) : Nat → Nat → Int32 → Mm → Option (Unit × Mm)
  | 0, _, _, _ => none
  | n + 1, r0, x1, M => (if (10 : Int32) ≤ x1 then rtK n0 41 180 M else gR M r0 16 0 (fun v1 => mk n0 41 180 M 15 (fun v2 M3 => clK n0 41 180 3 9 M3 (has M3 v2 15) (s_m5_init v2 M3) (fun _ M4 => sR M4 v1 4 x1 v2 15 (fun M5 => (s_m6_init_15 n0 n) r0 (x1 + 1) M5)))))
def s0_m6_init (n0 : Nat) (r0 : Nat) (M : Mm) : Option (Unit × Mm) := (if has M r0 16 = true then mkA n0 41 180 M 4 (10 : Int32) (fun v1 M2 => pR M2 r0 16 0 v1 (fun M3 => s_m6_init_15 n0 FU r0 (0 : Int32) M3)) else none)
def s_m6_init (r0 : Nat) (M : Mm) : Option (Unit × Mm) := s0_m6_init (mN M) r0 M
set_option maxRecDepth 100000 in
set_option maxHeartbeats 4000000 in
theorem w_m6_init_15 {V : Ev} {C : Cx} {n0 : Nat} (hC : Cok V C y_m6_init.cls b_m6_init 2 n0 none y_m6_init.name) (hR : cR C = rm_m6_init)  : ∀ (n : Nat) (r0 : Nat) (x1 : Int32) (M : Mm), Sm V C 2 n0 (mN M) (qK V C 41 180) 15 [(0, rv V.1 r0), (1, .int x1)] [] M (s_m6_init_15 n0 n r0 x1 M) := by
  intro n
  induction n with
  | zero => exact fun r0 x1 M => Sm.none_
  | succ n ih =>
    intro r0 x1 M
    unfold s_m6_init_15
    refine Sm.iload_n hC d_m6_init_15 rfl 1 rfl ?_
    refine Sm.bipush (v := 10) hC d_m6_init_16 (by decide) ?_
    refine Sm.icmp_ge (tgt := 40) hC d_m6_init_18 (by decide) ?_ ?_
    · exact Sm.vretK hC d_m6_init_40
    · refine Sm.aload_n hC d_m6_init_21 rfl 0 rfl ?_
      refine Sm.getR hC fl_m6_11 rfl d_m6_init_22 (fun v1 => ?_)
      refine Sm.iload_n hC d_m6_init_25 rfl 1 rfl ?_
      refine Sm.new hC hR ⟨rfl, rfl⟩ rfl rfl in_c5 ty_c5 rfl df_c5 (tw_i 93 (by decide +kernel)) (tw_i 95 (by decide +kernel)) (tw_i 57 (by decide +kernel)) d_m6_init_26 (fun v2 M3 => ?_)
      refine Sm.dup hC d_m6_init_29 (cat_rv _ _) ?_
      refine Sm.clK_ (rm := rm_m5_init) (maxL := 1) (R9 := rm_m6_init) ⟨rfl, rfl⟩ ⟨rfl, rfl, by decide, by decide⟩ (fun hrw => ?_)
      refine Sm.callINv 5 (host := "NewsWire") (As := []) (st := [rv V.1 v2, .int x1, rv V.1 v1]) hC hR cw_m5_init (by decide +kernel) (tw_i 97 (by decide +kernel)) rfl (fun r9 M9 h9 => ok_m5_init h9) rfl rfl hrw (by simp) d_m6_init_30 (fun _ M4 => ?_)
      refine Sm.aast (ci := 5) (hC := hC) rfl rfl ⟨by decide, by decide⟩ rfl d_m6_init_33 (fun M5 => ?_)
      refine Sm.iinc (v := x1 + 1) (lv' := [(1, .int (x1 + 1)), (0, rv V.1 r0)]) hC d_m6_init_34 1 rfl rfl (by decide) (by simp [cat_rv]) ?_
      refine Sm.goto (tgt := 15) hC d_m6_init_37 (by decide) ?_
      refine Sm.sub [1, 0] rfl ?_
      refine Sm.cnt (fun hN9 => ?_)
      rw [← hN9]
      exact ih r0 (x1 + 1) M5
set_option maxRecDepth 100000 in
set_option maxHeartbeats 4000000 in
theorem ok_m6_init {l : Launch} {V : Ev} {M M' : Mm} {r : Unit} {r0 : Nat} (h : s_m6_init r0 M = some (r, M')) : Met l y_m6_init (Cond.code y_m6_init b_m6_init 2 none :: TW) rm_m6_init (va_Pc [rv V.1 r0] (Wd V M)) (QC V none M' 41) 41 180 (Af V) := by
  refine met_of (fun _ : Unit => none) (lv0 := [(0, rv V.1 r0)]) (by decide) (by simp [lg_sl, cat_rv, cat_i, cat_l, cat_f]) (by simp [lv_args, cat_rv, cat_i, cat_l, cat_f]) (fun C hl hR hC => ?_) h
  subst hl
  unfold s_m6_init s0_m6_init
  generalize mN M = n0 at hC ⊢
  refine Sm.aload_n hC d_m6_init_0 rfl 0 rfl ?_
  refine Sm.objInit hC hR (tw_i 92 (by decide +kernel)) (tw_i 79 (by decide +kernel)) (tw_i 80 (by decide +kernel)) (by decide) (by decide) (by simp) d_m6_init_1 ?_
  refine Sm.aload_n hC d_m6_init_4 rfl 0 rfl ?_
  refine Sm.bipush (v := 10) hC d_m6_init_5 (by decide) ?_
  refine Sm.anew (Cn := "NewsWire$Rule") hC hR ⟨rfl, rfl⟩ ⟨by decide, by decide⟩ rfl (tw_i 93 (by decide +kernel)) (by decide) d_m6_init_7 (fun v1 M2 => ?_)
  refine Sm.putRF hC rfl fl_m6_11 rfl rfl rfl d_m6_init_10 (fun M3 => ?_)
  refine Sm.iconst (v := 0) hC d_m6_init_13 (by decide) ?_
  refine Sm.istore_n (i := 1) (lv' := [(1, .int (0 : Int32)), (0, rv V.1 r0)]) hC d_m6_init_14 rfl (by decide) (by simp [cat_rv, cat_i, cat_l, cat_f]) ?_
  refine Sm.sub [1, 0] rfl ?_
  refine Sm.cnt (fun hN9 => ?_)
  rw [← hN9]
  exact w_m6_init_15 hC hR FU r0 (0 : Int32) M3
/-! NewsWire$StoryText -/
abbrev b_m7_init : ByteArray := prog_9_method_1_code
def y_m7_init : MethodName := ⟨"NewsWire$StoryText", "<init>", "()V"⟩
def rm_m7_init : Room := { frames := 1, cells := 5, slots := 984, locals := 60 }
theorem cw_m7_init : CW y_m7_init b_m7_init 1 none 0 := ⟨tw_i 59 (by decide +kernel), tw_i 162 (by decide +kernel), by decide, by decide, by decide +kernel⟩
theorem d_m7_init_0 : decode b_m7_init 0 = .ok (.aload_n 0, 1) := by decide +kernel
theorem d_m7_init_1 : decode b_m7_init 1 = .ok (.invokespecial 3, 3) := by decide +kernel
theorem d_m7_init_4 : decode b_m7_init 4 = .ok (.aload_n 0, 1) := by decide +kernel
theorem d_m7_init_5 : decode b_m7_init 5 = .ok (.sipush 480, 3) := by decide +kernel
theorem d_m7_init_8 : decode b_m7_init 8 = .ok (.newarray .int, 2) := by decide +kernel
theorem d_m7_init_10 : decode b_m7_init 10 = .ok (.putfield 9, 3) := by decide +kernel
theorem d_m7_init_13 : decode b_m7_init 13 = .ok (.aload_n 0, 1) := by decide +kernel
theorem d_m7_init_14 : decode b_m7_init 14 = .ok (.sipush 480, 3) := by decide +kernel
theorem d_m7_init_17 : decode b_m7_init 17 = .ok (.newarray .int, 2) := by decide +kernel
theorem d_m7_init_19 : decode b_m7_init 19 = .ok (.putfield 15, 3) := by decide +kernel
theorem d_m7_init_22 : decode b_m7_init 22 = .ok (.aload_n 0, 1) := by decide +kernel
theorem d_m7_init_23 : decode b_m7_init 23 = .ok (.iconst 0, 1) := by decide +kernel
theorem d_m7_init_24 : decode b_m7_init 24 = .ok (.anewarray 18, 3) := by decide +kernel
theorem d_m7_init_27 : decode b_m7_init 27 = .ok (.putfield 20, 3) := by decide +kernel
theorem d_m7_init_30 : decode b_m7_init 30 = .ok (.aload_n 0, 1) := by decide +kernel
theorem d_m7_init_31 : decode b_m7_init 31 = .ok (.bipush 12, 2) := by decide +kernel
theorem d_m7_init_33 : decode b_m7_init 33 = .ok (.newarray .int, 2) := by decide +kernel
theorem d_m7_init_35 : decode b_m7_init 35 = .ok (.putfield 24, 3) := by decide +kernel
theorem d_m7_init_38 : decode b_m7_init 38 = .ok (.aload_n 0, 1) := by decide +kernel
theorem d_m7_init_39 : decode b_m7_init 39 = .ok (.bipush 12, 2) := by decide +kernel
theorem d_m7_init_41 : decode b_m7_init 41 = .ok (.newarray .int, 2) := by decide +kernel
theorem d_m7_init_43 : decode b_m7_init 43 = .ok (.putfield 27, 3) := by decide +kernel
theorem d_m7_init_46 : decode b_m7_init 46 = .ok (.return_, 1) := by decide +kernel
def s0_m7_init (n0 : Nat) (r0 : Nat) (M : Mm) : Option (Unit × Mm) := (if has M r0 17 = true then mkA n0 5 984 M 0 (480 : Int32) (fun v1 M2 => pR M2 r0 17 0 v1 (fun M3 => mkA n0 5 984 M3 0 (480 : Int32) (fun v4 M5 => pR M5 r0 17 1 v4 (fun M6 => mkA n0 5 984 M6 3 (0 : Int32) (fun v7 M8 => pR M8 r0 17 2 v7 (fun M9 => mkA n0 5 984 M9 0 (12 : Int32) (fun v10 M11 => pR M11 r0 17 3 v10 (fun M12 => mkA n0 5 984 M12 0 (12 : Int32) (fun v13 M14 => pR M14 r0 17 4 v13 (fun M15 => rtK n0 5 984 M15)))))))))) else none)
def s_m7_init (r0 : Nat) (M : Mm) : Option (Unit × Mm) := s0_m7_init (mN M) r0 M
set_option maxRecDepth 100000 in
set_option maxHeartbeats 4000000 in
theorem ok_m7_init {l : Launch} {V : Ev} {M M' : Mm} {r : Unit} {r0 : Nat} (h : s_m7_init r0 M = some (r, M')) : Met l y_m7_init (Cond.code y_m7_init b_m7_init 1 none :: TW) rm_m7_init (va_Pc [rv V.1 r0] (Wd V M)) (QC V none M' 5) 5 984 (Af V) := by
  refine met_of (fun _ : Unit => none) (lv0 := [(0, rv V.1 r0)]) (by decide) (by simp [lg_sl, cat_rv, cat_i, cat_l, cat_f]) (by simp [lv_args, cat_rv, cat_i, cat_l, cat_f]) (fun C hl hR hC => ?_) h
  subst hl
  unfold s_m7_init s0_m7_init
  generalize mN M = n0 at hC ⊢
  refine Sm.aload_n hC d_m7_init_0 rfl 0 rfl ?_
  refine Sm.objInit hC hR (tw_i 163 (by decide +kernel)) (tw_i 79 (by decide +kernel)) (tw_i 80 (by decide +kernel)) (by decide) (by decide) (by simp) d_m7_init_1 ?_
  refine Sm.aload_n hC d_m7_init_4 rfl 0 rfl ?_
  refine Sm.sipush (v := 480) hC d_m7_init_5 (by decide) ?_
  refine Sm.newa (atype := .int) hC hR ⟨rfl, rfl⟩ (Or.inl ⟨rfl, rfl⟩) (tw_i 131 (by decide +kernel)) d_m7_init_8 (fun v1 M2 => ?_)
  refine Sm.putRF hC rfl fl_m7_9 rfl rfl rfl d_m7_init_10 (fun M3 => ?_)
  refine Sm.aload_n hC d_m7_init_13 rfl 0 rfl ?_
  refine Sm.sipush (v := 480) hC d_m7_init_14 (by decide) ?_
  refine Sm.newa (atype := .int) hC hR ⟨rfl, rfl⟩ (Or.inl ⟨rfl, rfl⟩) (tw_i 131 (by decide +kernel)) d_m7_init_17 (fun v4 M5 => ?_)
  refine Sm.putRF hC rfl fl_m7_15 rfl rfl rfl d_m7_init_19 (fun M6 => ?_)
  refine Sm.aload_n hC d_m7_init_22 rfl 0 rfl ?_
  refine Sm.iconst (v := 0) hC d_m7_init_23 (by decide) ?_
  refine Sm.anew (Cn := "NewsWire$Piece") hC hR ⟨rfl, rfl⟩ ⟨by decide, by decide⟩ rfl (tw_i 164 (by decide +kernel)) (by decide) d_m7_init_24 (fun v7 M8 => ?_)
  refine Sm.putR hC fl_m7_20 rfl rfl d_m7_init_27 (fun M9 => ?_)
  refine Sm.aload_n hC d_m7_init_30 rfl 0 rfl ?_
  refine Sm.bipush (v := 12) hC d_m7_init_31 (by decide) ?_
  refine Sm.newa (atype := .int) hC hR ⟨rfl, rfl⟩ (Or.inl ⟨rfl, rfl⟩) (tw_i 131 (by decide +kernel)) d_m7_init_33 (fun v10 M11 => ?_)
  refine Sm.putRF hC rfl fl_m7_24 rfl rfl rfl d_m7_init_35 (fun M12 => ?_)
  refine Sm.aload_n hC d_m7_init_38 rfl 0 rfl ?_
  refine Sm.bipush (v := 12) hC d_m7_init_39 (by decide) ?_
  refine Sm.newa (atype := .int) hC hR ⟨rfl, rfl⟩ (Or.inl ⟨rfl, rfl⟩) (tw_i 131 (by decide +kernel)) d_m7_init_41 (fun v13 M14 => ?_)
  refine Sm.putRF hC rfl fl_m7_27 rfl rfl rfl d_m7_init_43 (fun M15 => ?_)
  exact Sm.vretK hC d_m7_init_46
/-! NewsWire$Tape -/
abbrev b_m8_init : ByteArray := prog_10_method_1_code
def y_m8_init : MethodName := ⟨"NewsWire$Tape", "<init>", "()V"⟩
def rm_m8_init : Room := { frames := 1, cells := 1, slots := 80, locals := 60 }
theorem cw_m8_init : CW y_m8_init b_m8_init 1 none 0 := ⟨tw_i 61 (by decide +kernel), tw_i 227 (by decide +kernel), by decide, by decide, by decide +kernel⟩
theorem d_m8_init_0 : decode b_m8_init 0 = .ok (.aload_n 0, 1) := by decide +kernel
theorem d_m8_init_1 : decode b_m8_init 1 = .ok (.invokespecial 3, 3) := by decide +kernel
theorem d_m8_init_4 : decode b_m8_init 4 = .ok (.aload_n 0, 1) := by decide +kernel
theorem d_m8_init_5 : decode b_m8_init 5 = .ok (.bipush 80, 2) := by decide +kernel
theorem d_m8_init_7 : decode b_m8_init 7 = .ok (.newarray .int, 2) := by decide +kernel
theorem d_m8_init_9 : decode b_m8_init 9 = .ok (.putfield 9, 3) := by decide +kernel
theorem d_m8_init_12 : decode b_m8_init 12 = .ok (.return_, 1) := by decide +kernel
def s0_m8_init (n0 : Nat) (r0 : Nat) (M : Mm) : Option (Unit × Mm) := (if has M r0 18 = true then mkA n0 1 80 M 0 (80 : Int32) (fun v1 M2 => pR M2 r0 18 0 v1 (fun M3 => rtK n0 1 80 M3)) else none)
def s_m8_init (r0 : Nat) (M : Mm) : Option (Unit × Mm) := s0_m8_init (mN M) r0 M
set_option maxRecDepth 100000 in
set_option maxHeartbeats 4000000 in
theorem ok_m8_init {l : Launch} {V : Ev} {M M' : Mm} {r : Unit} {r0 : Nat} (h : s_m8_init r0 M = some (r, M')) : Met l y_m8_init (Cond.code y_m8_init b_m8_init 1 none :: TW) rm_m8_init (va_Pc [rv V.1 r0] (Wd V M)) (QC V none M' 1) 1 80 (Af V) := by
  refine met_of (fun _ : Unit => none) (lv0 := [(0, rv V.1 r0)]) (by decide) (by simp [lg_sl, cat_rv, cat_i, cat_l, cat_f]) (by simp [lv_args, cat_rv, cat_i, cat_l, cat_f]) (fun C hl hR hC => ?_) h
  subst hl
  unfold s_m8_init s0_m8_init
  generalize mN M = n0 at hC ⊢
  refine Sm.aload_n hC d_m8_init_0 rfl 0 rfl ?_
  refine Sm.objInit hC hR (tw_i 228 (by decide +kernel)) (tw_i 79 (by decide +kernel)) (tw_i 80 (by decide +kernel)) (by decide) (by decide) (by simp) d_m8_init_1 ?_
  refine Sm.aload_n hC d_m8_init_4 rfl 0 rfl ?_
  refine Sm.bipush (v := 80) hC d_m8_init_5 (by decide) ?_
  refine Sm.newa (atype := .int) hC hR ⟨rfl, rfl⟩ (Or.inl ⟨rfl, rfl⟩) (tw_i 131 (by decide +kernel)) d_m8_init_7 (fun v1 M2 => ?_)
  refine Sm.putRF hC rfl fl_m8_9 rfl rfl rfl d_m8_init_9 (fun M3 => ?_)
  exact Sm.vretK hC d_m8_init_12
/-! NewsWire$Wire -/
abbrev b_m9_init : ByteArray := prog_11_method_1_code
def y_m9_init : MethodName := ⟨"NewsWire$Wire", "<init>", "()V"⟩
def rm_m9_init : Room := { frames := 1, cells := 3, slots := 92, locals := 60 }
theorem cw_m9_init : CW y_m9_init b_m9_init 1 none 0 := ⟨tw_i 63 (by decide +kernel), tw_i 261 (by decide +kernel), by decide, by decide, by decide +kernel⟩
theorem d_m9_init_0 : decode b_m9_init 0 = .ok (.aload_n 0, 1) := by decide +kernel
theorem d_m9_init_1 : decode b_m9_init 1 = .ok (.invokespecial 3, 3) := by decide +kernel
theorem d_m9_init_4 : decode b_m9_init 4 = .ok (.aload_n 0, 1) := by decide +kernel
theorem d_m9_init_5 : decode b_m9_init 5 = .ok (.bipush 12, 2) := by decide +kernel
theorem d_m9_init_7 : decode b_m9_init 7 = .ok (.newarray .int, 2) := by decide +kernel
theorem d_m9_init_9 : decode b_m9_init 9 = .ok (.putfield 9, 3) := by decide +kernel
theorem d_m9_init_12 : decode b_m9_init 12 = .ok (.aload_n 0, 1) := by decide +kernel
theorem d_m9_init_13 : decode b_m9_init 13 = .ok (.bipush 40, 2) := by decide +kernel
theorem d_m9_init_15 : decode b_m9_init 15 = .ok (.newarray .int, 2) := by decide +kernel
theorem d_m9_init_17 : decode b_m9_init 17 = .ok (.putfield 15, 3) := by decide +kernel
theorem d_m9_init_20 : decode b_m9_init 20 = .ok (.aload_n 0, 1) := by decide +kernel
theorem d_m9_init_21 : decode b_m9_init 21 = .ok (.bipush 40, 2) := by decide +kernel
theorem d_m9_init_23 : decode b_m9_init 23 = .ok (.newarray .int, 2) := by decide +kernel
theorem d_m9_init_25 : decode b_m9_init 25 = .ok (.putfield 18, 3) := by decide +kernel
theorem d_m9_init_28 : decode b_m9_init 28 = .ok (.return_, 1) := by decide +kernel
def s0_m9_init (n0 : Nat) (r0 : Nat) (M : Mm) : Option (Unit × Mm) := (if has M r0 19 = true then mkA n0 3 92 M 0 (12 : Int32) (fun v1 M2 => pR M2 r0 19 0 v1 (fun M3 => mkA n0 3 92 M3 0 (40 : Int32) (fun v4 M5 => pR M5 r0 19 1 v4 (fun M6 => mkA n0 3 92 M6 0 (40 : Int32) (fun v7 M8 => pR M8 r0 19 2 v7 (fun M9 => rtK n0 3 92 M9)))))) else none)
def s_m9_init (r0 : Nat) (M : Mm) : Option (Unit × Mm) := s0_m9_init (mN M) r0 M
set_option maxRecDepth 100000 in
set_option maxHeartbeats 4000000 in
theorem ok_m9_init {l : Launch} {V : Ev} {M M' : Mm} {r : Unit} {r0 : Nat} (h : s_m9_init r0 M = some (r, M')) : Met l y_m9_init (Cond.code y_m9_init b_m9_init 1 none :: TW) rm_m9_init (va_Pc [rv V.1 r0] (Wd V M)) (QC V none M' 3) 3 92 (Af V) := by
  refine met_of (fun _ : Unit => none) (lv0 := [(0, rv V.1 r0)]) (by decide) (by simp [lg_sl, cat_rv, cat_i, cat_l, cat_f]) (by simp [lv_args, cat_rv, cat_i, cat_l, cat_f]) (fun C hl hR hC => ?_) h
  subst hl
  unfold s_m9_init s0_m9_init
  generalize mN M = n0 at hC ⊢
  refine Sm.aload_n hC d_m9_init_0 rfl 0 rfl ?_
  refine Sm.objInit hC hR (tw_i 262 (by decide +kernel)) (tw_i 79 (by decide +kernel)) (tw_i 80 (by decide +kernel)) (by decide) (by decide) (by simp) d_m9_init_1 ?_
  refine Sm.aload_n hC d_m9_init_4 rfl 0 rfl ?_
  refine Sm.bipush (v := 12) hC d_m9_init_5 (by decide) ?_
  refine Sm.newa (atype := .int) hC hR ⟨rfl, rfl⟩ (Or.inl ⟨rfl, rfl⟩) (tw_i 131 (by decide +kernel)) d_m9_init_7 (fun v1 M2 => ?_)
  refine Sm.putRF hC rfl fl_m9_9 rfl rfl rfl d_m9_init_9 (fun M3 => ?_)
  refine Sm.aload_n hC d_m9_init_12 rfl 0 rfl ?_
  refine Sm.bipush (v := 40) hC d_m9_init_13 (by decide) ?_
  refine Sm.newa (atype := .int) hC hR ⟨rfl, rfl⟩ (Or.inl ⟨rfl, rfl⟩) (tw_i 131 (by decide +kernel)) d_m9_init_15 (fun v4 M5 => ?_)
  refine Sm.putRF hC rfl fl_m9_15 rfl rfl rfl d_m9_init_17 (fun M6 => ?_)
  refine Sm.aload_n hC d_m9_init_20 rfl 0 rfl ?_
  refine Sm.bipush (v := 40) hC d_m9_init_21 (by decide) ?_
  refine Sm.newa (atype := .int) hC hR ⟨rfl, rfl⟩ (Or.inl ⟨rfl, rfl⟩) (tw_i 131 (by decide +kernel)) d_m9_init_23 (fun v7 M8 => ?_)
  refine Sm.putRF hC rfl fl_m9_18 rfl rfl rfl d_m9_init_25 (fun M9 => ?_)
  exact Sm.vretK hC d_m9_init_28
/-! NewsWire -/
abbrev b_m10_init : ByteArray := prog_1_method_1_code
def y_m10_init : MethodName := ⟨"NewsWire", "<init>", "()V"⟩
def rm_m10_init : Room := { frames := 3, cells := 182, slots := 3470, locals := 101 }
theorem cw_m10_init : CW y_m10_init b_m10_init 2 none 0 := ⟨tw_i 55 (by decide +kernel), tw_i 77 (by decide +kernel), by decide, by decide, by decide +kernel⟩
theorem d_m10_init_0 : decode b_m10_init 0 = .ok (.aload_n 0, 1) := by decide +kernel
theorem d_m10_init_1 : decode b_m10_init 1 = .ok (.invokespecial 1, 3) := by decide +kernel
theorem d_m10_init_4 : decode b_m10_init 4 = .ok (.aload_n 0, 1) := by decide +kernel
theorem d_m10_init_5 : decode b_m10_init 5 = .ok (.bipush 6, 2) := by decide +kernel
theorem d_m10_init_7 : decode b_m10_init 7 = .ok (.anewarray 9, 3) := by decide +kernel
theorem d_m10_init_10 : decode b_m10_init 10 = .ok (.putfield 11, 3) := by decide +kernel
theorem d_m10_init_13 : decode b_m10_init 13 = .ok (.aload_n 0, 1) := by decide +kernel
theorem d_m10_init_14 : decode b_m10_init 14 = .ok (.bipush 40, 2) := by decide +kernel
theorem d_m10_init_16 : decode b_m10_init 16 = .ok (.anewarray 15, 3) := by decide +kernel
theorem d_m10_init_19 : decode b_m10_init 19 = .ok (.putfield 17, 3) := by decide +kernel
theorem d_m10_init_22 : decode b_m10_init 22 = .ok (.aload_n 0, 1) := by decide +kernel
theorem d_m10_init_23 : decode b_m10_init 23 = .ok (.bipush 8, 2) := by decide +kernel
theorem d_m10_init_25 : decode b_m10_init 25 = .ok (.anewarray 21, 3) := by decide +kernel
theorem d_m10_init_28 : decode b_m10_init 28 = .ok (.putfield 23, 3) := by decide +kernel
theorem d_m10_init_31 : decode b_m10_init 31 = .ok (.aload_n 0, 1) := by decide +kernel
theorem d_m10_init_32 : decode b_m10_init 32 = .ok (.new 27, 3) := by decide +kernel
theorem d_m10_init_35 : decode b_m10_init 35 = .ok (.dup, 1) := by decide +kernel
theorem d_m10_init_36 : decode b_m10_init 36 = .ok (.invokespecial 29, 3) := by decide +kernel
theorem d_m10_init_39 : decode b_m10_init 39 = .ok (.putfield 30, 3) := by decide +kernel
theorem d_m10_init_42 : decode b_m10_init 42 = .ok (.aload_n 0, 1) := by decide +kernel
theorem d_m10_init_43 : decode b_m10_init 43 = .ok (.new 34, 3) := by decide +kernel
theorem d_m10_init_46 : decode b_m10_init 46 = .ok (.dup, 1) := by decide +kernel
theorem d_m10_init_47 : decode b_m10_init 47 = .ok (.invokespecial 36, 3) := by decide +kernel
theorem d_m10_init_50 : decode b_m10_init 50 = .ok (.putfield 37, 3) := by decide +kernel
theorem d_m10_init_53 : decode b_m10_init 53 = .ok (.aload_n 0, 1) := by decide +kernel
theorem d_m10_init_54 : decode b_m10_init 54 = .ok (.new 41, 3) := by decide +kernel
theorem d_m10_init_57 : decode b_m10_init 57 = .ok (.dup, 1) := by decide +kernel
theorem d_m10_init_58 : decode b_m10_init 58 = .ok (.invokespecial 43, 3) := by decide +kernel
theorem d_m10_init_61 : decode b_m10_init 61 = .ok (.putfield 44, 3) := by decide +kernel
theorem d_m10_init_64 : decode b_m10_init 64 = .ok (.aload_n 0, 1) := by decide +kernel
theorem d_m10_init_65 : decode b_m10_init 65 = .ok (.new 48, 3) := by decide +kernel
theorem d_m10_init_68 : decode b_m10_init 68 = .ok (.dup, 1) := by decide +kernel
theorem d_m10_init_69 : decode b_m10_init 69 = .ok (.invokespecial 50, 3) := by decide +kernel
theorem d_m10_init_72 : decode b_m10_init 72 = .ok (.putfield 51, 3) := by decide +kernel
theorem d_m10_init_75 : decode b_m10_init 75 = .ok (.aload_n 0, 1) := by decide +kernel
theorem d_m10_init_76 : decode b_m10_init 76 = .ok (.new 55, 3) := by decide +kernel
theorem d_m10_init_79 : decode b_m10_init 79 = .ok (.dup, 1) := by decide +kernel
theorem d_m10_init_80 : decode b_m10_init 80 = .ok (.invokespecial 57, 3) := by decide +kernel
theorem d_m10_init_83 : decode b_m10_init 83 = .ok (.putfield 58, 3) := by decide +kernel
theorem d_m10_init_86 : decode b_m10_init 86 = .ok (.aload_n 0, 1) := by decide +kernel
theorem d_m10_init_87 : decode b_m10_init 87 = .ok (.new 62, 3) := by decide +kernel
theorem d_m10_init_90 : decode b_m10_init 90 = .ok (.dup, 1) := by decide +kernel
theorem d_m10_init_91 : decode b_m10_init 91 = .ok (.invokespecial 64, 3) := by decide +kernel
theorem d_m10_init_94 : decode b_m10_init 94 = .ok (.putfield 65, 3) := by decide +kernel
theorem d_m10_init_97 : decode b_m10_init 97 = .ok (.aload_n 0, 1) := by decide +kernel
theorem d_m10_init_98 : decode b_m10_init 98 = .ok (.bipush 7, 2) := by decide +kernel
theorem d_m10_init_100 : decode b_m10_init 100 = .ok (.newarray .int, 2) := by decide +kernel
theorem d_m10_init_102 : decode b_m10_init 102 = .ok (.putfield 69, 3) := by decide +kernel
theorem d_m10_init_105 : decode b_m10_init 105 = .ok (.iconst 0, 1) := by decide +kernel
theorem d_m10_init_106 : decode b_m10_init 106 = .ok (.istore_n 1, 1) := by decide +kernel
theorem d_m10_init_107 : decode b_m10_init 107 = .ok (.iload_n 1, 1) := by decide +kernel
theorem d_m10_init_108 : decode b_m10_init 108 = .ok (.bipush 6, 2) := by decide +kernel
theorem d_m10_init_110 : decode b_m10_init 110 = .ok (.if_icmp .ge 22, 3) := by decide +kernel
theorem d_m10_init_113 : decode b_m10_init 113 = .ok (.aload_n 0, 1) := by decide +kernel
theorem d_m10_init_114 : decode b_m10_init 114 = .ok (.getfield 11, 3) := by decide +kernel
theorem d_m10_init_117 : decode b_m10_init 117 = .ok (.iload_n 1, 1) := by decide +kernel
theorem d_m10_init_118 : decode b_m10_init 118 = .ok (.new 9, 3) := by decide +kernel
theorem d_m10_init_121 : decode b_m10_init 121 = .ok (.dup, 1) := by decide +kernel
theorem d_m10_init_122 : decode b_m10_init 122 = .ok (.invokespecial 73, 3) := by decide +kernel
theorem d_m10_init_125 : decode b_m10_init 125 = .ok (.aastore, 1) := by decide +kernel
theorem d_m10_init_126 : decode b_m10_init 126 = .ok (.iinc 1 1, 3) := by decide +kernel
theorem d_m10_init_129 : decode b_m10_init 129 = .ok (.goto (-22), 3) := by decide +kernel
theorem d_m10_init_132 : decode b_m10_init 132 = .ok (.iconst 0, 1) := by decide +kernel
theorem d_m10_init_133 : decode b_m10_init 133 = .ok (.istore_n 1, 1) := by decide +kernel
theorem d_m10_init_134 : decode b_m10_init 134 = .ok (.iload_n 1, 1) := by decide +kernel
theorem d_m10_init_135 : decode b_m10_init 135 = .ok (.bipush 40, 2) := by decide +kernel
theorem d_m10_init_137 : decode b_m10_init 137 = .ok (.if_icmp .ge 22, 3) := by decide +kernel
theorem d_m10_init_140 : decode b_m10_init 140 = .ok (.aload_n 0, 1) := by decide +kernel
theorem d_m10_init_141 : decode b_m10_init 141 = .ok (.getfield 17, 3) := by decide +kernel
theorem d_m10_init_144 : decode b_m10_init 144 = .ok (.iload_n 1, 1) := by decide +kernel
theorem d_m10_init_145 : decode b_m10_init 145 = .ok (.new 15, 3) := by decide +kernel
theorem d_m10_init_148 : decode b_m10_init 148 = .ok (.dup, 1) := by decide +kernel
theorem d_m10_init_149 : decode b_m10_init 149 = .ok (.invokespecial 74, 3) := by decide +kernel
theorem d_m10_init_152 : decode b_m10_init 152 = .ok (.aastore, 1) := by decide +kernel
theorem d_m10_init_153 : decode b_m10_init 153 = .ok (.iinc 1 1, 3) := by decide +kernel
theorem d_m10_init_156 : decode b_m10_init 156 = .ok (.goto (-22), 3) := by decide +kernel
theorem d_m10_init_159 : decode b_m10_init 159 = .ok (.iconst 0, 1) := by decide +kernel
theorem d_m10_init_160 : decode b_m10_init 160 = .ok (.istore_n 1, 1) := by decide +kernel
theorem d_m10_init_161 : decode b_m10_init 161 = .ok (.iload_n 1, 1) := by decide +kernel
theorem d_m10_init_162 : decode b_m10_init 162 = .ok (.bipush 8, 2) := by decide +kernel
theorem d_m10_init_164 : decode b_m10_init 164 = .ok (.if_icmp .ge 22, 3) := by decide +kernel
theorem d_m10_init_167 : decode b_m10_init 167 = .ok (.aload_n 0, 1) := by decide +kernel
theorem d_m10_init_168 : decode b_m10_init 168 = .ok (.getfield 23, 3) := by decide +kernel
theorem d_m10_init_171 : decode b_m10_init 171 = .ok (.iload_n 1, 1) := by decide +kernel
theorem d_m10_init_172 : decode b_m10_init 172 = .ok (.new 21, 3) := by decide +kernel
theorem d_m10_init_175 : decode b_m10_init 175 = .ok (.dup, 1) := by decide +kernel
theorem d_m10_init_176 : decode b_m10_init 176 = .ok (.invokespecial 75, 3) := by decide +kernel
theorem d_m10_init_179 : decode b_m10_init 179 = .ok (.aastore, 1) := by decide +kernel
theorem d_m10_init_180 : decode b_m10_init 180 = .ok (.iinc 1 1, 3) := by decide +kernel
theorem d_m10_init_183 : decode b_m10_init 183 = .ok (.goto (-22), 3) := by decide +kernel
theorem d_m10_init_186 : decode b_m10_init 186 = .ok (.return_, 1) := by decide +kernel
def s_m10_init_161 (n0 : Nat) : Nat → Nat → Int32 → Mm → Option (Unit × Mm)
  | 0, _, _, _ => none
  | n + 1, r0, x1, M => (if (8 : Int32) ≤ x1 then rtK n0 182 3470 M else gR M r0 20 2 (fun v1 => mk n0 182 3470 M 12 (fun v2 M3 => clK n0 182 3470 1 40 M3 (has M3 v2 12) (s_m2_init v2 M3) (fun _ M4 => sR M4 v1 2 x1 v2 12 (fun M5 => (s_m10_init_161 n0 n) r0 (x1 + 1) M5)))))
def s_m10_init_134 (n0 : Nat) : Nat → Nat → Int32 → Mm → Option (Unit × Mm)
  | 0, _, _, _ => none
  | n + 1, r0, x1, M => (if (40 : Int32) ≤ x1 then s_m10_init_161 n0 FU r0 (0 : Int32) M else gR M r0 20 1 (fun v1 => mk n0 182 3470 M 13 (fun v2 M3 => clK n0 182 3470 1 12 M3 (has M3 v2 13) (s_m3_init v2 M3) (fun _ M4 => sR M4 v1 3 x1 v2 13 (fun M5 => (s_m10_init_134 n0 n) r0 (x1 + 1) M5)))))
def s_m10_init_107 (n0 : Nat) : Nat → Nat → Int32 → Mm → Option (Unit × Mm)
  | 0, _, _, _ => none
  | n + 1, r0, x1, M => (if (6 : Int32) ≤ x1 then s_m10_init_134 n0 FU r0 (0 : Int32) M else gR M r0 20 0 (fun v1 => mk n0 182 3470 M 19 (fun v2 M3 => clK n0 182 3470 3 92 M3 (has M3 v2 19) (s_m9_init v2 M3) (fun _ M4 => sR M4 v1 5 x1 v2 19 (fun M5 => (s_m10_init_107 n0 n) r0 (x1 + 1) M5)))))
def s0_m10_init (n0 : Nat) (r0 : Nat) (M : Mm) : Option (Unit × Mm) := (if has M r0 20 = true then mkA n0 182 3470 M 5 (6 : Int32) (fun v1 M2 => pR M2 r0 20 0 v1 (fun M3 => mkA n0 182 3470 M3 3 (40 : Int32) (fun v4 M5 => pR M5 r0 20 1 v4 (fun M6 => mkA n0 182 3470 M6 2 (8 : Int32) (fun v7 M8 => pR M8 r0 20 2 v7 (fun M9 => mk n0 182 3470 M9 16 (fun v10 M11 => clK n0 182 3470 41 180 M11 (has M11 v10 16) (s_m6_init v10 M11) (fun _ M12 => pR M12 r0 20 3 v10 (fun M13 => mk n0 182 3470 M13 11 (fun v14 M15 => clK n0 182 3470 2 80 M15 (has M15 v14 11) (s_m1_init v14 M15) (fun _ M16 => pR M16 r0 20 4 v14 (fun M17 => mk n0 182 3470 M17 17 (fun v18 M19 => clK n0 182 3470 5 984 M19 (has M19 v18 17) (s_m7_init v18 M19) (fun _ M20 => pR M20 r0 20 5 v18 (fun M21 => mk n0 182 3470 M21 10 (fun v22 M23 => clK n0 182 3470 2 290 M23 (has M23 v22 10) (s_m0_init v22 M23) (fun _ M24 => pR M24 r0 20 6 v22 (fun M25 => mk n0 182 3470 M25 18 (fun v26 M27 => clK n0 182 3470 1 80 M27 (has M27 v26 18) (s_m8_init v26 M27) (fun _ M28 => pR M28 r0 20 7 v26 (fun M29 => mk n0 182 3470 M29 14 (fun v30 M31 => clK n0 182 3470 1 16 M31 (has M31 v30 14) (s_m4_init v30 M31) (fun _ M32 => pR M32 r0 20 8 v30 (fun M33 => mkA n0 182 3470 M33 0 (7 : Int32) (fun v34 M35 => pR M35 r0 20 9 v34 (fun M36 => s_m10_init_107 n0 FU r0 (0 : Int32) M36)))))))))))))))))))))))))) else none)
def s_m10_init (r0 : Nat) (M : Mm) : Option (Unit × Mm) := s0_m10_init (mN M) r0 M
set_option maxRecDepth 100000 in
set_option maxHeartbeats 4000000 in
theorem w_m10_init_161 {V : Ev} {C : Cx} {n0 : Nat} (hC : Cok V C y_m10_init.cls b_m10_init 2 n0 none y_m10_init.name) (hR : cR C = rm_m10_init)  : ∀ (n : Nat) (r0 : Nat) (x1 : Int32) (M : Mm), Sm V C 2 n0 (mN M) (qK V C 182 3470) 161 [(0, rv V.1 r0), (1, .int x1)] [] M (s_m10_init_161 n0 n r0 x1 M) := by
  intro n
  induction n with
  | zero => exact fun r0 x1 M => Sm.none_
  | succ n ih =>
    intro r0 x1 M
    unfold s_m10_init_161
    refine Sm.iload_n hC d_m10_init_161 rfl 1 rfl ?_
    refine Sm.bipush (v := 8) hC d_m10_init_162 (by decide) ?_
    refine Sm.icmp_ge (tgt := 186) hC d_m10_init_164 (by decide) ?_ ?_
    · exact Sm.vretK hC d_m10_init_186
    · refine Sm.aload_n hC d_m10_init_167 rfl 0 rfl ?_
      refine Sm.getR hC fl_m10_23 rfl d_m10_init_168 (fun v1 => ?_)
      refine Sm.iload_n hC d_m10_init_171 rfl 1 rfl ?_
      refine Sm.new hC hR ⟨rfl, rfl⟩ rfl rfl in_c2 ty_c2 rfl df_c2 (tw_i 85 (by decide +kernel)) (tw_i 334 (by decide +kernel)) (tw_i 65 (by decide +kernel)) d_m10_init_172 (fun v2 M3 => ?_)
      refine Sm.dup hC d_m10_init_175 (cat_rv _ _) ?_
      refine Sm.clK_ (rm := rm_m2_init) (maxL := 2) (R9 := rm_m10_init) ⟨rfl, rfl⟩ ⟨rfl, rfl, by decide, by decide⟩ (fun hrw => ?_)
      refine Sm.callIv 2 (As := []) (st := [rv V.1 v2, .int x1, rv V.1 v1]) hC hR cw_m2_init (tw_i 335 (by decide +kernel)) (tw_i 336 (by decide +kernel)) rfl (fun r9 M9 h9 => ok_m2_init h9) rfl rfl hrw (by simp) d_m10_init_176 (fun _ M4 => ?_)
      refine Sm.aast (ci := 2) (hC := hC) rfl rfl ⟨by decide, by decide⟩ rfl d_m10_init_179 (fun M5 => ?_)
      refine Sm.iinc (v := x1 + 1) (lv' := [(1, .int (x1 + 1)), (0, rv V.1 r0)]) hC d_m10_init_180 1 rfl rfl (by decide) (by simp [cat_rv]) ?_
      refine Sm.goto (tgt := 161) hC d_m10_init_183 (by decide) ?_
      refine Sm.sub [1, 0] rfl ?_
      refine Sm.cnt (fun hN9 => ?_)
      rw [← hN9]
      exact ih r0 (x1 + 1) M5
set_option maxRecDepth 100000 in
set_option maxHeartbeats 4000000 in
theorem w_m10_init_134 {V : Ev} {C : Cx} {n0 : Nat} (hC : Cok V C y_m10_init.cls b_m10_init 2 n0 none y_m10_init.name) (hR : cR C = rm_m10_init)  : ∀ (n : Nat) (r0 : Nat) (x1 : Int32) (M : Mm), Sm V C 2 n0 (mN M) (qK V C 182 3470) 134 [(0, rv V.1 r0), (1, .int x1)] [] M (s_m10_init_134 n0 n r0 x1 M) := by
  intro n
  induction n with
  | zero => exact fun r0 x1 M => Sm.none_
  | succ n ih =>
    intro r0 x1 M
    unfold s_m10_init_134
    refine Sm.iload_n hC d_m10_init_134 rfl 1 rfl ?_
    refine Sm.bipush (v := 40) hC d_m10_init_135 (by decide) ?_
    refine Sm.icmp_ge (tgt := 159) hC d_m10_init_137 (by decide) ?_ ?_
    · refine Sm.iconst (v := 0) hC d_m10_init_159 (by decide) ?_
      refine Sm.istore_n (i := 1) (lv' := [(1, .int (0 : Int32)), (0, rv V.1 r0)]) hC d_m10_init_160 rfl (by decide) (by simp [cat_rv, cat_i, cat_l, cat_f]) ?_
      refine Sm.sub [1, 0] rfl ?_
      refine Sm.cnt (fun hN9 => ?_)
      rw [← hN9]
      exact w_m10_init_161 hC hR FU r0 (0 : Int32) M
    · refine Sm.aload_n hC d_m10_init_140 rfl 0 rfl ?_
      refine Sm.getR hC fl_m10_17 rfl d_m10_init_141 (fun v1 => ?_)
      refine Sm.iload_n hC d_m10_init_144 rfl 1 rfl ?_
      refine Sm.new hC hR ⟨rfl, rfl⟩ rfl rfl in_c3 ty_c3 rfl df_c3 (tw_i 83 (by decide +kernel)) (tw_i 291 (by decide +kernel)) (tw_i 64 (by decide +kernel)) d_m10_init_145 (fun v2 M3 => ?_)
      refine Sm.dup hC d_m10_init_148 (cat_rv _ _) ?_
      refine Sm.clK_ (rm := rm_m3_init) (maxL := 1) (R9 := rm_m10_init) ⟨rfl, rfl⟩ ⟨rfl, rfl, by decide, by decide⟩ (fun hrw => ?_)
      refine Sm.callINv 3 (host := "NewsWire") (As := []) (st := [rv V.1 v2, .int x1, rv V.1 v1]) hC hR cw_m3_init (by decide +kernel) (tw_i 293 (by decide +kernel)) rfl (fun r9 M9 h9 => ok_m3_init h9) rfl rfl hrw (by simp) d_m10_init_149 (fun _ M4 => ?_)
      refine Sm.aast (ci := 3) (hC := hC) rfl rfl ⟨by decide, by decide⟩ rfl d_m10_init_152 (fun M5 => ?_)
      refine Sm.iinc (v := x1 + 1) (lv' := [(1, .int (x1 + 1)), (0, rv V.1 r0)]) hC d_m10_init_153 1 rfl rfl (by decide) (by simp [cat_rv]) ?_
      refine Sm.goto (tgt := 134) hC d_m10_init_156 (by decide) ?_
      refine Sm.sub [1, 0] rfl ?_
      refine Sm.cnt (fun hN9 => ?_)
      rw [← hN9]
      exact ih r0 (x1 + 1) M5
set_option maxRecDepth 100000 in
set_option maxHeartbeats 4000000 in
theorem w_m10_init_107 {V : Ev} {C : Cx} {n0 : Nat} (hC : Cok V C y_m10_init.cls b_m10_init 2 n0 none y_m10_init.name) (hR : cR C = rm_m10_init)  : ∀ (n : Nat) (r0 : Nat) (x1 : Int32) (M : Mm), Sm V C 2 n0 (mN M) (qK V C 182 3470) 107 [(0, rv V.1 r0), (1, .int x1)] [] M (s_m10_init_107 n0 n r0 x1 M) := by
  intro n
  induction n with
  | zero => exact fun r0 x1 M => Sm.none_
  | succ n ih =>
    intro r0 x1 M
    unfold s_m10_init_107
    refine Sm.iload_n hC d_m10_init_107 rfl 1 rfl ?_
    refine Sm.bipush (v := 6) hC d_m10_init_108 (by decide) ?_
    refine Sm.icmp_ge (tgt := 132) hC d_m10_init_110 (by decide) ?_ ?_
    · refine Sm.iconst (v := 0) hC d_m10_init_132 (by decide) ?_
      refine Sm.istore_n (i := 1) (lv' := [(1, .int (0 : Int32)), (0, rv V.1 r0)]) hC d_m10_init_133 rfl (by decide) (by simp [cat_rv, cat_i, cat_l, cat_f]) ?_
      refine Sm.sub [1, 0] rfl ?_
      refine Sm.cnt (fun hN9 => ?_)
      rw [← hN9]
      exact w_m10_init_134 hC hR FU r0 (0 : Int32) M
    · refine Sm.aload_n hC d_m10_init_113 rfl 0 rfl ?_
      refine Sm.getR hC fl_m10_11 rfl d_m10_init_114 (fun v1 => ?_)
      refine Sm.iload_n hC d_m10_init_117 rfl 1 rfl ?_
      refine Sm.new hC hR ⟨rfl, rfl⟩ rfl rfl in_c9 ty_c9 rfl df_c9 (tw_i 81 (by decide +kernel)) (tw_i 258 (by decide +kernel)) (tw_i 63 (by decide +kernel)) d_m10_init_118 (fun v2 M3 => ?_)
      refine Sm.dup hC d_m10_init_121 (cat_rv _ _) ?_
      refine Sm.clK_ (rm := rm_m9_init) (maxL := 1) (R9 := rm_m10_init) ⟨rfl, rfl⟩ ⟨rfl, rfl, by decide, by decide⟩ (fun hrw => ?_)
      refine Sm.callINv 9 (host := "NewsWire") (As := []) (st := [rv V.1 v2, .int x1, rv V.1 v1]) hC hR cw_m9_init (by decide +kernel) (tw_i 260 (by decide +kernel)) rfl (fun r9 M9 h9 => ok_m9_init h9) rfl rfl hrw (by simp) d_m10_init_122 (fun _ M4 => ?_)
      refine Sm.aast (ci := 9) (hC := hC) rfl rfl ⟨by decide, by decide⟩ rfl d_m10_init_125 (fun M5 => ?_)
      refine Sm.iinc (v := x1 + 1) (lv' := [(1, .int (x1 + 1)), (0, rv V.1 r0)]) hC d_m10_init_126 1 rfl rfl (by decide) (by simp [cat_rv]) ?_
      refine Sm.goto (tgt := 107) hC d_m10_init_129 (by decide) ?_
      refine Sm.sub [1, 0] rfl ?_
      refine Sm.cnt (fun hN9 => ?_)
      rw [← hN9]
      exact ih r0 (x1 + 1) M5
set_option maxRecDepth 100000 in
set_option maxHeartbeats 4000000 in
theorem ok_m10_init {l : Launch} {V : Ev} {M M' : Mm} {r : Unit} {r0 : Nat} (h : s_m10_init r0 M = some (r, M')) : Met l y_m10_init (Cond.code y_m10_init b_m10_init 2 none :: TW) rm_m10_init (va_Pc [rv V.1 r0] (Wd V M)) (QC V none M' 182) 182 3470 (Af V) := by
  refine met_of (fun _ : Unit => none) (lv0 := [(0, rv V.1 r0)]) (by decide) (by simp [lg_sl, cat_rv, cat_i, cat_l, cat_f]) (by simp [lv_args, cat_rv, cat_i, cat_l, cat_f]) (fun C hl hR hC => ?_) h
  subst hl
  unfold s_m10_init s0_m10_init
  generalize mN M = n0 at hC ⊢
  refine Sm.aload_n hC d_m10_init_0 rfl 0 rfl ?_
  refine Sm.objInit hC hR (tw_i 78 (by decide +kernel)) (tw_i 79 (by decide +kernel)) (tw_i 80 (by decide +kernel)) (by decide) (by decide) (by simp) d_m10_init_1 ?_
  refine Sm.aload_n hC d_m10_init_4 rfl 0 rfl ?_
  refine Sm.bipush (v := 6) hC d_m10_init_5 (by decide) ?_
  refine Sm.anew (Cn := "NewsWire$Wire") hC hR ⟨rfl, rfl⟩ ⟨by decide, by decide⟩ rfl (tw_i 81 (by decide +kernel)) (by decide) d_m10_init_7 (fun v1 M2 => ?_)
  refine Sm.putRF hC rfl fl_m10_11 rfl rfl rfl d_m10_init_10 (fun M3 => ?_)
  refine Sm.aload_n hC d_m10_init_13 rfl 0 rfl ?_
  refine Sm.bipush (v := 40) hC d_m10_init_14 (by decide) ?_
  refine Sm.anew (Cn := "NewsWire$Piece") hC hR ⟨rfl, rfl⟩ ⟨by decide, by decide⟩ rfl (tw_i 83 (by decide +kernel)) (by decide) d_m10_init_16 (fun v4 M5 => ?_)
  refine Sm.putRF hC rfl fl_m10_17 rfl rfl rfl d_m10_init_19 (fun M6 => ?_)
  refine Sm.aload_n hC d_m10_init_22 rfl 0 rfl ?_
  refine Sm.bipush (v := 8) hC d_m10_init_23 (by decide) ?_
  refine Sm.anew (Cn := "NewsWire$Paper") hC hR ⟨rfl, rfl⟩ ⟨by decide, by decide⟩ rfl (tw_i 85 (by decide +kernel)) (by decide) d_m10_init_25 (fun v7 M8 => ?_)
  refine Sm.putRF hC rfl fl_m10_23 rfl rfl rfl d_m10_init_28 (fun M9 => ?_)
  refine Sm.aload_n hC d_m10_init_31 rfl 0 rfl ?_
  refine Sm.new hC hR ⟨rfl, rfl⟩ rfl rfl in_c6 ty_c6 rfl df_c6 (tw_i 87 (by decide +kernel)) (tw_i 88 (by decide +kernel)) (tw_i 56 (by decide +kernel)) d_m10_init_32 (fun v10 M11 => ?_)
  refine Sm.dup hC d_m10_init_35 (cat_rv _ _) ?_
  refine Sm.clK_ (rm := rm_m6_init) (maxL := 2) (R9 := rm_m10_init) ⟨rfl, rfl⟩ ⟨rfl, rfl, by decide, by decide⟩ (fun hrw => ?_)
  refine Sm.callIv 6 (As := []) (st := [rv V.1 v10, rv V.1 r0]) hC hR cw_m6_init (tw_i 89 (by decide +kernel)) (tw_i 90 (by decide +kernel)) rfl (fun r9 M9 h9 => ok_m6_init h9) rfl rfl hrw (by simp) d_m10_init_36 (fun _ M12 => ?_)
  refine Sm.putRF hC rfl fl_m10_30 rfl rfl rfl d_m10_init_39 (fun M13 => ?_)
  refine Sm.aload_n hC d_m10_init_42 rfl 0 rfl ?_
  refine Sm.new hC hR ⟨rfl, rfl⟩ rfl rfl in_c1 ty_c1 rfl df_c1 (tw_i 141 (by decide +kernel)) (tw_i 142 (by decide +kernel)) (tw_i 58 (by decide +kernel)) d_m10_init_43 (fun v14 M15 => ?_)
  refine Sm.dup hC d_m10_init_46 (cat_rv _ _) ?_
  refine Sm.clK_ (rm := rm_m1_init) (maxL := 1) (R9 := rm_m10_init) ⟨rfl, rfl⟩ ⟨rfl, rfl, by decide, by decide⟩ (fun hrw => ?_)
  refine Sm.callINv 1 (host := "NewsWire") (As := []) (st := [rv V.1 v14, rv V.1 r0]) hC hR cw_m1_init (by decide +kernel) (tw_i 144 (by decide +kernel)) rfl (fun r9 M9 h9 => ok_m1_init h9) rfl rfl hrw (by simp) d_m10_init_47 (fun _ M16 => ?_)
  refine Sm.putRF hC rfl fl_m10_37 rfl rfl rfl d_m10_init_50 (fun M17 => ?_)
  refine Sm.aload_n hC d_m10_init_53 rfl 0 rfl ?_
  refine Sm.new hC hR ⟨rfl, rfl⟩ rfl rfl in_c7 ty_c7 rfl df_c7 (tw_i 158 (by decide +kernel)) (tw_i 159 (by decide +kernel)) (tw_i 59 (by decide +kernel)) d_m10_init_54 (fun v18 M19 => ?_)
  refine Sm.dup hC d_m10_init_57 (cat_rv _ _) ?_
  refine Sm.clK_ (rm := rm_m7_init) (maxL := 1) (R9 := rm_m10_init) ⟨rfl, rfl⟩ ⟨rfl, rfl, by decide, by decide⟩ (fun hrw => ?_)
  refine Sm.callINv 7 (host := "NewsWire") (As := []) (st := [rv V.1 v18, rv V.1 r0]) hC hR cw_m7_init (by decide +kernel) (tw_i 161 (by decide +kernel)) rfl (fun r9 M9 h9 => ok_m7_init h9) rfl rfl hrw (by simp) d_m10_init_58 (fun _ M20 => ?_)
  refine Sm.putRF hC rfl fl_m10_44 rfl rfl rfl d_m10_init_61 (fun M21 => ?_)
  refine Sm.aload_n hC d_m10_init_64 rfl 0 rfl ?_
  refine Sm.new hC hR ⟨rfl, rfl⟩ rfl rfl in_c0 ty_c0 rfl df_c0 (tw_i 202 (by decide +kernel)) (tw_i 203 (by decide +kernel)) (tw_i 60 (by decide +kernel)) d_m10_init_65 (fun v22 M23 => ?_)
  refine Sm.dup hC d_m10_init_68 (cat_rv _ _) ?_
  refine Sm.clK_ (rm := rm_m0_init) (maxL := 1) (R9 := rm_m10_init) ⟨rfl, rfl⟩ ⟨rfl, rfl, by decide, by decide⟩ (fun hrw => ?_)
  refine Sm.callINv 0 (host := "NewsWire") (As := []) (st := [rv V.1 v22, rv V.1 r0]) hC hR cw_m0_init (by decide +kernel) (tw_i 205 (by decide +kernel)) rfl (fun r9 M9 h9 => ok_m0_init h9) rfl rfl hrw (by simp) d_m10_init_69 (fun _ M24 => ?_)
  refine Sm.putRF hC rfl fl_m10_51 rfl rfl rfl d_m10_init_72 (fun M25 => ?_)
  refine Sm.aload_n hC d_m10_init_75 rfl 0 rfl ?_
  refine Sm.new hC hR ⟨rfl, rfl⟩ rfl rfl in_c8 ty_c8 rfl df_c8 (tw_i 223 (by decide +kernel)) (tw_i 224 (by decide +kernel)) (tw_i 61 (by decide +kernel)) d_m10_init_76 (fun v26 M27 => ?_)
  refine Sm.dup hC d_m10_init_79 (cat_rv _ _) ?_
  refine Sm.clK_ (rm := rm_m8_init) (maxL := 1) (R9 := rm_m10_init) ⟨rfl, rfl⟩ ⟨rfl, rfl, by decide, by decide⟩ (fun hrw => ?_)
  refine Sm.callINv 8 (host := "NewsWire") (As := []) (st := [rv V.1 v26, rv V.1 r0]) hC hR cw_m8_init (by decide +kernel) (tw_i 226 (by decide +kernel)) rfl (fun r9 M9 h9 => ok_m8_init h9) rfl rfl hrw (by simp) d_m10_init_80 (fun _ M28 => ?_)
  refine Sm.putRF hC rfl fl_m10_58 rfl rfl rfl d_m10_init_83 (fun M29 => ?_)
  refine Sm.aload_n hC d_m10_init_86 rfl 0 rfl ?_
  refine Sm.new hC hR ⟨rfl, rfl⟩ rfl rfl in_c4 ty_c4 rfl df_c4 (tw_i 243 (by decide +kernel)) (tw_i 244 (by decide +kernel)) (tw_i 62 (by decide +kernel)) d_m10_init_87 (fun v30 M31 => ?_)
  refine Sm.dup hC d_m10_init_90 (cat_rv _ _) ?_
  refine Sm.clK_ (rm := rm_m4_init) (maxL := 1) (R9 := rm_m10_init) ⟨rfl, rfl⟩ ⟨rfl, rfl, by decide, by decide⟩ (fun hrw => ?_)
  refine Sm.callINv 4 (host := "NewsWire") (As := []) (st := [rv V.1 v30, rv V.1 r0]) hC hR cw_m4_init (by decide +kernel) (tw_i 246 (by decide +kernel)) rfl (fun r9 M9 h9 => ok_m4_init h9) rfl rfl hrw (by simp) d_m10_init_91 (fun _ M32 => ?_)
  refine Sm.putRF hC rfl fl_m10_65 rfl rfl rfl d_m10_init_94 (fun M33 => ?_)
  refine Sm.aload_n hC d_m10_init_97 rfl 0 rfl ?_
  refine Sm.bipush (v := 7) hC d_m10_init_98 (by decide) ?_
  refine Sm.newa (atype := .int) hC hR ⟨rfl, rfl⟩ (Or.inl ⟨rfl, rfl⟩) (tw_i 131 (by decide +kernel)) d_m10_init_100 (fun v34 M35 => ?_)
  refine Sm.putRF hC rfl fl_m10_69 rfl rfl rfl d_m10_init_102 (fun M36 => ?_)
  refine Sm.iconst (v := 0) hC d_m10_init_105 (by decide) ?_
  refine Sm.istore_n (i := 1) (lv' := [(1, .int (0 : Int32)), (0, rv V.1 r0)]) hC d_m10_init_106 rfl (by decide) (by simp [cat_rv, cat_i, cat_l, cat_f]) ?_
  refine Sm.sub [1, 0] rfl ?_
  refine Sm.cnt (fun hN9 => ?_)
  rw [← hN9]
  exact w_m10_init_107 hC hR FU r0 (0 : Int32) M36
