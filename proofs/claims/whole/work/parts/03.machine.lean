/-- links between nest mates -/
def nzw : List Cond := [(Jvm.Cond.methodLinkNest "NewsWire$Rules" (17 : Nat) ({ cls := "NewsWire$Rule", name := "<init>", desc := "()V" } : Jvm.MethodName) "NewsWire"), (Jvm.Cond.methodLinkNest "NewsWire" (36 : Nat) ({ cls := "NewsWire$Garbles", name := "<init>", desc := "()V" } : Jvm.MethodName) "NewsWire"), (Jvm.Cond.methodLinkNest "NewsWire" (43 : Nat) ({ cls := "NewsWire$StoryText", name := "<init>", desc := "()V" } : Jvm.MethodName) "NewsWire"), (Jvm.Cond.methodLinkNest "NewsWire" (50 : Nat) ({ cls := "NewsWire$Choice", name := "<init>", desc := "()V" } : Jvm.MethodName) "NewsWire"), (Jvm.Cond.methodLinkNest "NewsWire" (57 : Nat) ({ cls := "NewsWire$Tape", name := "<init>", desc := "()V" } : Jvm.MethodName) "NewsWire"), (Jvm.Cond.methodLinkNest "NewsWire" (64 : Nat) ({ cls := "NewsWire$Row", name := "<init>", desc := "()V" } : Jvm.MethodName) "NewsWire"), (Jvm.Cond.methodLinkNest "NewsWire" (73 : Nat) ({ cls := "NewsWire$Wire", name := "<init>", desc := "()V" } : Jvm.MethodName) "NewsWire"), (Jvm.Cond.methodLinkNest "NewsWire" (74 : Nat) ({ cls := "NewsWire$Piece", name := "<init>", desc := "()V" } : Jvm.MethodName) "NewsWire"), (Jvm.Cond.methodLinkNest "NewsWire$StoryText" (90 : Nat) ({ cls := "NewsWire", name := "hasPart", desc := "(I)Z" } : Jvm.MethodName) "NewsWire")]
def aow : List String := ["NewsWire$Wire", "NewsWire$Piece", "NewsWire$Paper", "NewsWire$Rule"]
/-- the text constants: whose pool, its place, the text -/
def lks : List (String × Nat × String) := [("NewsWire$Rule", 70, "bar"), ("NewsWire$Rule", 72, "cost"), ("NewsWire$Rule", 74, "rank"), ("NewsWire$Rule", 37, " "), ("NewsWire$Rule", 54, " if "), ("NewsWire$Rule", 56, " and "), ("NewsWire$Rule", 76, "kind"), ("NewsWire$Rule", 78, "story"), ("NewsWire$Rule", 80, "bureau"), ("NewsWire$Rule", 82, "words"), ("NewsWire$Rule", 84, "paper"), ("NewsWire$Rule", 86, "<"), ("NewsWire$Rule", 88, ">"), ("NewsWire$Rule", 90, "=")]
def slen : List Nat := [3, 4, 4, 1, 4, 5, 4, 5, 6, 5, 5, 1, 1, 1]
def sbyt : List (List Int32) := [[98, 97, 114], [99, 111, 115, 116], [114, 97, 110, 107], [32], [32, 105, 102, 32], [32, 97, 110, 100, 32], [107, 105, 110, 100], [115, 116, 111, 114, 121], [98, 117, 114, 101, 97, 117], [119, 111, 114, 100, 115], [112, 97, 112, 101, 114], [60], [62], [61]]
abbrev Cx : Type := Program × Launch × Env × Room × State × MethodId × Array Value × List Frame × Method × Code
abbrev cL (C : Cx) : Launch := C.2.1
abbrev cR (C : Cx) : Room := C.2.2.2.1
abbrev cS (C : Cx) : State := C.2.2.2.2.1
abbrev cM (C : Cx) : MethodId := C.2.2.2.2.2.1
abbrev cA (C : Cx) : Array Value := C.2.2.2.2.2.2.1
abbrev cB (C : Cx) : List Frame := C.2.2.2.2.2.2.2.1
abbrev cMe (C : Cx) : Method := C.2.2.2.2.2.2.2.2.1
abbrev cC (C : Cx) : Code := C.2.2.2.2.2.2.2.2.2
abbrev Wc (C : Cx) (H : Heap) (locs : List Loc) (cs ss : Nat) (Q : State → Prop) (g : JFrame) : Prop := W C.1 (cL C) C.2.2.1 (cR C) (cS C) (cM C) (cA C) (cB C) (cMe C) (cC C) H locs cs ss Q g
def tys (V : Ev) : List (ClassId × FieldType) := [(V.2.2.1 0, .int), (V.2.2.1 1, .boolean), (V.2.2.1 2, .object n_c2), (V.2.2.1 3, .object n_c3), (V.2.2.1 4, .object n_c5), (V.2.2.1 5, .object n_c9)]
/-- what else is known of the tables and of what lies ahead of the cells -/
def Zs (V : Ev) (U : State) : Prop := (∀ w ∈ nzw, va_Nw w U) ∧ (∀ n ∈ aow, va_AO n U) ∧ (∀ (i : Nat) (q : String × Nat × String), lks[i]? = some q → vk_R q.1 q.2.1 q.2.2 (V.2.2.2.1 i) U) ∧ vk_S 14 slen sbyt V.2.2.2.1 V.2.2.2.2 (Af V) U U.heap ∧
  va_Z "java/lang/String" "COMPACT_STRINGS" "Z" (.int 1) (Af V) U U.heap ∧ va_Zq "jdk/internal/util/Preconditions" "SIOOBE_FORMATTER" "Ljava/util/function/BiFunction;" (Af V) U U.heap
def Ks (V : Ev) (U : State) : Prop := va_K V.2.1 cls (tys V) U ∧ Zs V U
def Wd (V : Ev) (M : Mm) (U : State) : Prop := U.heap.size = V.1 + 1 + mN M ∧ va_P V.2.1 cls (wl V M) U.heap ∧ Ks V U
def Cok (V : Ev) (C : Cx) (own : String) (cc : ByteArray) (nL n0 : Nat) (ret : Option FieldType) (nm : String) : Prop :=
  C.1.tables.exec = Jvm.exec ∧ (cC C).code = cc ∧ (cC C).maxLocals = nL ∧ (cS C).vm.findClass own = some (cM C).cls ∧ (∀ w ∈ TW, w.before (cA C) (cS C) = true) ∧ Ks V (cS C) ∧ (cS C).heap.size = V.1 + 1 + n0 ∧ (cMe C).sig.returnType = ret ∧ (cMe C).locks = false ∧ (cMe C).name = nm
def Hd (V : Ev) (C : Cx) (n : Nat) (M : Mm) (H : Heap) (locs : List Loc) : Prop := (H.size = V.1 + 1 + n ∧ mN M = n) ∧ va_P V.2.1 cls (wl V M) H ∧ va_S (Af V) (cS C).heap H locs
def QC (V : Ev) (r : Option Value) (M : Mm) (mc : Nat) : Array Value → State → Outcome → State → Prop := fun _ st oc t => oc = .returned r ∧ Wd V M t ∧ va_F (Af V) st t ∧ t.heap.size = st.heap.size + mc
/-- the sizes of the cells -/
def sz1 (k : Nat) : Nat := if (tb k).1 < 10 then (tb k).2 else (ft ((tb k).1 - 10)).length
def Sz : Nat → Nat
  | 0 => 0
  | n + 1 => Sz n + sz1 (n + 1)
/-- from here on the machine does what X says: if X is an answer, it comes to an end with it -/
def Sm {α : Type} (V : Ev) (C : Cx) (nL n0 n : Nat) (QQ : α → State → Prop) (pc : Nat) (lv : List (Nat × Value)) (st : List Value) (M : Mm) (X : Option α) : Prop :=
  ∀ (H : Heap) (locs : List Loc) (ls : Array Slot), lv_has ls nL lv → Hd V C n M H locs → ∀ res, X = some res → Wc C H locs (n - n0) (Sz n - Sz n0) (QQ res) (F0 (cM C) pc ls st)
theorem va_Zq.warm {C n d : String} {A : Nat → Prop} {u U : State} {H H1 : Heap} (hvm : u.vm.Alike U.vm) (hq : ∀ a : Nat, a < H.size → ¬ A a → H1[a]? = H[a]?) (h : va_Zq C n d A u H) : va_Zq C n d A U H1 := by
  rcases h with h | ⟨t, h⟩
  · exact Or.inl ((va_Z.moved hvm h).kept hq)
  · exact Or.inr ⟨t, (va_Z.moved hvm h).kept hq⟩
theorem nzw_nest : ∀ w ∈ nzw, ∃ a i x h, w = .methodLinkNest a i x h := by
  intro w hw
  simp only [nzw, List.mem_cons, List.not_mem_nil, or_false] at hw
  rcases hw with h | h | h | h | h | h | h | h | h <;> exact ⟨_, _, _, _, h⟩
theorem Zs.warm {V : Ev} {s U : State} (hW : s.WarmedH U.vm) (hq : ∀ a : Nat, a < s.heap.size → ¬ Af V a → U.heap[a]? = s.heap[a]?) (h : Zs V s) : Zs V U := by
  obtain ⟨h1, h2, h3, h4, h5, h6⟩ := h
  refine ⟨fun w hw => ?_, fun n hn => va_AO.moved hW.alike (h2 n hn), fun i q hq2 => vk_R.warm hW (h3 i q hq2), (vk_S.moved hW.alike h4).kept hq, (va_Z.moved hW.alike h5).kept hq, va_Zq.warm hW.alike hq h6⟩
  obtain ⟨a, i, x, h, rfl⟩ := nzw_nest w hw
  exact va_Nw.warmM hW (h1 _ hw)
theorem Ks.warm {V : Ev} {s U : State} (hW : s.WarmedH U.vm) (hq : ∀ a : Nat, a < s.heap.size → ¬ Af V a → U.heap[a]? = s.heap[a]?) (h : Ks V s) : Ks V U := ⟨va_K.moved hW.alike h.1, h.2.warm hW hq⟩
theorem Hd.wd {V : Ev} {C : Cx} {n : Nat} {M : Mm} {H : Heap} {locs : List Loc} (h : Hd V C n M H locs) (hK : Ks V (cS C)) {U : State} (hU : U.heap = H) (hW : (cS C).WarmedH U.vm) : Wd V M U :=
  ⟨by rw [hU, h.1.2]; exact h.1.1, by rw [hU]; exact h.2.1, hK.warm hW (fun a h1 h2 => by rw [hU]; exact h.2.2.2.1 a h1 h2)⟩
/-- a method's contract out of its walk -/
theorem met_of {α : Type} {V : Ev} {l : Launch} {y : MethodName} {cc : ByteArray} {maxL : Nat} {ret : Option FieldType} {rm : Room} {argv : List Value} {M M' : Mm} {r : α} {X : Option (α × Mm)} {mc ms : Nat} (ev : α → Option Value) {lv0 : List (Nat × Value)} (hy : plainName y.cls = true) (hn : (lg_sl argv).length ≤ maxL) (hlv : lv_args 0 argv = lv0)
    (body : ∀ C : Cx, cL C = l → cR C = rm → Cok V C y.cls cc maxL (mN M) ret y.name → Sm V C maxL (mN M) (mN M) (fun res => MQ (cB C) (QC V (ev res.1) res.2 mc) (cA C) (cS C) mc ms (Af V)) 0 lv0 [] M X) (hX : X = some (r, M')) :
    Met l y (Cond.code y cc maxL ret :: TW) rm (va_Pc argv (Wd V M)) (QC V (ev r) M' mc) mc ms (Af V) := by
  refine Met.ofW (cc := cc) (maxL := maxL) (ret := ret) hy rfl ?_
  intro p e s m args below meth c s₁ B hml hv
  obtain ⟨rfl, hsz, hP, hK⟩ := hv
  have hts := atoms_spec (ws := Cond.code y cc maxL ret :: TW) B.pre
  have h := body (p, l, e, rm, s, m, argv.toArray, below, meth, c) rfl rfl ⟨B.exec, B.bytes, hml, findClass_of_methodNamed B.named, fun w hw => hts w (List.mem_cons_of_mem _ hw), hK, hsz, B.returns, B.notSynchronized, (name_of_methodNamed B.named B.method).1⟩
  rw [lg_entry_eq]
  subst hlv
  have h9 := h s.heap [] _ (lv_entry argv hn) ⟨⟨hsz, rfl⟩, hP, va_S.rf⟩ _ hX
  rw [Nat.sub_self, Nat.sub_self] at h9
  exact h9
section RULES
variable {α : Type} {V : Ev} {C : Cx} {own nm : String} {cc : ByteArray} {nL n0 nc : Nat} {ret : Option FieldType} {QQ : α → State → Prop} {pc : Nat} {lv : List (Nat × Value)} {st : List Value} {M : Mm} {X Y : Option α}
theorem Sm.none_ : Sm V C nL n0 nc QQ pc lv st M none := fun _ _ _ _ _ _ h => by cases h
theorem Sm.iconst (hC : Cok V C own cc nL n0 ret nm) {n : Int} {v : Int32} (hd : decode cc pc = .ok (.iconst n, 1)) (hv : Int32.ofInt n = v) (k : Sm V C nL n0 nc QQ (pc + 1) lv (.int v :: st) M X) : Sm V C nL n0 nc QQ pc lv st M X := by
  intro H locs ls hl hh res hr
  have a1 := hC.1
  have a2 := hC.2.1
  exact lv_iconst a1 a2 hd hv (k H locs ls hl hh res hr)
theorem Sm.bipush (hC : Cok V C own cc nL n0 ret nm) {n : Int} {v : Int32} (hd : decode cc pc = .ok (.bipush n, 2)) (hv : (Int8.ofInt n).toInt32 = v) (k : Sm V C nL n0 nc QQ (pc + 2) lv (.int v :: st) M X) : Sm V C nL n0 nc QQ pc lv st M X := by
  intro H locs ls hl hh res hr
  have a1 := hC.1
  have a2 := hC.2.1
  exact lv_bipush a1 a2 hd hv (k H locs ls hl hh res hr)
theorem Sm.sipush (hC : Cok V C own cc nL n0 ret nm) {n : Int} {v : Int32} (hd : decode cc pc = .ok (.sipush n, 3)) (hv : (Int16.ofInt n).toInt32 = v) (k : Sm V C nL n0 nc QQ (pc + 3) lv (.int v :: st) M X) : Sm V C nL n0 nc QQ pc lv st M X := by
  intro H locs ls hl hh res hr
  have a1 := hC.1
  have a2 := hC.2.1
  exact lv_sipush a1 a2 hd hv (k H locs ls hl hh res hr)
theorem Sm.lconst (hC : Cok V C own cc nL n0 ret nm) {n : Fin 2} {v : Int64} (hd : decode cc pc = .ok (.lconst n, 1)) (hv : Int64.ofNat (n : Nat) = v) (k : Sm V C nL n0 nc QQ (pc + 1) lv (.long v :: st) M X) : Sm V C nL n0 nc QQ pc lv st M X := by
  intro H locs ls hl hh res hr
  have a1 := hC.1
  have a2 := hC.2.1
  exact lv_lconst a1 a2 hd hv (k H locs ls hl hh res hr)
theorem Sm.ldc (hC : Cok V C own cc nL n0 ret nm) {i : Nat} {v : Int32} (hd : decode cc pc = .ok (.ldc i, 2)) (hw : Cond.constant own i v ∈ TW) (k : Sm V C nL n0 nc QQ (pc + 2) lv (.int v :: st) M X) : Sm V C nL n0 nc QQ pc lv st M X := by
  intro H locs ls hl hh res hr
  have a1 := hC.1
  have a2 := hC.2.1
  have a5 := hC.2.2.2.2.1 _ hw
  have a3 := hC.2.2.2.1
  exact lv_ldc a1 a2 a3 a5 hd (k H locs ls hl hh res hr)
theorem Sm.ldc2 (hC : Cok V C own cc nL n0 ret nm) {i : Nat} {v : Int64} (hd : decode cc pc = .ok (.ldc2_w i, 3)) (hw : Cond.constantLong own i v ∈ TW) (k : Sm V C nL n0 nc QQ (pc + 3) lv (.long v :: st) M X) : Sm V C nL n0 nc QQ pc lv st M X := by
  intro H locs ls hl hh res hr
  have a1 := hC.1
  have a2 := hC.2.1
  have a5 := hC.2.2.2.2.1 _ hw
  have a3 := hC.2.2.2.1
  exact lv_ldc2 a1 a2 a3 a5 hd (k H locs ls hl hh res hr)
theorem Sm.ldcS (hC : Cok V C own cc nL n0 ret nm) {i : Nat} (j : Nat) {tx : String} (hd : decode cc pc = .ok (.ldc i, 2)) (hj : lks[j]? = some (own, i, tx)) (k : Sm V C nL n0 nc QQ (pc + 2) lv (.ref (V.2.2.2.1 j) :: st) M X) : Sm V C nL n0 nc QQ pc lv st M X := by
  intro H locs ls hl hh res hr
  have a1 := hC.1
  have a2 := hC.2.1
  have a4 := hC.2.2.2.2.2.1.2.2.2.1 j _ hj
  have a3 := hC.2.2.2.1
  exact va_ldcS a1 a2 a3 a4 hd (k H locs ls hl hh res hr)
theorem Sm.iload_n (hC : Cok V C own cc nL n0 ret nm) {n : Fin 4} {i : Nat} {x : Int32} (hd : decode cc pc = .ok (.iload_n n, 1)) (hi : (n : Nat) = i) (j : Nat) (hj : lv[j]? = some (i, .int x)) (k : Sm V C nL n0 nc QQ (pc + 1) lv (.int x :: st) M X) : Sm V C nL n0 nc QQ pc lv st M X := by
  intro H locs ls hl hh res hr
  have a1 := hC.1
  have a2 := hC.2.1
  exact lv_iload_n a1 a2 hd hi (lv_at hl j hj) (k H locs ls hl hh res hr)
theorem Sm.iload (hC : Cok V C own cc nL n0 ret nm) {i : Nat} {x : Int32} (hd : decode cc pc = .ok (.iload i, 2)) (j : Nat) (hj : lv[j]? = some (i, .int x)) (k : Sm V C nL n0 nc QQ (pc + 2) lv (.int x :: st) M X) : Sm V C nL n0 nc QQ pc lv st M X := by
  intro H locs ls hl hh res hr
  have a1 := hC.1
  have a2 := hC.2.1
  exact lv_iload a1 a2 hd (lv_at hl j hj) (k H locs ls hl hh res hr)
theorem Sm.lload_n (hC : Cok V C own cc nL n0 ret nm) {n : Fin 4} {i : Nat} {x : Int64} (hd : decode cc pc = .ok (.lload_n n, 1)) (hi : (n : Nat) = i) (j : Nat) (hj : lv[j]? = some (i, .long x)) (k : Sm V C nL n0 nc QQ (pc + 1) lv (.long x :: st) M X) : Sm V C nL n0 nc QQ pc lv st M X := by
  intro H locs ls hl hh res hr
  have a1 := hC.1
  have a2 := hC.2.1
  exact lv_lload_n a1 a2 hd hi (lv_at hl j hj) (k H locs ls hl hh res hr)
theorem Sm.lload (hC : Cok V C own cc nL n0 ret nm) {i : Nat} {x : Int64} (hd : decode cc pc = .ok (.lload i, 2)) (j : Nat) (hj : lv[j]? = some (i, .long x)) (k : Sm V C nL n0 nc QQ (pc + 2) lv (.long x :: st) M X) : Sm V C nL n0 nc QQ pc lv st M X := by
  intro H locs ls hl hh res hr
  have a1 := hC.1
  have a2 := hC.2.1
  exact lv_lload a1 a2 hd (lv_at hl j hj) (k H locs ls hl hh res hr)
theorem Sm.aload_n (hC : Cok V C own cc nL n0 ret nm) {n : Fin 4} {i : Nat} {r : Nat} (hd : decode cc pc = .ok (.aload_n n, 1)) (hi : (n : Nat) = i) (j : Nat) (hj : lv[j]? = some (i, rv V.1 r)) (k : Sm V C nL n0 nc QQ (pc + 1) lv (rv V.1 r :: st) M X) : Sm V C nL n0 nc QQ pc lv st M X := by
  intro H locs ls hl hh res hr
  have a1 := hC.1
  have a2 := hC.2.1
  have h := lv_at hl j hj
  have k' := k H locs ls hl hh res hr
  unfold rv at h k'
  by_cases h0 : r = 0
  · rw [if_pos h0] at h k'
    exact lv_aload_nN a1 a2 hd hi h k'
  · rw [if_neg h0] at h k'
    exact lv_aload_n a1 a2 hd hi h k'
theorem Sm.aload (hC : Cok V C own cc nL n0 ret nm) {i : Nat} {r : Nat} (hd : decode cc pc = .ok (.aload i, 2)) (j : Nat) (hj : lv[j]? = some (i, rv V.1 r)) (k : Sm V C nL n0 nc QQ (pc + 2) lv (rv V.1 r :: st) M X) : Sm V C nL n0 nc QQ pc lv st M X := by
  intro H locs ls hl hh res hr
  have a1 := hC.1
  have a2 := hC.2.1
  have h := lv_at hl j hj
  have k' := k H locs ls hl hh res hr
  unfold rv at h k'
  by_cases h0 : r = 0
  · rw [if_pos h0] at h k'
    exact lv_aloadN a1 a2 hd h k'
  · rw [if_neg h0] at h k'
    exact lv_aload a1 a2 hd h k'
theorem Sm.aloadS_n (hC : Cok V C own cc nL n0 ret nm) {n : Fin 4} {i : Nat} {q : Nat} (hd : decode cc pc = .ok (.aload_n n, 1)) (hi : (n : Nat) = i) (j : Nat) (hj : lv[j]? = some (i, .ref q)) (k : Sm V C nL n0 nc QQ (pc + 1) lv (.ref q :: st) M X) : Sm V C nL n0 nc QQ pc lv st M X := by
  intro H locs ls hl hh res hr
  have a1 := hC.1
  have a2 := hC.2.1
  exact lv_aload_n a1 a2 hd hi (lv_at hl j hj) (k H locs ls hl hh res hr)
abbrev lst (lv : List (Nat × Value)) (i : Nat) (v : Value) : List (Nat × Value) := (i, v) :: lv.filter (fun q => !(q.1 == i) && !(q.1 + 1 == i && q.2.category == 2))
abbrev lst2 (lv : List (Nat × Value)) (i : Nat) (v : Value) : List (Nat × Value) := (i, v) :: lv.filter (fun q => !(q.1 == i) && (!(q.1 == i + 1) && !(q.1 + 1 == i && q.2.category == 2)))
theorem Sm.istore_n (hC : Cok V C own cc nL n0 ret nm) {n : Fin 4} {i : Nat} {x : Int32} {lv' : List (Nat × Value)} (hd : decode cc pc = .ok (.istore_n n, 1)) (hi : (n : Nat) = i) (hn : i < nL) (hl' : lst lv i (.int x) = lv') (k : Sm V C nL n0 nc QQ (pc + 1) lv' st M X) : Sm V C nL n0 nc QQ pc lv (.int x :: st) M X := by
  intro H locs ls hl hh res hr
  have a1 := hC.1
  have a2 := hC.2.1
  exact lv_istore_n a1 a2 hd hi hl hn hl' (fun ls' h' => k H locs ls' h' hh res hr)
theorem Sm.istore (hC : Cok V C own cc nL n0 ret nm) {i : Nat} {x : Int32} {lv' : List (Nat × Value)} (hd : decode cc pc = .ok (.istore i, 2)) (hn : i < nL) (hl' : lst lv i (.int x) = lv') (k : Sm V C nL n0 nc QQ (pc + 2) lv' st M X) : Sm V C nL n0 nc QQ pc lv (.int x :: st) M X := by
  intro H locs ls hl hh res hr
  have a1 := hC.1
  have a2 := hC.2.1
  exact lv_istore a1 a2 hd hl hn hl' (fun ls' h' => k H locs ls' h' hh res hr)
theorem Sm.lstore_n (hC : Cok V C own cc nL n0 ret nm) {n : Fin 4} {i : Nat} {x : Int64} {lv' : List (Nat × Value)} (hd : decode cc pc = .ok (.lstore_n n, 1)) (hi : (n : Nat) = i) (hn : i + 1 < nL) (hl' : lst2 lv i (.long x) = lv') (k : Sm V C nL n0 nc QQ (pc + 1) lv' st M X) : Sm V C nL n0 nc QQ pc lv (.long x :: st) M X := by
  intro H locs ls hl hh res hr
  have a1 := hC.1
  have a2 := hC.2.1
  exact lv_lstore_n a1 a2 hd hi hl hn hl' (fun ls' h' => k H locs ls' h' hh res hr)
theorem Sm.lstore (hC : Cok V C own cc nL n0 ret nm) {i : Nat} {x : Int64} {lv' : List (Nat × Value)} (hd : decode cc pc = .ok (.lstore i, 2)) (hn : i + 1 < nL) (hl' : lst2 lv i (.long x) = lv') (k : Sm V C nL n0 nc QQ (pc + 2) lv' st M X) : Sm V C nL n0 nc QQ pc lv (.long x :: st) M X := by
  intro H locs ls hl hh res hr
  have a1 := hC.1
  have a2 := hC.2.1
  exact lv_lstore a1 a2 hd hl hn hl' (fun ls' h' => k H locs ls' h' hh res hr)
theorem Sm.astore_n (hC : Cok V C own cc nL n0 ret nm) {n : Fin 4} {i : Nat} {r : Nat} {lv' : List (Nat × Value)} (hd : decode cc pc = .ok (.astore_n n, 1)) (hi : (n : Nat) = i) (hn : i < nL) (hl' : lst lv i (rv V.1 r) = lv') (k : Sm V C nL n0 nc QQ (pc + 1) lv' st M X) : Sm V C nL n0 nc QQ pc lv (rv V.1 r :: st) M X := by
  intro H locs ls hl hh res hr
  have a1 := hC.1
  have a2 := hC.2.1
  unfold rv at hl' ⊢
  by_cases h0 : r = 0
  · rw [if_pos h0] at hl' ⊢
    exact lv_astore_nN a1 a2 hd hi hl hn hl' (fun ls' h' => k H locs ls' h' hh res hr)
  · rw [if_neg h0] at hl' ⊢
    exact lv_astore_n a1 a2 hd hi hl hn hl' (fun ls' h' => k H locs ls' h' hh res hr)
theorem Sm.astore (hC : Cok V C own cc nL n0 ret nm) {i : Nat} {r : Nat} {lv' : List (Nat × Value)} (hd : decode cc pc = .ok (.astore i, 2)) (hn : i < nL) (hl' : lst lv i (rv V.1 r) = lv') (k : Sm V C nL n0 nc QQ (pc + 2) lv' st M X) : Sm V C nL n0 nc QQ pc lv (rv V.1 r :: st) M X := by
  intro H locs ls hl hh res hr
  have a1 := hC.1
  have a2 := hC.2.1
  unfold rv at hl' ⊢
  by_cases h0 : r = 0
  · rw [if_pos h0] at hl' ⊢
    exact lv_astoreN a1 a2 hd hl hn hl' (fun ls' h' => k H locs ls' h' hh res hr)
  · rw [if_neg h0] at hl' ⊢
    exact lv_astore a1 a2 hd hl hn hl' (fun ls' h' => k H locs ls' h' hh res hr)
theorem Sm.iinc (hC : Cok V C own cc nL n0 ret nm) {i : Nat} {n : Int} {x v : Int32} {lv' : List (Nat × Value)} (hd : decode cc pc = .ok (.iinc i n, 3)) (j : Nat) (hj : lv[j]? = some (i, .int x)) (hv : x + Int32.ofInt n = v) (hn : i < nL) (hl' : lst lv i (.int v) = lv') (k : Sm V C nL n0 nc QQ (pc + 3) lv' st M X) : Sm V C nL n0 nc QQ pc lv st M X := by
  intro H locs ls hl hh res hr
  have a1 := hC.1
  have a2 := hC.2.1
  exact lv_iinc a1 a2 hd hl hj hv hn hl' (fun ls' h' => k H locs ls' h' hh res hr)
/-- fewer locals, in any order -/
theorem Sm.sub {lv' : List (Nat × Value)} (ks : List Nat) (hl' : lv_pick lv ks = lv') (k : Sm V C nL n0 nc QQ pc lv' st M X) : Sm V C nL n0 nc QQ pc lv st M X :=
  fun H locs ls hl hh res hr => k H locs ls (lv_sub hl ks hl') hh res hr
end RULES
