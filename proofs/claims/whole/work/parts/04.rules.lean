/-! what the instructions on the cells say, each with what must hold for it to go on -/
def gI {α : Type} (M : Mm) (r k s : Nat) (f : Int32 → Option α) : Option α := if has M r k = true then f (rI M r s) else none
def gL {α : Type} (M : Mm) (r k s : Nat) (f : Int64 → Option α) : Option α := if has M r k = true then f (rL M r s) else none
def gR {α : Type} (M : Mm) (r k s : Nat) (f : Nat → Option α) : Option α := if has M r k = true then f (rR M r s) else none
def pI {α : Type} (M : Mm) (r k s : Nat) (v : Int32) (f : Mm → Option α) : Option α := if has M r k = true then f (wI M r s v) else none
def pZ {α : Type} (M : Mm) (r k s : Nat) (v : Int32) (f : Mm → Option α) : Option α := if has M r k = true then (if zb v = true then f (wI M r s v) else none) else none
def pL {α : Type} (M : Mm) (r k s : Nat) (v : Int64) (f : Mm → Option α) : Option α := if has M r k = true then f (wL M r s v) else none
def pR {α : Type} (M : Mm) (r k s : Nat) (v : Nat) (f : Mm → Option α) : Option α := if has M r k = true then f (wR M r s v) else none
def aI {α : Type} (M : Mm) (r k : Nat) (i : Int32) (f : Int32 → Option α) : Option α := if has M r k = true then (if inb i (tb r).2 = true then f (rI M r i.toNatClampNeg) else none) else none
def aR {α : Type} (M : Mm) (r k : Nat) (i : Int32) (f : Nat → Option α) : Option α := if has M r k = true then (if inb i (tb r).2 = true then f (rR M r i.toNatClampNeg) else none) else none
def sI {α : Type} (M : Mm) (r k : Nat) (i : Int32) (v : Int32) (f : Mm → Option α) : Option α := if has M r k = true then (if inb i (tb r).2 = true then f (wI M r i.toNatClampNeg v) else none) else none
def sR {α : Type} (M : Mm) (r k : Nat) (i : Int32) (v kv : Nat) (f : Mm → Option α) : Option α := if has M r k = true then (if has M v kv = true then (if inb i (tb r).2 = true then f (wR M r i.toNatClampNeg v) else none) else none) else none
def al {α : Type} (M : Mm) (r k : Nat) (f : Int32 → Option α) : Option α := if has M r k = true then f (Int32.ofNat (tb r).2) else none
def dz {α : Type} (y : Int32) (f : Option α) : Option α := if y = 0 then none else f
def rz {α : Type} (v : Int32) (f : Option α) : Option α := if zb v = true then f else none
def cl {α β : Type} (g : Bool) (Y : Option (β × Mm)) (K : β → Mm → Option α) : Option α := if g = true then Y.bind (fun p => K p.1 p.2) else none
def cp {α : Type} (M : Mm) (a : Nat) (i : Int32) (b : Nat) (j n : Int32) (f : Mm → Option α) : Option α :=
  if has M a 0 = true ∧ has M b 0 = true ∧ ¬ i < 0 ∧ ¬ j < 0 ∧ ¬ n < 0 ∧ i.toNatClampNeg + n.toNatClampNeg ≤ (tb a).2 ∧ j.toNatClampNeg + n.toNatClampNeg ≤ (tb b).2 then f (wC M a i.toNatClampNeg b j.toNatClampNeg n.toNatClampNeg) else none
/-- a field: whose pool names it and where, its class, its place, its kind, whether it is final, its type -/
def FL (own : String) (index ci s t : Nat) (fin : Bool) (ty : FieldType) : Prop := ∃ (Cn : String) (T : u_T) (N : Nat) (ty0 : Nat → FieldType), cls[ci]? = some (Cn, T, N) ∧ (∀ w ∈ u_ws Cn T N, w ∈ TW) ∧ (∀ k, k < N → parseFieldDescriptor (T k).2.2.1 = some (ty0 k)) ∧
  (∀ a, a < N → ∀ b, b < N → a ≠ b → (T a).2.1 ≠ (T b).2.1) ∧ s < N ∧ (ft ci)[s]? = some t ∧ Cond.fieldLink own index (T s).1 (T s).2.1 (T s).2.2.1 ∈ TW ∧ (T s).2.2.2 = fin ∧ (T s).1 = Cn ∧ ty0 s = ty ∧ (ft ci).length = N
theorem cel_int {V : Ev} {M : Mm} {r : Nat} {k : Nat} (hk : k < 2) (h : (tb r).1 = k) : cel V M r = .inl (V.2.2.1 k, (tb r).2, .inl (rI M r)) := by
  unfold cel
  rw [if_pos (by omega), h]
theorem cel_ref {V : Ev} {M : Mm} {r : Nat} {k : Nat} (hk : 2 ≤ k) (hk2 : k < 10) (h : (tb r).1 = k) : cel V M r = .inl (V.2.2.1 k, (tb r).2, .inr (.inr (.inr (.inr (fun i => orf V.1 (rR M r i)))))) := by
  unfold cel
  rw [if_neg (by omega), if_pos (by omega), h]
theorem cel_obj {V : Ev} {M : Mm} {r ci : Nat} (h : (tb r).1 = 10 + ci) : cel V M r = .inr (ci, flds V.1 M r 0 (ft ci)) := by
  unfold cel
  rw [if_neg (by omega), if_neg (by omega), h]
  simp
theorem Hd.get {V : Ev} {C : Cx} {n : Nat} {M : Mm} {H : Heap} {locs : List Loc} (h : Hd V C n M H locs) {r k : Nat} (hr : has M r k = true) : (wl V M)[r - 1]? = some (V.1 + r, cel V M r) := by
  obtain ⟨h1, h2, -⟩ := has_spec hr
  exact wl_get h1 h2
/-- a cell changes -/
theorem Hd.put {V : Ev} {C : Cx} {n : Nat} {M M' : Mm} {H H1 : Heap} {locs locs1 : List Loc} (h : Hd V C n M H locs) {r k : Nat} {e : va_E} (hr : has M r k = true) (hn : mN M' = mN M) (ho : ∀ j, j ≠ r → cel V M' j = cel V M j) (he : cel V M' r = e)
    (hz : H1.size = H.size) (hP : va_P V.2.1 cls ((wl V M).set (r - 1) (V.1 + r, e)) H1) (hS : va_S (Af V) (cS C).heap H1 locs1) : Hd V C n M' H1 locs1 := by
  obtain ⟨h1, h2, -⟩ := has_spec hr
  rw [wl_set h1 h2 hn ho he] at hP
  exact ⟨⟨hz.trans h.1.1, hn.trans h.1.2⟩, hP, hS⟩
theorem rI_wI_ne {M : Mm} {k s j t : Nat} {v : Int32} (h : ¬ (j = k ∧ t = s)) : rI (wI M k s v) j t = rI M j t := u2_ne h
theorem cel_wI {V : Ev} {M : Mm} {k s j : Nat} {v : Int32} (h : j ≠ k) : cel V (wI M k s v) j = cel V M j := cel_ext (fun t => u2_ne (fun e => h e.1)) (fun _ => rfl) (fun _ => rfl)
theorem cel_wL {V : Ev} {M : Mm} {k s j : Nat} {v : Int64} (h : j ≠ k) : cel V (wL M k s v) j = cel V M j := cel_ext (fun _ => rfl) (fun t => u2_ne (fun e => h e.1)) (fun _ => rfl)
theorem cel_wR {V : Ev} {M : Mm} {k s j : Nat} {v : Nat} (h : j ≠ k) : cel V (wR M k s v) j = cel V M j := cel_ext (fun _ => rfl) (fun _ => rfl) (fun t => u2_ne (fun e => h e.1))
theorem cel_wC {V : Ev} {M : Mm} {a i b k n j : Nat} (h : j ≠ b) : cel V (wC M a i b k n) j = cel V M j := cel_ext (fun t => if_neg (fun e => h e.1)) (fun _ => rfl) (fun _ => rfl)
section RULES2
variable {α : Type} {V : Ev} {C : Cx} {own nm : String} {cc : ByteArray} {nL n0 nc : Nat} {ret : Option FieldType} {QQ : α → State → Prop} {pc : Nat} {lv : List (Nat × Value)} {st : List Value} {M : Mm} {X Y : Option α}
theorem put_core {own : String} {cs ss : Nat} {Q : State → Prop} {H : Heap} {locs : List Loc} {ls : Array Slot} {index ci s t r : Nat} {ty : FieldType} {v : Value} {M' : Mm} (hC : Cok V C own cc nL n0 ret nm) (hF : FL own index ci s t false ty) (hr : has M r (10 + ci) = true) (hn : mN M' = mN M) (ho : ∀ j, j ≠ r → cel V M' j = cel V M j) (he : cel V M' r = .inr (ci, (flds V.1 M r 0 (ft ci)).set s v))
    (hnar : narrow ty v = v) (hfit : fits ty v = true) (hd : decode cc pc = .ok (.putfield index, 3)) (hh : Hd V C nc M H locs) (kk : ∀ (H1 : Heap) (locs1 : List Loc), Hd V C nc M' H1 locs1 → Wc C H1 locs1 cs ss Q (F0 (cM C) (pc + 3) ls st)) : Wc C H locs cs ss Q (F0 (cM C) pc ls (v :: rv V.1 r :: st)) := by
  obtain ⟨Cn, T, N, ty0, hc, hin, hty, hnm, hs, hft, hl, hfin, -, hty1, hN⟩ := hF
  have a1 := hC.1
  have a2 := hC.2.1
  have a3 := hC.2.2.2.1
  have hts := hC.2.2.2.2.1
  have hK := hC.2.2.2.2.2.1.1
  obtain ⟨r1, r2, r3⟩ := has_spec hr
  have he0 := hh.get hr
  rw [cel_obj r3] at he0
  rw [rv_pos r1]
  have hap := va_apart (own := own) hts hin ty0 hty hnm hK hc
  obtain ⟨r', h1, cell, q1, q2, q3, q4⟩ := hh.2.1 (r - 1) _ he0
  have hr' : r' = (Cn, T, N) := Option.some.inj (h1.symm.trans hc)
  subst hr'
  obtain ⟨hS, hfc, kC, hkC, hkind⟩ := hK.1 ci _ hc
  obtain ⟨cf, kf, fi, f, hi, hsl⟩ := hS s hs
  have hlay := hts _ (hin _ (u_in_lay hs))
  unfold u_lay at hlay
  rw [if_neg (by rw [hfin]; decide)] at hlay
  have hst := (u_facts hfc hkC (u_lays hts hin hs) hi).1
  have h6 := u_store hfc hkC hkind hlay hi (hty s hs) (by rw [hty1]; exact hnar) (by rw [hty1]; exact hfit)
  refine W.putK a1 a2 (f := f) ⟨a3, hts _ hl, ⟨_, _, _, hi⟩, hst⟩ (by rw [q2]; exact h6) q1 q3 (by rw [hsl]; exact k2_hasslot (q4 s hs)) rfl rfl hd fun H' e1 e2 e3 => ?_
  rw [hsl] at e1 ⊢
  refine kk H' _ (hh.put hr hn ho he e2 (hh.2.1.set (wl_D V M) he0 ⟨_, hc, t_OB.to (V := updV (vp_V _) s v) ⟨_, e1, q2, q3, t_set q4 hap hs v⟩ (fun j _ => vp_updV_set (by rw [flds_len, hN]; exact hs) v j)⟩ e3) (hh.2.2.put e2 e3 ((wl_D V M).2 (r - 1) _ he0)))
theorem putF_core {cs ss : Nat} {Q : State → Prop} {H : Heap} {locs : List Loc} {ls : Array Slot} {index ci s t r : Nat} {ty : FieldType} {v : Value} {M' : Mm} (hC : Cok V C own cc nL n0 ret nm) (hnm2 : nm = "<init>") (hF : FL own index ci s t true ty) (hown : ∀ q : vw_C, cls[ci]? = some q → q.1 = own) (hr : has M r (10 + ci) = true) (hn : mN M' = mN M) (ho : ∀ j, j ≠ r → cel V M' j = cel V M j) (he : cel V M' r = .inr (ci, (flds V.1 M r 0 (ft ci)).set s v))
    (hnar : narrow ty v = v) (hfit : fits ty v = true) (hd : decode cc pc = .ok (.putfield index, 3)) (hh : Hd V C nc M H locs) (kk : ∀ (H1 : Heap) (locs1 : List Loc), Hd V C nc M' H1 locs1 → Wc C H1 locs1 cs ss Q (F0 (cM C) (pc + 3) ls st)) : Wc C H locs cs ss Q (F0 (cM C) pc ls (v :: rv V.1 r :: st)) := by
  obtain ⟨Cn, T, N, ty0, hc, hin, hty, hnm, hs, hft, hl, hfin, hCn, hty1, hN⟩ := hF
  have a1 := hC.1
  have a2 := hC.2.1
  have a3 := hC.2.2.2.1
  have hts := hC.2.2.2.2.1
  have hK := hC.2.2.2.2.2.1.1
  have hin2 := hC.2.2.2.2.2.2.2.2.2
  rw [hnm2] at hin2
  obtain ⟨r1, r2, r3⟩ := has_spec hr
  have he0 := hh.get hr
  rw [cel_obj r3] at he0
  rw [rv_pos r1]
  have hap := va_apart (own := own) hts hin ty0 hty hnm hK hc
  obtain ⟨r', h1, cell, q1, q2, q3, q4⟩ := hh.2.1 (r - 1) _ he0
  have hr' : r' = (Cn, T, N) := Option.some.inj (h1.symm.trans hc)
  subst hr'
  obtain ⟨hS, hfc, kC, hkC, hkind⟩ := hK.1 ci _ hc
  obtain ⟨cf, kf, fi, f, hi, hsl⟩ := hS s hs
  have hlay := hts _ (hin _ (u_in_lay hs))
  unfold u_lay at hlay
  rw [if_pos hfin] at hlay
  have hst := (u_facts hfc hkC (u_lays hts hin hs) hi).1
  have hcf : (cM C).cls = cf := by
    obtain ⟨_, _, c', _, _, _, -, -, hf', -, -, -, hown2, -⟩ := Cond.laysFinal_spec hlay
    have e1 : c' = cf := by have := hi.symm.trans hf'; simp at this; exact this.1.symm
    have hd9 : (T s).1 = own := hCn.trans (hown _ hc)
    rw [hd9] at hown2
    rw [← e1]; exact Option.some.inj (a3.symm.trans hown2)
  have h6 := u_fits hfc hkC hkind (Or.inr hlay) hi (hty s hs) (by rw [hty1]; exact hnar) (by rw [hty1]; exact hfit)
  refine W.putFinK a1 a2 a3 (hts _ hl) hi hst hcf hin2 (by rw [q2]; exact h6) q1 q3 (by rw [hsl]; exact k2_hasslot (q4 s hs)) rfl rfl hd fun H' e1 e2 e3 => ?_
  rw [hsl] at e1 ⊢
  refine kk H' _ (hh.put hr hn ho he e2 (hh.2.1.set (wl_D V M) he0 ⟨_, hc, t_OB.to (V := updV (vp_V _) s v) ⟨_, e1, q2, q3, t_set q4 hap hs v⟩ (fun j _ => vp_updV_set (by rw [flds_len, hN]; exact hs) v j)⟩ e3) (hh.2.2.put e2 e3 ((wl_D V M).2 (r - 1) _ he0)))
theorem get_core {cs ss : Nat} {Q : State → Prop} {H : Heap} {locs : List Loc} {ls : Array Slot} {index ci s t r : Nat} {fin : Bool} {ty : FieldType} {v : Value} (hC : Cok V C own cc nL n0 ret nm) (hF : FL own index ci s t fin ty) (hr : has M r (10 + ci) = true) (hv : fv V.1 M r s t = v) (hd : decode cc pc = .ok (.getfield index, 3)) (hh : Hd V C nc M H locs) (kk : Wc C H locs cs ss Q (F0 (cM C) (pc + 3) ls (v :: st))) : Wc C H locs cs ss Q (F0 (cM C) pc ls (rv V.1 r :: st)) := by
  obtain ⟨Cn, T, N, ty0, hc, hin, hty, hnm, hs, hft, hl, hfin, -, hty1, hN⟩ := hF
  have a1 := hC.1
  have a2 := hC.2.1
  have a3 := hC.2.2.2.1
  have hts := hC.2.2.2.2.1
  have hK := hC.2.2.2.2.2.1.1
  obtain ⟨r1, r2, r3⟩ := has_spec hr
  have he0 := hh.get hr
  rw [cel_obj r3] at he0
  rw [rv_pos r1]
  have hg := flds_get V.1 M r (ft ci) 0 s t hft
  rw [Nat.zero_add, hv] at hg
  exact va_get a1 a2 hts hin a3 hK hh.2.1 (r - 1) he0 hc s hs (hts _ hl) (fun _ h => h) hg hd kk
theorem Sm.getI (hC : Cok V C own cc nL n0 ret nm) {index ci s k r : Nat} {fin : Bool} {ty : FieldType} {f : Int32 → Option α} (hF : FL own index ci s 0 fin ty) (hk : k = 10 + ci) (hd : decode cc pc = .ok (.getfield index, 3)) (kk : ∀ v, Sm V C nL n0 nc QQ (pc + 3) lv (.int v :: st) M (f v)) : Sm V C nL n0 nc QQ pc lv (rv V.1 r :: st) M (gI M r k s f) := by
  intro H locs ls hl hh res hr
  subst hk
  unfold gI at hr
  split at hr
  · rename_i h
    exact get_core hC hF h rfl hd hh (kk _ H locs ls hl hh res hr)
  · cases hr
theorem Sm.getL (hC : Cok V C own cc nL n0 ret nm) {index ci s k r : Nat} {fin : Bool} {ty : FieldType} {f : Int64 → Option α} (hF : FL own index ci s 1 fin ty) (hk : k = 10 + ci) (hd : decode cc pc = .ok (.getfield index, 3)) (kk : ∀ v, Sm V C nL n0 nc QQ (pc + 3) lv (.long v :: st) M (f v)) : Sm V C nL n0 nc QQ pc lv (rv V.1 r :: st) M (gL M r k s f) := by
  intro H locs ls hl hh res hr
  subst hk
  unfold gL at hr
  split at hr
  · rename_i h
    exact get_core hC hF h rfl hd hh (kk _ H locs ls hl hh res hr)
  · cases hr
theorem Sm.getR (hC : Cok V C own cc nL n0 ret nm) {index ci s k r : Nat} {fin : Bool} {ty : FieldType} {f : Nat → Option α} (hF : FL own index ci s 2 fin ty) (hk : k = 10 + ci) (hd : decode cc pc = .ok (.getfield index, 3)) (kk : ∀ v, Sm V C nL n0 nc QQ (pc + 3) lv (rv V.1 v :: st) M (f v)) : Sm V C nL n0 nc QQ pc lv (rv V.1 r :: st) M (gR M r k s f) := by
  intro H locs ls hl hh res hr
  subst hk
  unfold gR at hr
  split at hr
  · rename_i h
    exact get_core hC hF h rfl hd hh (kk _ H locs ls hl hh res hr)
  · cases hr
theorem fits_rv {B r : Nat} {ty : FieldType} (h : ty.isReference = true) : narrow ty (rv B r) = rv B r ∧ fits ty (rv B r) = true := by
  unfold rv
  cases ty <;> first | (cases h; done) | (split <;> exact ⟨rfl, rfl⟩)
theorem he_wI {V : Ev} {M : Mm} {r ci s : Nat} {v : Int32} (h : (tb r).1 = 10 + ci) (ht : (ft ci)[s]? = some 0) : cel V (wI M r s v) r = .inr (ci, (flds V.1 M r 0 (ft ci)).set s (.int v)) := by
  rw [cel_obj h, flds_set V.1 M (wI M r s v) r s (.int v) (ft ci) 0 s (fun i t hi => by
    unfold fv
    split
    · rw [rI_wI_ne (fun e => hi e.2)]
    · rfl
    · rfl) (Nat.zero_add s) (fun t h1 => by
    rw [ht] at h1
    cases h1
    exact congrArg Value.int u2_eq)]
theorem he_wL {V : Ev} {M : Mm} {r ci s : Nat} {v : Int64} (h : (tb r).1 = 10 + ci) (ht : (ft ci)[s]? = some 1) : cel V (wL M r s v) r = .inr (ci, (flds V.1 M r 0 (ft ci)).set s (.long v)) := by
  rw [cel_obj h, flds_set V.1 M (wL M r s v) r s (.long v) (ft ci) 0 s (fun i t hi => by
    unfold fv
    split
    · rfl
    · exact congrArg Value.long (u2_ne (fun e => hi e.2))
    · rfl) (Nat.zero_add s) (fun t h1 => by
    rw [ht] at h1
    cases h1
    exact congrArg Value.long u2_eq)]
theorem he_wR {V : Ev} {M : Mm} {r ci s : Nat} {v : Nat} (h : (tb r).1 = 10 + ci) (ht : (ft ci)[s]? = some 2) : cel V (wR M r s v) r = .inr (ci, (flds V.1 M r 0 (ft ci)).set s (rv V.1 v)) := by
  rw [cel_obj h, flds_set V.1 M (wR M r s v) r s (rv V.1 v) (ft ci) 0 s (fun i t hi => by
    unfold fv
    split
    · rfl
    · rfl
    · exact congrArg (rv V.1) (u2_ne (fun e => hi e.2))) (Nat.zero_add s) (fun t h1 => by
    rw [ht] at h1
    cases h1
    exact congrArg (rv V.1) u2_eq)]
theorem FL.t {own : String} {index ci s t : Nat} {fin : Bool} {ty : FieldType} (h : FL own index ci s t fin ty) : (ft ci)[s]? = some t := by
  obtain ⟨_, _, _, _, -, -, -, -, -, h, -⟩ := h
  exact h
theorem Sm.putI (hC : Cok V C own cc nL n0 ret nm) {index ci s k r : Nat} {v : Int32} {f : Mm → Option α} (hF : FL own index ci s 0 false .int) (hk : k = 10 + ci) (hd : decode cc pc = .ok (.putfield index, 3)) (kk : ∀ M1, Sm V C nL n0 nc QQ (pc + 3) lv st M1 (f M1)) : Sm V C nL n0 nc QQ pc lv (.int v :: rv V.1 r :: st) M (pI M r k s v f) := by
  intro H locs ls hl hh res hr
  subst hk
  unfold pI at hr
  split at hr
  · rename_i h
    exact put_core hC hF h (mN_wI M r s v) (fun j hj => cel_wI hj) (he_wI (has_spec h).2.2 hF.t) rfl rfl hd hh (fun H1 locs1 h1 => kk _ H1 locs1 ls hl h1 res hr)
  · cases hr
theorem Sm.putZ (hC : Cok V C own cc nL n0 ret nm) {index ci s k r : Nat} {v : Int32} {f : Mm → Option α} (hF : FL own index ci s 0 false .boolean) (hk : k = 10 + ci) (hd : decode cc pc = .ok (.putfield index, 3)) (kk : ∀ M1, Sm V C nL n0 nc QQ (pc + 3) lv st M1 (f M1)) : Sm V C nL n0 nc QQ pc lv (.int v :: rv V.1 r :: st) M (pZ M r k s v f) := by
  intro H locs ls hl hh res hr
  subst hk
  unfold pZ at hr
  split at hr
  · rename_i h
    split at hr
    · rename_i hz
      exact put_core hC hF h (mN_wI M r s v) (fun j hj => cel_wI hj) (he_wI (has_spec h).2.2 hF.t) (zb_spec hz).1 (zb_spec hz).2 hd hh (fun H1 locs1 h1 => kk _ H1 locs1 ls hl h1 res hr)
    · cases hr
  · cases hr
theorem Sm.putL (hC : Cok V C own cc nL n0 ret nm) {index ci s k r : Nat} {v : Int64} {f : Mm → Option α} (hF : FL own index ci s 1 false .long) (hk : k = 10 + ci) (hd : decode cc pc = .ok (.putfield index, 3)) (kk : ∀ M1, Sm V C nL n0 nc QQ (pc + 3) lv st M1 (f M1)) : Sm V C nL n0 nc QQ pc lv (.long v :: rv V.1 r :: st) M (pL M r k s v f) := by
  intro H locs ls hl hh res hr
  subst hk
  unfold pL at hr
  split at hr
  · rename_i h
    exact put_core hC hF h (mN_wL M r s v) (fun j hj => cel_wL hj) (he_wL (has_spec h).2.2 hF.t) rfl rfl hd hh (fun H1 locs1 h1 => kk _ H1 locs1 ls hl h1 res hr)
  · cases hr
theorem Sm.putR (hC : Cok V C own cc nL n0 ret nm) {index ci s k r v : Nat} {ty : FieldType} {f : Mm → Option α} (hF : FL own index ci s 2 false ty) (hty : ty.isReference = true) (hk : k = 10 + ci) (hd : decode cc pc = .ok (.putfield index, 3)) (kk : ∀ M1, Sm V C nL n0 nc QQ (pc + 3) lv st M1 (f M1)) : Sm V C nL n0 nc QQ pc lv (rv V.1 v :: rv V.1 r :: st) M (pR M r k s v f) := by
  intro H locs ls hl hh res hr
  subst hk
  unfold pR at hr
  split at hr
  · rename_i h
    exact put_core hC hF h (mN_wR M r s v) (fun j hj => cel_wR hj) (he_wR (has_spec h).2.2 hF.t) (fits_rv hty).1 (fits_rv hty).2 hd hh (fun H1 locs1 h1 => kk _ H1 locs1 ls hl h1 res hr)
  · cases hr
theorem Sm.putRF (hC : Cok V C own cc nL n0 ret nm) (hnm2 : nm = "<init>") {index ci s k r v : Nat} {ty : FieldType} {f : Mm → Option α} (hF : FL own index ci s 2 true ty) (hown : (cls[ci]?).map (fun q => q.1) = some own) (hty : ty.isReference = true) (hk : k = 10 + ci) (hd : decode cc pc = .ok (.putfield index, 3)) (kk : ∀ M1, Sm V C nL n0 nc QQ (pc + 3) lv st M1 (f M1)) : Sm V C nL n0 nc QQ pc lv (rv V.1 v :: rv V.1 r :: st) M (pR M r k s v f) := by
  intro H locs ls hl hh res hr
  subst hk
  unfold pR at hr
  split at hr
  · rename_i h
    exact putF_core hC hnm2 hF (fun q hq => by rw [hq] at hown; exact Option.some.inj hown) h (mN_wR M r s v) (fun j hj => cel_wR hj) (he_wR (has_spec h).2.2 hF.t) (fits_rv hty).1 (fits_rv hty).2 hd hh (fun H1 locs1 h1 => kk _ H1 locs1 ls hl h1 res hr)
  · cases hr
theorem Sm.iald (hC : Cok V C own cc nL n0 ret nm) {r : Nat} {i : Int32} {f : Int32 → Option α} (hd : decode cc pc = .ok (.iaload, 1)) (kk : ∀ v, Sm V C nL n0 nc QQ (pc + 1) lv (.int v :: st) M (f v)) : Sm V C nL n0 nc QQ pc lv (.int i :: rv V.1 r :: st) M (aI M r 0 i f) := by
  intro H locs ls hl hh res hr
  unfold aI at hr
  split at hr
  · rename_i h
    split at hr
    · rename_i hi
      obtain ⟨r1, r2, r3⟩ := has_spec h
      have a1 := hC.1
      have a2 := hC.2.1
      have hK := hC.2.2.2.2.2.1.1
      have he0 := hh.get h
      rw [cel_int (by omega) r3] at he0
      rw [rv_pos r1]
      exact va_iald a1 a2 hK hh.2.1 (r - 1) 0 he0 rfl (inb_spec hi) hd (kk _ H locs ls hl hh res hr)
    · cases hr
  · cases hr
theorem Sm.zald (hC : Cok V C own cc nL n0 ret nm) {r : Nat} {i : Int32} {f : Int32 → Option α} (hd : decode cc pc = .ok (.baload, 1)) (kk : ∀ v, Sm V C nL n0 nc QQ (pc + 1) lv (.int v :: st) M (f v)) : Sm V C nL n0 nc QQ pc lv (.int i :: rv V.1 r :: st) M (aI M r 1 i f) := by
  intro H locs ls hl hh res hr
  unfold aI at hr
  split at hr
  · rename_i h
    split at hr
    · rename_i hi
      obtain ⟨r1, r2, r3⟩ := has_spec h
      have a1 := hC.1
      have a2 := hC.2.1
      have hK := hC.2.2.2.2.2.1.1
      have he0 := hh.get h
      rw [cel_int (by omega) r3] at he0
      rw [rv_pos r1]
      exact va_zald a1 a2 hK hh.2.1 (r - 1) 1 he0 rfl (inb_spec hi) hd (kk _ H locs ls hl hh res hr)
    · cases hr
  · cases hr
theorem Sm.aald (hC : Cok V C own cc nL n0 ret nm) {r k : Nat} {Cn : String} {i : Int32} {f : Nat → Option α} (hk : 2 ≤ k ∧ k < 10) (ht : (tys V)[k]? = some (V.2.2.1 k, .object Cn)) (hd : decode cc pc = .ok (.aaload, 1)) (kk : ∀ v, Sm V C nL n0 nc QQ (pc + 1) lv (rv V.1 v :: st) M (f v)) : Sm V C nL n0 nc QQ pc lv (.int i :: rv V.1 r :: st) M (aR M r k i f) := by
  intro H locs ls hl hh res hr
  unfold aR at hr
  split at hr
  · rename_i h
    split at hr
    · rename_i hi
      obtain ⟨r1, r2, r3⟩ := has_spec h
      have a1 := hC.1
      have a2 := hC.2.1
      have hK := hC.2.2.2.2.2.1.1
      have he0 := hh.get h
      rw [cel_ref hk.1 hk.2 r3] at he0
      rw [rv_pos r1]
      refine va_aldq a1 a2 hK hh.2.1 (r - 1) k he0 ht (inb_spec hi) hd ?_
      rw [rf_rv]
      exact kk _ H locs ls hl hh res hr
    · cases hr
  · cases hr
theorem Sm.alen (hC : Cok V C own cc nL n0 ret nm) {r k : Nat} {ty : FieldType} {f : Int32 → Option α} (hk : k < 10) (ht : (tys V)[k]? = some (V.2.2.1 k, ty)) (hd : decode cc pc = .ok (.arraylength, 1)) (kk : ∀ v, Sm V C nL n0 nc QQ (pc + 1) lv (.int v :: st) M (f v)) : Sm V C nL n0 nc QQ pc lv (rv V.1 r :: st) M (al M r k f) := by
  intro H locs ls hl hh res hr
  unfold al at hr
  split at hr
  · rename_i h
    obtain ⟨r1, r2, r3⟩ := has_spec h
    have a1 := hC.1
    have a2 := hC.2.1
    have hK := hC.2.2.2.2.2.1.1
    have he0 := hh.get h
    rw [rv_pos r1]
    by_cases h2 : k < 2
    · rw [cel_int h2 r3] at he0
      exact va_alen a1 a2 hK hh.2.1 (r - 1) k he0 ht rfl hd (kk _ H locs ls hl hh res hr)
    · rw [cel_ref (by omega) hk r3] at he0
      exact va_alen a1 a2 hK hh.2.1 (r - 1) k he0 ht rfl hd (kk _ H locs ls hl hh res hr)
  · cases hr
theorem cel_sI {V : Ev} {M : Mm} {r k i : Nat} {v : Int32} (hk : k < 2) (h : (tb r).1 = k) : cel V (wI M r i v) r = .inl (V.2.2.1 k, (tb r).2, .inl (upd (rI M r) i v)) := by
  rw [cel_int hk h]
  congr 4
  funext t
  show u2 M.2.1 r i v r t = upd (rI M r) i v t
  unfold u2 upd
  by_cases ht : t = i
  · rw [if_pos ⟨rfl, ht⟩, if_pos ht]
  · rw [if_neg (fun e => ht e.2), if_neg ht]
    rfl
theorem Sm.iast (hC : Cok V C own cc nL n0 ret nm) {r : Nat} {i v : Int32} {f : Mm → Option α} (hd : decode cc pc = .ok (.iastore, 1)) (kk : ∀ M1, Sm V C nL n0 nc QQ (pc + 1) lv st M1 (f M1)) : Sm V C nL n0 nc QQ pc lv (.int v :: .int i :: rv V.1 r :: st) M (sI M r 0 i v f) := by
  intro H locs ls hl hh res hr
  unfold sI at hr
  split at hr
  · rename_i h
    split at hr
    · rename_i hi
      obtain ⟨r1, r2, r3⟩ := has_spec h
      have a1 := hC.1
      have a2 := hC.2.1
      have hK := hC.2.2.2.2.2.1.1
      have he0 := hh.get h
      rw [cel_int (by omega) r3] at he0
      rw [rv_pos r1]
      have hin := inb_spec hi
      refine W.iast a1 a2 (hh.2.1 (r - 1) _ he0) ((hK.2 0 _ rfl).1 _ (fun j => .int (rI M r j))) (fun q => by cases q) (by show ¬ (i < 0 ∨ (arrV _ _ _).slots.size ≤ _); rw [arrV_size]; exact hin) rfl rfl hd fun H1 e z oq => ?_
      refine kk _ H1 _ ls hl (hh.put (e := .inl (V.2.2.1 0, (tb r).2, .inl (upd (rI M r) i.toNatClampNeg v))) h (mN_wI M r _ v) (fun j hj => cel_wI hj) (cel_sI (by omega) r3) z (hh.2.1.set (wl_D V M) he0 ?_ oq) (hh.2.2.put z oq ((wl_D V M).2 (r - 1) _ he0))) res hr
      show H1[V.1 + r]? = some (vp_cell _ _)
      rw [e]
      rw [vp_cell_i, vp_cell_i, arrV_store]
      congr 2
      funext q
      by_cases hq : q = i.toNatClampNeg
      · subst hq
        simp [updV, upd]
      · simp [updV, upd, hq]
    · cases hr
  · cases hr
theorem Sm.zast (hC : Cok V C own cc nL n0 ret nm) {r : Nat} {i v : Int32} {f : Mm → Option α} (hd : decode cc pc = .ok (.bastore, 1)) (hz : zb v = true) (kk : ∀ M1, Sm V C nL n0 nc QQ (pc + 1) lv st M1 (f M1)) : Sm V C nL n0 nc QQ pc lv (.int v :: .int i :: rv V.1 r :: st) M (sI M r 1 i v f) := by
  intro H locs ls hl hh res hr
  unfold sI at hr
  split at hr
  · rename_i h
    split at hr
    · rename_i hi
      obtain ⟨r1, r2, r3⟩ := has_spec h
      have a1 := hC.1
      have a2 := hC.2.1
      have hK := hC.2.2.2.2.2.1.1
      have he0 := hh.get h
      rw [cel_int (by omega) r3] at he0
      rw [rv_pos r1]
      have hin := inb_spec hi
      refine W.zast a1 a2 (hh.2.1 (r - 1) _ he0) ((hK.2 1 _ rfl).1 _ (fun j => .int (rI M r j))) (fun q => by cases q) (by show ¬ (i < 0 ∨ (arrV _ _ _).slots.size ≤ _); rw [arrV_size]; exact hin) rfl rfl hd fun H1 e z oq => ?_
      rw [(zb_spec hz).1] at e
      refine kk _ H1 _ ls hl (hh.put (e := .inl (V.2.2.1 1, (tb r).2, .inl (upd (rI M r) i.toNatClampNeg v))) h (mN_wI M r _ v) (fun j hj => cel_wI hj) (cel_sI (by omega) r3) z (hh.2.1.set (wl_D V M) he0 ?_ oq) (hh.2.2.put z oq ((wl_D V M).2 (r - 1) _ he0))) res hr
      show H1[V.1 + r]? = some (vp_cell _ _)
      rw [e]
      rw [vp_cell_i, vp_cell_i, arrV_store]
      congr 2
      funext q
      by_cases hq : q = i.toNatClampNeg
      · subst hq
        simp [updV, upd]
      · simp [updV, upd, hq]
    · cases hr
  · cases hr
theorem cel_sR {V : Ev} {M : Mm} {r k i v : Nat} (hk : 2 ≤ k) (hk2 : k < 10) (h : (tb r).1 = k) : cel V (wR M r i v) r = .inl (V.2.2.1 k, (tb r).2, .inr (.inr (.inr (.inr (va_up (fun j => orf V.1 (rR M r j)) i (orf V.1 v)))))) := by
  rw [cel_ref hk hk2 h]
  congr 7
  funext t
  show orf V.1 (u2 M.2.2.2 r i v r t) = va_up (fun j => orf V.1 (rR M r j)) i (orf V.1 v) t
  unfold u2 va_up
  by_cases ht : t = i
  · rw [if_pos ⟨rfl, ht⟩, if_pos ht]
  · rw [if_neg (fun e => ht e.2), if_neg ht]
    rfl
theorem Sm.aast (hC : Cok V C own cc nL n0 ret nm) {r k kv v : Nat} {i : Int32} {f : Mm → Option α} {q9 : vw_C} (ci : Nat) (hkv : kv = 10 + ci) (hc : cls[ci]? = some q9) (hk : 2 ≤ k ∧ k < 10) (ht : (tys V)[k]? = some (V.2.2.1 k, .object q9.1)) (hd : decode cc pc = .ok (.aastore, 1)) (kk : ∀ M1, Sm V C nL n0 nc QQ (pc + 1) lv st M1 (f M1)) : Sm V C nL n0 nc QQ pc lv (rv V.1 v :: .int i :: rv V.1 r :: st) M (sR M r k i v kv f) := by
  intro H locs ls hl hh res hr
  subst hkv
  unfold sR at hr
  split at hr
  · rename_i h
    split at hr
    · rename_i hv
      split at hr
      · rename_i hi
        obtain ⟨r1, r2, r3⟩ := has_spec h
        obtain ⟨v1, v2, v3⟩ := has_spec hv
        have a1 := hC.1
        have a2 := hC.2.1
        have hK := hC.2.2.2.2.2.1.1
        have he0 := hh.get h
        rw [cel_ref hk.1 hk.2 r3] at he0
        have hev := hh.get hv
        rw [cel_obj v3] at hev
        rw [rv_pos r1, rv_pos v1]
        have hin := inb_spec hi
        have hlt : i.toNatClampNeg < (tb r).2 := Nat.not_le.mp fun q => hin (Or.inr q)
        have h0 : ¬ i < 0 := fun q => hin (Or.inl q)
        obtain ⟨r', hr', cellV, g1, g2, g3, -⟩ := hh.2.1 (v - 1) _ hev
        have hcls := (hK.1 ci q9 hc).2
        obtain ⟨kA, comp, k1, k2, k3, -⟩ := (hK.2 k _ ht).2
        have hcomp : comp = V.2.1.1 ci := Option.some.inj (k3.symm.trans hcls.1)
        subst hcomp
        obtain ⟨kC, hkC, -⟩ := hcls.2
        refine W.aast a1 a2 (hh.2.1 (r - 1) _ he0) (fun q h => by cases h) (fun h => by cases h) k1 k2 rfl hkC ⟨h0, by show _ < (arrV _ _ _).slots.size; rw [arrV_size]; exact hlt⟩ g1 (fun q h => by rw [g3] at h; cases h) (by rw [g2]; exact hkC) (by rw [g2]; exact va_assign hcls) rfl rfl hd fun H1 e z oq => ?_
        refine kk _ H1 _ ls hl (hh.put (e := .inl (V.2.2.1 k, (tb r).2, .inr (.inr (.inr (.inr (va_up (fun j => orf V.1 (rR M r j)) i.toNatClampNeg (orf V.1 v))))))) h (mN_wR M r _ v) (fun j hj => cel_wR hj) (cel_sR hk.1 hk.2 r3) z (hh.2.1.set (wl_D V M) he0 ?_ oq) (hh.2.2.put z oq ((wl_D V M).2 (r - 1) _ he0))) res hr
        show H1[V.1 + r]? = some (vp_cell _ _)
        rw [e]
        rw [vp_cell_q, vp_cell_q, arrV_store]
        congr 2
        funext q
        have e9 : orf V.1 v = some (V.1 + v) := if_neg (by omega)
        by_cases hq : q = i.toNatClampNeg
        · subst hq
          simp [updV, va_up, va_rf, e9]
        · simp [updV, va_up, hq]
      · cases hr
    · cases hr
  · cases hr
end RULES2
