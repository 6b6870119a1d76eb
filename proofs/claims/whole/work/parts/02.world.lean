/-- the cells by their numbers: what each is, and an array's length -/
def tbl : List (Nat × Nat) := [(9, 0), (20, 0), (5, 6), (3, 40), (2, 8), (16, 0), (4, 10), (15, 0), (0, 3), (0, 3), (0, 3), (15, 0), (0, 3), (0, 3), (0, 3), (15, 0), (0, 3), (0, 3), (0, 3), (15, 0), (0, 3), (0, 3), (0, 3), (15, 0), (0, 3), (0, 3), (0, 3), (15, 0), (0, 3), (0, 3), (0, 3), (15, 0), (0, 3), (0, 3), (0, 3), (15, 0), (0, 3), (0, 3), (0, 3), (15, 0), (0, 3), (0, 3), (0, 3), (15, 0), (0, 3), (0, 3), (0, 3), (11, 0), (0, 40), (0, 40), (17, 0), (0, 480), (0, 480), (3, 0), (0, 12), (0, 12), (10, 0), (0, 145), (0, 145), (18, 0), (0, 80), (14, 0), (0, 16), (0, 7), (19, 0), (0, 12), (0, 40), (0, 40), (19, 0), (0, 12), (0, 40), (0, 40), (19, 0), (0, 12), (0, 40), (0, 40), (19, 0), (0, 12), (0, 40), (0, 40), (19, 0), (0, 12), (0, 40), (0, 40), (19, 0), (0, 12), (0, 40), (0, 40), (13, 0), (0, 12), (13, 0), (0, 12), (13, 0), (0, 12), (13, 0), (0, 12), (13, 0), (0, 12), (13, 0), (0, 12), (13, 0), (0, 12), (13, 0), (0, 12), (13, 0), (0, 12), (13, 0), (0, 12), (13, 0), (0, 12), (13, 0), (0, 12), (13, 0), (0, 12), (13, 0), (0, 12), (13, 0), (0, 12), (13, 0), (0, 12), (13, 0), (0, 12), (13, 0), (0, 12), (13, 0), (0, 12), (13, 0), (0, 12), (13, 0), (0, 12), (13, 0), (0, 12), (13, 0), (0, 12), (13, 0), (0, 12), (13, 0), (0, 12), (13, 0), (0, 12), (13, 0), (0, 12), (13, 0), (0, 12), (13, 0), (0, 12), (13, 0), (0, 12), (13, 0), (0, 12), (13, 0), (0, 12), (13, 0), (0, 12), (13, 0), (0, 12), (13, 0), (0, 12), (13, 0), (0, 12), (13, 0), (0, 12), (13, 0), (0, 12), (13, 0), (0, 12), (13, 0), (0, 12), (12, 0), (0, 40), (12, 0), (0, 40), (12, 0), (0, 40), (12, 0), (0, 40), (12, 0), (0, 40), (12, 0), (0, 40), (12, 0), (0, 40), (12, 0), (0, 40), (21, 0), (0, 9), (0, 6), (0, 6), (0, 6), (0, 40), (0, 40), (0, 40), (0, 40), (0, 40), (0, 40), (0, 40), (0, 480), (0, 16), (0, 11), (0, 11), (0, 11), (0, 11), (0, 11), (0, 33), (0, 33), (0, 33), (0, 80), (0, 6), (0, 240), (0, 240), (0, 240), (0, 240), (0, 320), (0, 8), (0, 40), (0, 40), (0, 700), (0, 700), (0, 12), (0, 12), (1, 8), (0, 8), (0, 8), (1, 320), (0, 12)]
/-- the kinds of a class's fields: 0 a number, 1 a long, 2 a reference -/
def ft : Nat → List Nat := fun c => match c with
  | 0 => [2, 2, 0, 0]
  | 1 => [2, 2, 0]
  | 2 => [2, 0, 0, 0, 1]
  | 3 => [2, 0, 0, 0, 0, 0, 0, 0]
  | 4 => [2, 0]
  | 5 => [2, 2, 2, 0, 0, 0, 0, 0]
  | 6 => [2, 0]
  | 7 => [2, 2, 2, 2, 2, 1, 0, 0, 0, 0]
  | 8 => [2, 0, 0, 0]
  | 9 => [2, 2, 2, 0, 0, 0, 0]
  | 10 => [2, 2, 2, 2, 2, 2, 2, 2, 2, 2, 0, 0, 0, 0, 0, 0]
  | 11 => [0, 2, 0, 2, 2, 2, 0, 2, 2, 2, 2, 2, 2, 2, 2, 0, 2, 0, 2, 2, 2, 2, 2, 2, 2, 2, 0, 2, 0, 0, 0, 0, 2, 2, 2, 2, 2, 2, 2, 0, 2, 2, 0, 0, 2, 2, 0, 0, 0, 0, 2, 2, 2, 2, 2, 2, 0, 2]
  | _ => []
def tb (k : Nat) : Nat × Nat := tbl.getD k (9, 0)
/-- how many cells; the ints, the longs, the references (0: null, k: cell k) by cell and place -/
abbrev Mm : Type := Nat × (Nat → Nat → Int32) × (Nat → Nat → Int64) × (Nat → Nat → Nat)
def mN (M : Mm) : Nat := M.1
def rI (M : Mm) (k s : Nat) : Int32 := M.2.1 k s
def rL (M : Mm) (k s : Nat) : Int64 := M.2.2.1 k s
def rR (M : Mm) (k s : Nat) : Nat := M.2.2.2 k s
def u2 {α : Type} (f : Nat → Nat → α) (k s : Nat) (v : α) : Nat → Nat → α := fun j t => if j = k ∧ t = s then v else f j t
def wI (M : Mm) (k s : Nat) (v : Int32) : Mm := (M.1, u2 M.2.1 k s v, M.2.2)
def wL (M : Mm) (k s : Nat) (v : Int64) : Mm := (M.1, M.2.1, u2 M.2.2.1 k s v, M.2.2.2)
def wR (M : Mm) (k s : Nat) (v : Nat) : Mm := (M.1, M.2.1, M.2.2.1, u2 M.2.2.2 k s v)
def nw (M : Mm) : Mm := (M.1 + 1, (fun j t => if j = M.1 + 1 then 0 else M.2.1 j t), (fun j t => if j = M.1 + 1 then 0 else M.2.2.1 j t), (fun j t => if j = M.1 + 1 then 0 else M.2.2.2 j t))
/-- n ints of cell a, from place i on, to cell b, place j on -/
def wC (M : Mm) (a i b j n : Nat) : Mm := (M.1, (fun k t => if k = b ∧ j ≤ t ∧ t < j + n then M.2.1 a (i + (t - j)) else M.2.1 k t), M.2.2)
def has (M : Mm) (r k : Nat) : Bool := Nat.ble 1 r && (Nat.ble r (mN M) && Nat.beq (tb r).1 k)
def inb (i : Int32) (n : Nat) : Bool := decide (¬ (i < 0 ∨ n ≤ i.toNatClampNeg))
def zb (v : Int32) : Bool := decide (v = 0 ∨ v = 1)
theorem has_spec {M : Mm} {r k : Nat} (h : has M r k = true) : 1 ≤ r ∧ r ≤ mN M ∧ (tb r).1 = k := by
  simp only [has, Bool.and_eq_true, Nat.ble_eq, Nat.beq_eq] at h
  exact h
theorem inb_spec {i : Int32} {n : Nat} (h : inb i n = true) : vp_in i n := by
  unfold vp_in
  exact of_decide_eq_true h
theorem zb_spec {v : Int32} (h : zb v = true) : narrow .boolean (.int v) = .int v ∧ fits .boolean (.int v) = true := by
  have h1 := of_decide_eq_true h
  rcases h1 with rfl | rfl <;> exact ⟨rfl, rfl⟩
/-- the base of the cells, the classes' numbers and slots, the arrays' classes, the texts and their rows -/
abbrev Ev : Type := Nat × va_G × (Nat → ClassId) × (Nat → Nat) × (Nat → Nat)
def rv (B r : Nat) : Value := if r = 0 then .null else .ref (B + r)
def orf (B r : Nat) : Option Nat := if r = 0 then none else some (B + r)
theorem rf_rv (B r : Nat) : va_rf (orf B r) = rv B r := by
  unfold orf rv
  split <;> rfl
theorem rv_pos {B r : Nat} (h : 1 ≤ r) : rv B r = .ref (B + r) := if_neg (by omega)
def fv (B : Nat) (M : Mm) (k s t : Nat) : Value := match t with
  | 0 => .int (rI M k s)
  | 1 => .long (rL M k s)
  | _ => rv B (rR M k s)
def flds (B : Nat) (M : Mm) (k : Nat) : Nat → List Nat → List Value
  | _, [] => []
  | s, t :: ts => fv B M k s t :: flds B M k (s + 1) ts
theorem flds_get (B : Nat) (M : Mm) (k : Nat) : ∀ (ts : List Nat) (s j t : Nat), ts[j]? = some t → (flds B M k s ts)[j]? = some (fv B M k (s + j) t)
  | [], _, _, _, h => by simp at h
  | u :: ts, s, 0, t, h => by simp at h; simp [flds, h]
  | u :: ts, s, j + 1, t, h => by
    simp at h
    simp only [flds, List.getElem?_cons_succ]
    rw [flds_get B M k ts (s + 1) j t h]
    congr 2
    omega
theorem flds_len (B : Nat) (M : Mm) (k : Nat) : ∀ (ts : List Nat) (s : Nat), (flds B M k s ts).length = ts.length
  | [], _ => rfl
  | u :: ts, s => by simp [flds, flds_len B M k ts (s + 1)]
theorem flds_ext (B : Nat) (M M' : Mm) (k k' : Nat) : ∀ (ts : List Nat) (s : Nat), (∀ j t, fv B M' k' (s + j) t = fv B M k (s + j) t) → flds B M' k' s ts = flds B M k s ts
  | [], _, _ => rfl
  | u :: ts, s, h => by
    simp only [flds]
    rw [flds_ext B M M' k k' ts (s + 1) (fun j t => by rw [show s + 1 + j = s + (j + 1) by omega]; exact h (j + 1) t)]
    have := h 0 u
    rw [Nat.add_zero] at this
    rw [this]
theorem flds_set (B : Nat) (M M' : Mm) (k : Nat) (p : Nat) (v : Value) : ∀ (ts : List Nat) (s j : Nat), (∀ i t, i ≠ p → fv B M' k i t = fv B M k i t) → s + j = p → (∀ t, ts[j]? = some t → fv B M' k p t = v) → flds B M' k s ts = (flds B M k s ts).set j v
  | [], _, _, _, _, _ => rfl
  | u :: ts, s, 0, h, e, hv => by
    simp only [flds, List.set_cons_zero]
    have := hv u rfl
    rw [← e, Nat.add_zero] at this
    rw [this, flds_ext B M M' k k ts (s + 1) (fun j t => h _ t (by omega))]
  | u :: ts, s, j + 1, h, e, hv => by
    simp only [flds, List.set_cons_succ]
    rw [h s u (by omega), flds_set B M M' k p v ts (s + 1) j h (by omega) (fun t ht => hv t (by simpa using ht))]
def cel (V : Ev) (M : Mm) (k : Nat) : va_E :=
  if (tb k).1 < 2 then .inl (V.2.2.1 (tb k).1, (tb k).2, .inl (rI M k))
  else if (tb k).1 < 10 then .inl (V.2.2.1 (tb k).1, (tb k).2, .inr (.inr (.inr (.inr (fun i => orf V.1 (rR M k i))))))
  else .inr ((tb k).1 - 10, flds V.1 M k 0 (ft ((tb k).1 - 10)))
def wl (V : Ev) (M : Mm) : va_W := (List.range (mN M)).map (fun j => (V.1 + 1 + j, cel V M (j + 1)))
theorem wl_get {V : Ev} {M : Mm} {k : Nat} (h1 : 1 ≤ k) (h2 : k ≤ mN M) : (wl V M)[k - 1]? = some (V.1 + k, cel V M k) := by
  have h : k - 1 < mN M := by omega
  rw [wl, List.getElem?_map, List.getElem?_range h]
  simp only [Option.map_some, Option.some.injEq, Prod.mk.injEq]
  exact ⟨by omega, by rw [show k - 1 + 1 = k by omega]⟩
theorem wl_set {V : Ev} {M M' : Mm} {k : Nat} {e : va_E} (h1 : 1 ≤ k) (h2 : k ≤ mN M) (hn : mN M' = mN M) (ho : ∀ j, j ≠ k → cel V M' j = cel V M j) (he : cel V M' k = e) : (wl V M).set (k - 1) (V.1 + k, e) = wl V M' := by
  subst he
  apply List.ext_getElem?
  intro i
  by_cases hi : i < mN M
  · by_cases hk : i = k - 1
    · subst hk
      rw [List.getElem?_set_self (by simp [wl]; omega), wl_get h1 (by omega)]
    · rw [List.getElem?_set_ne (fun h => hk h.symm)]
      have a := wl_get (V := V) (M := M) (k := i + 1) (by omega) (by omega)
      have b := wl_get (V := V) (M := M') (k := i + 1) (by omega) (by omega)
      simp only [Nat.add_sub_cancel] at a b
      rw [a, b, ho (i + 1) (by omega)]
  · rw [List.getElem?_eq_none (by simp [wl]; omega), List.getElem?_eq_none (by simp [wl, hn]; omega)]
/-- what a method may change: all from the base on -/
def Af (V : Ev) : Nat → Prop := fun q => V.1 + 1 ≤ q
theorem wl_D (V : Ev) (M : Mm) : va_D (Af V) (wl V M) := by
  have key : ∀ (k : Nat) (q : Nat × va_E), (wl V M)[k]? = some q → q.1 = V.1 + 1 + k := by
    intro k q h
    rw [wl, List.getElem?_map] at h
    by_cases hk : k < mN M
    · rw [List.getElem?_range hk] at h
      simp at h
      rw [← h]
    · rw [List.getElem?_eq_none (by simp; omega)] at h
      simp at h
  refine ⟨fun i j p q hi hj h => ?_, fun k q h => ?_⟩
  · have a := key i p hi
    have b := key j q hj
    omega
  · have a := key k q h
    show V.1 + 1 ≤ q.1
    omega
theorem wl_push (V : Ev) (M M' : Mm) (hn : mN M' = mN M + 1) (ho : ∀ j, j ≤ mN M → cel V M' j = cel V M j) : wl V M' = wl V M ++ [(V.1 + 1 + mN M, cel V M' (mN M + 1))] := by
  rw [wl, hn, List.range_succ, List.map_append, List.map_singleton, wl]
  congr 1
  apply List.map_congr_left
  intro j hj
  rw [ho (j + 1) (by have := List.mem_range.mp hj; omega)]
theorem mN_wI (M : Mm) (k s : Nat) (v : Int32) : mN (wI M k s v) = mN M := rfl
theorem mN_wL (M : Mm) (k s : Nat) (v : Int64) : mN (wL M k s v) = mN M := rfl
theorem mN_wR (M : Mm) (k s : Nat) (v : Nat) : mN (wR M k s v) = mN M := rfl
theorem mN_wC (M : Mm) (a i b j n : Nat) : mN (wC M a i b j n) = mN M := rfl
theorem mN_nw (M : Mm) : mN (nw M) = mN M + 1 := rfl
theorem u2_ne {α : Type} {f : Nat → Nat → α} {k s j t : Nat} {v : α} (h : ¬ (j = k ∧ t = s)) : u2 f k s v j t = f j t := if_neg h
theorem u2_eq {α : Type} {f : Nat → Nat → α} {k s : Nat} {v : α} : u2 f k s v k s = v := if_pos ⟨rfl, rfl⟩
/-- a cell that two memories hold alike -/
theorem cel_ext {V : Ev} {M M' : Mm} {k : Nat} (h1 : ∀ s, rI M' k s = rI M k s) (h2 : ∀ s, rL M' k s = rL M k s) (h3 : ∀ s, rR M' k s = rR M k s) : cel V M' k = cel V M k := by
  have e1 : rI M' k = rI M k := funext h1
  unfold cel
  split
  · rw [e1]
  · split
    · simp only [h3]
    · rw [flds_ext V.1 M M' k k _ 0 (fun j t => by
        unfold fv
        split
        · rw [h1]
        · rw [h2]
        · rw [h3])]
