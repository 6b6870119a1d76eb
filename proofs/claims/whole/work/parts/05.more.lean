section RULES3
variable {α : Type} {V : Ev} {C : Cx} {own nm : String} {cc : ByteArray} {nL n0 nc : Nat} {ret : Option FieldType} {QQ : α → State → Prop} {pc : Nat} {lv : List (Nat × Value)} {st : List Value} {M : Mm} {X Y : Option α}
theorem Sm.iadd (hC : Cok V C own cc nL n0 ret nm) {x : Int32} {y : Int32} (hd : decode cc pc = .ok (.iadd, 1)) (k : Sm V C nL n0 nc QQ (pc + 1) lv (.int (x + y) :: st) M X) : Sm V C nL n0 nc QQ pc lv (.int y :: .int x :: st) M X := by
  intro H locs ls hl hh res hr
  have a1 := hC.1
  have a2 := hC.2.1
  exact lv_iadd a1 a2 hd (k H locs ls hl hh res hr)
theorem Sm.isub (hC : Cok V C own cc nL n0 ret nm) {x : Int32} {y : Int32} (hd : decode cc pc = .ok (.isub, 1)) (k : Sm V C nL n0 nc QQ (pc + 1) lv (.int (x - y) :: st) M X) : Sm V C nL n0 nc QQ pc lv (.int y :: .int x :: st) M X := by
  intro H locs ls hl hh res hr
  have a1 := hC.1
  have a2 := hC.2.1
  exact lv_isub a1 a2 hd (k H locs ls hl hh res hr)
theorem Sm.imul (hC : Cok V C own cc nL n0 ret nm) {x : Int32} {y : Int32} (hd : decode cc pc = .ok (.imul, 1)) (k : Sm V C nL n0 nc QQ (pc + 1) lv (.int (x * y) :: st) M X) : Sm V C nL n0 nc QQ pc lv (.int y :: .int x :: st) M X := by
  intro H locs ls hl hh res hr
  have a1 := hC.1
  have a2 := hC.2.1
  exact lv_imul a1 a2 hd (k H locs ls hl hh res hr)
theorem Sm.iand (hC : Cok V C own cc nL n0 ret nm) {x : Int32} {y : Int32} (hd : decode cc pc = .ok (.iand, 1)) (k : Sm V C nL n0 nc QQ (pc + 1) lv (.int (x &&& y) :: st) M X) : Sm V C nL n0 nc QQ pc lv (.int y :: .int x :: st) M X := by
  intro H locs ls hl hh res hr
  have a1 := hC.1
  have a2 := hC.2.1
  exact lv_iand a1 a2 hd (k H locs ls hl hh res hr)
theorem Sm.ior (hC : Cok V C own cc nL n0 ret nm) {x : Int32} {y : Int32} (hd : decode cc pc = .ok (.ior, 1)) (k : Sm V C nL n0 nc QQ (pc + 1) lv (.int (x ||| y) :: st) M X) : Sm V C nL n0 nc QQ pc lv (.int y :: .int x :: st) M X := by
  intro H locs ls hl hh res hr
  have a1 := hC.1
  have a2 := hC.2.1
  exact lv_ior a1 a2 hd (k H locs ls hl hh res hr)
theorem Sm.ishl (hC : Cok V C own cc nL n0 ret nm) {x : Int32} {y : Int32} (hd : decode cc pc = .ok (.ishl, 1)) (k : Sm V C nL n0 nc QQ (pc + 1) lv (.int (x <<< (y &&& 31)) :: st) M X) : Sm V C nL n0 nc QQ pc lv (.int y :: .int x :: st) M X := by
  intro H locs ls hl hh res hr
  have a1 := hC.1
  have a2 := hC.2.1
  exact lv_ishl a1 a2 hd (k H locs ls hl hh res hr)
theorem Sm.ishr (hC : Cok V C own cc nL n0 ret nm) {x : Int32} {y : Int32} (hd : decode cc pc = .ok (.ishr, 1)) (k : Sm V C nL n0 nc QQ (pc + 1) lv (.int (x >>> (y &&& 31)) :: st) M X) : Sm V C nL n0 nc QQ pc lv (.int y :: .int x :: st) M X := by
  intro H locs ls hl hh res hr
  have a1 := hC.1
  have a2 := hC.2.1
  exact lv_ishr a1 a2 hd (k H locs ls hl hh res hr)
theorem Sm.iushr (hC : Cok V C own cc nL n0 ret nm) {x : Int32} {y : Int32} (hd : decode cc pc = .ok (.iushr, 1)) (k : Sm V C nL n0 nc QQ (pc + 1) lv (.int ((x.toUInt32 >>> (y.toUInt32 &&& Int32.toUInt32 31)).toInt32) :: st) M X) : Sm V C nL n0 nc QQ pc lv (.int y :: .int x :: st) M X := by
  intro H locs ls hl hh res hr
  have a1 := hC.1
  have a2 := hC.2.1
  exact lv_iushr a1 a2 hd rfl (k H locs ls hl hh res hr)
theorem Sm.ladd (hC : Cok V C own cc nL n0 ret nm) {x : Int64} {y : Int64} (hd : decode cc pc = .ok (.ladd, 1)) (k : Sm V C nL n0 nc QQ (pc + 1) lv (.long (x + y) :: st) M X) : Sm V C nL n0 nc QQ pc lv (.long y :: .long x :: st) M X := by
  intro H locs ls hl hh res hr
  have a1 := hC.1
  have a2 := hC.2.1
  exact lv_ladd a1 a2 hd (k H locs ls hl hh res hr)
theorem Sm.lsub (hC : Cok V C own cc nL n0 ret nm) {x : Int64} {y : Int64} (hd : decode cc pc = .ok (.lsub, 1)) (k : Sm V C nL n0 nc QQ (pc + 1) lv (.long (x - y) :: st) M X) : Sm V C nL n0 nc QQ pc lv (.long y :: .long x :: st) M X := by
  intro H locs ls hl hh res hr
  have a1 := hC.1
  have a2 := hC.2.1
  exact lv_lsub a1 a2 hd (k H locs ls hl hh res hr)
theorem Sm.lmul (hC : Cok V C own cc nL n0 ret nm) {x : Int64} {y : Int64} (hd : decode cc pc = .ok (.lmul, 1)) (k : Sm V C nL n0 nc QQ (pc + 1) lv (.long (x * y) :: st) M X) : Sm V C nL n0 nc QQ pc lv (.long y :: .long x :: st) M X := by
  intro H locs ls hl hh res hr
  have a1 := hC.1
  have a2 := hC.2.1
  exact lv_lmul a1 a2 hd (k H locs ls hl hh res hr)
theorem Sm.land (hC : Cok V C own cc nL n0 ret nm) {x : Int64} {y : Int64} (hd : decode cc pc = .ok (.land, 1)) (k : Sm V C nL n0 nc QQ (pc + 1) lv (.long (x &&& y) :: st) M X) : Sm V C nL n0 nc QQ pc lv (.long y :: .long x :: st) M X := by
  intro H locs ls hl hh res hr
  have a1 := hC.1
  have a2 := hC.2.1
  exact lv_land a1 a2 hd (k H locs ls hl hh res hr)
theorem Sm.lor (hC : Cok V C own cc nL n0 ret nm) {x : Int64} {y : Int64} (hd : decode cc pc = .ok (.lor, 1)) (k : Sm V C nL n0 nc QQ (pc + 1) lv (.long (x ||| y) :: st) M X) : Sm V C nL n0 nc QQ pc lv (.long y :: .long x :: st) M X := by
  intro H locs ls hl hh res hr
  have a1 := hC.1
  have a2 := hC.2.1
  exact lv_lor a1 a2 hd (k H locs ls hl hh res hr)
theorem Sm.lxor (hC : Cok V C own cc nL n0 ret nm) {x : Int64} {y : Int64} (hd : decode cc pc = .ok (.lxor, 1)) (k : Sm V C nL n0 nc QQ (pc + 1) lv (.long (x ^^^ y) :: st) M X) : Sm V C nL n0 nc QQ pc lv (.long y :: .long x :: st) M X := by
  intro H locs ls hl hh res hr
  have a1 := hC.1
  have a2 := hC.2.1
  exact lv_lxor a1 a2 hd (k H locs ls hl hh res hr)
theorem Sm.lshl (hC : Cok V C own cc nL n0 ret nm) {x : Int64} {y : Int32} (hd : decode cc pc = .ok (.lshl, 1)) (k : Sm V C nL n0 nc QQ (pc + 1) lv (.long (x <<< (y.toInt64 &&& 63)) :: st) M X) : Sm V C nL n0 nc QQ pc lv (.int y :: .long x :: st) M X := by
  intro H locs ls hl hh res hr
  have a1 := hC.1
  have a2 := hC.2.1
  exact lv_lshl a1 a2 hd rfl (k H locs ls hl hh res hr)
theorem Sm.lshr (hC : Cok V C own cc nL n0 ret nm) {x : Int64} {y : Int32} (hd : decode cc pc = .ok (.lshr, 1)) (k : Sm V C nL n0 nc QQ (pc + 1) lv (.long (x >>> (y.toInt64 &&& 63)) :: st) M X) : Sm V C nL n0 nc QQ pc lv (.int y :: .long x :: st) M X := by
  intro H locs ls hl hh res hr
  have a1 := hC.1
  have a2 := hC.2.1
  exact lv_lshr a1 a2 hd rfl (k H locs ls hl hh res hr)
theorem Sm.lushr (hC : Cok V C own cc nL n0 ret nm) {x : Int64} {y : Int32} (hd : decode cc pc = .ok (.lushr, 1)) (k : Sm V C nL n0 nc QQ (pc + 1) lv (.long ((x.toUInt64 >>> (y.toInt64.toUInt64 &&& Int64.toUInt64 63)).toInt64) :: st) M X) : Sm V C nL n0 nc QQ pc lv (.int y :: .long x :: st) M X := by
  intro H locs ls hl hh res hr
  have a1 := hC.1
  have a2 := hC.2.1
  exact lv_lushr a1 a2 hd rfl (k H locs ls hl hh res hr)
theorem Sm.lcmp (hC : Cok V C own cc nL n0 ret nm) {x : Int64} {y : Int64} (hd : decode cc pc = .ok (.lcmp, 1)) (k : Sm V C nL n0 nc QQ (pc + 1) lv (.int (lg_cmp x y) :: st) M X) : Sm V C nL n0 nc QQ pc lv (.long y :: .long x :: st) M X := by
  intro H locs ls hl hh res hr
  have a1 := hC.1
  have a2 := hC.2.1
  exact W.lcmp a1 a2 hd (k H locs ls hl hh res hr)
theorem Sm.i2l (hC : Cok V C own cc nL n0 ret nm) {x : Int32} (hd : decode cc pc = .ok (.i2l, 1)) (k : Sm V C nL n0 nc QQ (pc + 1) lv (.long x.toInt64 :: st) M X) : Sm V C nL n0 nc QQ pc lv (.int x :: st) M X := by
  intro H locs ls hl hh res hr
  have a1 := hC.1
  have a2 := hC.2.1
  exact lv_i2l a1 a2 hd rfl (k H locs ls hl hh res hr)
theorem Sm.l2i (hC : Cok V C own cc nL n0 ret nm) {x : Int64} (hd : decode cc pc = .ok (.l2i, 1)) (k : Sm V C nL n0 nc QQ (pc + 1) lv (.int x.toInt32 :: st) M X) : Sm V C nL n0 nc QQ pc lv (.long x :: st) M X := by
  intro H locs ls hl hh res hr
  have a1 := hC.1
  have a2 := hC.2.1
  exact lv_l2i a1 a2 hd rfl (k H locs ls hl hh res hr)
theorem Sm.ineg (hC : Cok V C own cc nL n0 ret nm) {x : Int32} (hd : decode cc pc = .ok (.ineg, 1)) (k : Sm V C nL n0 nc QQ (pc + 1) lv (.int (-x) :: st) M X) : Sm V C nL n0 nc QQ pc lv (.int x :: st) M X := by
  intro H locs ls hl hh res hr
  have a1 := hC.1
  have a2 := hC.2.1
  exact lv_ineg a1 a2 hd (k H locs ls hl hh res hr)
theorem Sm.idiv (hC : Cok V C own cc nL n0 ret nm) {x y : Int32} (hd : decode cc pc = .ok (.idiv, 1)) (k : Sm V C nL n0 nc QQ (pc + 1) lv (.int (x / y) :: st) M X) : Sm V C nL n0 nc QQ pc lv (.int y :: .int x :: st) M (dz y X) := by
  intro H9 locs ls hl hh res hr
  have a1 := hC.1
  have a2 := hC.2.1
  unfold dz at hr
  split at hr
  · cases hr
  · rename_i h
    exact lv_idiv a1 a2 hd h (k H9 locs ls hl hh res hr)
theorem Sm.irem (hC : Cok V C own cc nL n0 ret nm) {x y : Int32} (hd : decode cc pc = .ok (.irem, 1)) (k : Sm V C nL n0 nc QQ (pc + 1) lv (.int (x - x / y * y) :: st) M X) : Sm V C nL n0 nc QQ pc lv (.int y :: .int x :: st) M (dz y X) := by
  intro H9 locs ls hl hh res hr
  have a1 := hC.1
  have a2 := hC.2.1
  unfold dz at hr
  split at hr
  · cases hr
  · rename_i h
    exact lv_irem a1 a2 hd h (k H9 locs ls hl hh res hr)
theorem cat_rv (B r : Nat) : (rv B r).category = 1 := by
  unfold rv
  split <;> rfl
theorem Sm.dup (hC : Cok V C own cc nL n0 ret nm) {v : Value} (hd : decode cc pc = .ok (.dup, 1)) (hv : v.category = 1) (k : Sm V C nL n0 nc QQ (pc + 1) lv (v :: v :: st) M X) : Sm V C nL n0 nc QQ pc lv (v :: st) M X := by
  intro H locs ls hl hh res hr
  have a1 := hC.1
  have a2 := hC.2.1
  exact lv_dup a1 a2 hd hv (k H locs ls hl hh res hr)
theorem Sm.pop (hC : Cok V C own cc nL n0 ret nm) {v : Value} (hd : decode cc pc = .ok (.pop, 1)) (hv : v.category = 1) (k : Sm V C nL n0 nc QQ (pc + 1) lv st M X) : Sm V C nL n0 nc QQ pc lv (v :: st) M X := by
  intro H locs ls hl hh res hr
  have a1 := hC.1
  have a2 := hC.2.1
  exact lv_pop a1 a2 hd hv (k H locs ls hl hh res hr)
theorem Sm.dup2 (hC : Cok V C own cc nL n0 ret nm) {v w : Value} (hd : decode cc pc = .ok (.dup2, 1)) (hv : v.category = 1) (hw : w.category = 1) (k : Sm V C nL n0 nc QQ (pc + 1) lv (v :: w :: v :: w :: st) M X) : Sm V C nL n0 nc QQ pc lv (v :: w :: st) M X := by
  intro H locs ls hl hh res hr
  have a1 := hC.1
  have a2 := hC.2.1
  exact lv_dup2_11 a1 a2 hd hv hw (k H locs ls hl hh res hr)
theorem Sm.dup_x1 (hC : Cok V C own cc nL n0 ret nm) {v w : Value} (hd : decode cc pc = .ok (.dup_x1, 1)) (hv : v.category = 1) (hw : w.category = 1) (k : Sm V C nL n0 nc QQ (pc + 1) lv (v :: w :: v :: st) M X) : Sm V C nL n0 nc QQ pc lv (v :: w :: st) M X := by
  intro H locs ls hl hh res hr
  have a1 := hC.1
  have a2 := hC.2.1
  exact lv_dup_x1 a1 a2 hd hv hw (k H locs ls hl hh res hr)
theorem Sm.if_eq (hC : Cok V C own cc nL n0 ret nm) {x : Int32} {off : Int} {tgt : Nat} (hd : decode cc pc = .ok (.ifCond .eq off, 3)) (ht : (pc : Int) + off = (tgt : Int)) (kt : Sm V C nL n0 nc QQ tgt lv st M X) (kf : Sm V C nL n0 nc QQ (pc + 3) lv st M Y) : Sm V C nL n0 nc QQ pc lv (.int x :: st) M (if x = 0 then X else Y) := by
  intro H locs ls hl hh res hr
  have a1 := hC.1
  have a2 := hC.2.1
  refine lv_if_eq a1 a2 hd ht (fun h => ?_) (fun h => ?_)
  · exact kt H locs ls hl hh res (by
      first
        | (rw [if_pos h] at hr; exact hr)
        | (rw [if_pos (by first | exact h | (simpa using h))] at hr; exact hr))
  · exact kf H locs ls hl hh res (by
      first
        | (rw [if_neg h] at hr; exact hr)
        | (rw [if_neg (by first | exact h | (simpa using h))] at hr; exact hr))
theorem Sm.icmp_eq (hC : Cok V C own cc nL n0 ret nm) {x y : Int32} {off : Int} {tgt : Nat} (hd : decode cc pc = .ok (.if_icmp .eq off, 3)) (ht : (pc : Int) + off = (tgt : Int)) (kt : Sm V C nL n0 nc QQ tgt lv st M X) (kf : Sm V C nL n0 nc QQ (pc + 3) lv st M Y) : Sm V C nL n0 nc QQ pc lv (.int y :: .int x :: st) M (if x = y then X else Y) := by
  intro H locs ls hl hh res hr
  have a1 := hC.1
  have a2 := hC.2.1
  refine lv_icmp_eq a1 a2 hd ht (fun h => ?_) (fun h => ?_)
  · exact kt H locs ls hl hh res (by
      first
        | (rw [if_pos h] at hr; exact hr)
        | (rw [if_pos (by first | exact h | (simpa using h))] at hr; exact hr))
  · exact kf H locs ls hl hh res (by
      first
        | (rw [if_neg h] at hr; exact hr)
        | (rw [if_neg (by first | exact h | (simpa using h))] at hr; exact hr))
theorem Sm.if_ne (hC : Cok V C own cc nL n0 ret nm) {x : Int32} {off : Int} {tgt : Nat} (hd : decode cc pc = .ok (.ifCond .ne off, 3)) (ht : (pc : Int) + off = (tgt : Int)) (kt : Sm V C nL n0 nc QQ tgt lv st M X) (kf : Sm V C nL n0 nc QQ (pc + 3) lv st M Y) : Sm V C nL n0 nc QQ pc lv (.int x :: st) M (if ¬ x = 0 then X else Y) := by
  intro H locs ls hl hh res hr
  have a1 := hC.1
  have a2 := hC.2.1
  refine lv_if_ne a1 a2 hd ht (fun h => ?_) (fun h => ?_)
  · exact kt H locs ls hl hh res (by
      first
        | (rw [if_pos h] at hr; exact hr)
        | (rw [if_pos (by first | exact h | (simpa using h))] at hr; exact hr))
  · exact kf H locs ls hl hh res (by
      first
        | (rw [if_neg h] at hr; exact hr)
        | (rw [if_neg (by first | exact h | (simpa using h))] at hr; exact hr))
theorem Sm.icmp_ne (hC : Cok V C own cc nL n0 ret nm) {x y : Int32} {off : Int} {tgt : Nat} (hd : decode cc pc = .ok (.if_icmp .ne off, 3)) (ht : (pc : Int) + off = (tgt : Int)) (kt : Sm V C nL n0 nc QQ tgt lv st M X) (kf : Sm V C nL n0 nc QQ (pc + 3) lv st M Y) : Sm V C nL n0 nc QQ pc lv (.int y :: .int x :: st) M (if ¬ x = y then X else Y) := by
  intro H locs ls hl hh res hr
  have a1 := hC.1
  have a2 := hC.2.1
  refine lv_icmp_ne a1 a2 hd ht (fun h => ?_) (fun h => ?_)
  · exact kt H locs ls hl hh res (by
      first
        | (rw [if_pos h] at hr; exact hr)
        | (rw [if_pos (by first | exact h | (simpa using h))] at hr; exact hr))
  · exact kf H locs ls hl hh res (by
      first
        | (rw [if_neg h] at hr; exact hr)
        | (rw [if_neg (by first | exact h | (simpa using h))] at hr; exact hr))
theorem Sm.if_lt (hC : Cok V C own cc nL n0 ret nm) {x : Int32} {off : Int} {tgt : Nat} (hd : decode cc pc = .ok (.ifCond .lt off, 3)) (ht : (pc : Int) + off = (tgt : Int)) (kt : Sm V C nL n0 nc QQ tgt lv st M X) (kf : Sm V C nL n0 nc QQ (pc + 3) lv st M Y) : Sm V C nL n0 nc QQ pc lv (.int x :: st) M (if x < 0 then X else Y) := by
  intro H locs ls hl hh res hr
  have a1 := hC.1
  have a2 := hC.2.1
  refine lv_if_lt a1 a2 hd ht (fun h => ?_) (fun h => ?_)
  · exact kt H locs ls hl hh res (by
      first
        | (rw [if_pos h] at hr; exact hr)
        | (rw [if_pos (by first | exact h | (simpa using h))] at hr; exact hr))
  · exact kf H locs ls hl hh res (by
      first
        | (rw [if_neg h] at hr; exact hr)
        | (rw [if_neg (by first | exact h | (simpa using h))] at hr; exact hr))
theorem Sm.icmp_lt (hC : Cok V C own cc nL n0 ret nm) {x y : Int32} {off : Int} {tgt : Nat} (hd : decode cc pc = .ok (.if_icmp .lt off, 3)) (ht : (pc : Int) + off = (tgt : Int)) (kt : Sm V C nL n0 nc QQ tgt lv st M X) (kf : Sm V C nL n0 nc QQ (pc + 3) lv st M Y) : Sm V C nL n0 nc QQ pc lv (.int y :: .int x :: st) M (if x < y then X else Y) := by
  intro H locs ls hl hh res hr
  have a1 := hC.1
  have a2 := hC.2.1
  refine lv_icmp_lt a1 a2 hd ht (fun h => ?_) (fun h => ?_)
  · exact kt H locs ls hl hh res (by
      first
        | (rw [if_pos h] at hr; exact hr)
        | (rw [if_pos (by first | exact h | (simpa using h))] at hr; exact hr))
  · exact kf H locs ls hl hh res (by
      first
        | (rw [if_neg h] at hr; exact hr)
        | (rw [if_neg (by first | exact h | (simpa using h))] at hr; exact hr))
theorem Sm.if_ge (hC : Cok V C own cc nL n0 ret nm) {x : Int32} {off : Int} {tgt : Nat} (hd : decode cc pc = .ok (.ifCond .ge off, 3)) (ht : (pc : Int) + off = (tgt : Int)) (kt : Sm V C nL n0 nc QQ tgt lv st M X) (kf : Sm V C nL n0 nc QQ (pc + 3) lv st M Y) : Sm V C nL n0 nc QQ pc lv (.int x :: st) M (if 0 ≤ x then X else Y) := by
  intro H locs ls hl hh res hr
  have a1 := hC.1
  have a2 := hC.2.1
  refine lv_if_ge a1 a2 hd ht (fun h => ?_) (fun h => ?_)
  · exact kt H locs ls hl hh res (by
      first
        | (rw [if_pos h] at hr; exact hr)
        | (rw [if_pos (by first | exact h | (simpa using h))] at hr; exact hr))
  · exact kf H locs ls hl hh res (by
      first
        | (rw [if_neg h] at hr; exact hr)
        | (rw [if_neg (by first | exact h | (simpa using h))] at hr; exact hr))
theorem Sm.icmp_ge (hC : Cok V C own cc nL n0 ret nm) {x y : Int32} {off : Int} {tgt : Nat} (hd : decode cc pc = .ok (.if_icmp .ge off, 3)) (ht : (pc : Int) + off = (tgt : Int)) (kt : Sm V C nL n0 nc QQ tgt lv st M X) (kf : Sm V C nL n0 nc QQ (pc + 3) lv st M Y) : Sm V C nL n0 nc QQ pc lv (.int y :: .int x :: st) M (if y ≤ x then X else Y) := by
  intro H locs ls hl hh res hr
  have a1 := hC.1
  have a2 := hC.2.1
  refine lv_icmp_ge a1 a2 hd ht (fun h => ?_) (fun h => ?_)
  · exact kt H locs ls hl hh res (by
      first
        | (rw [if_pos h] at hr; exact hr)
        | (rw [if_pos (by first | exact h | (simpa using h))] at hr; exact hr))
  · exact kf H locs ls hl hh res (by
      first
        | (rw [if_neg h] at hr; exact hr)
        | (rw [if_neg (by first | exact h | (simpa using h))] at hr; exact hr))
theorem Sm.if_gt (hC : Cok V C own cc nL n0 ret nm) {x : Int32} {off : Int} {tgt : Nat} (hd : decode cc pc = .ok (.ifCond .gt off, 3)) (ht : (pc : Int) + off = (tgt : Int)) (kt : Sm V C nL n0 nc QQ tgt lv st M X) (kf : Sm V C nL n0 nc QQ (pc + 3) lv st M Y) : Sm V C nL n0 nc QQ pc lv (.int x :: st) M (if 0 < x then X else Y) := by
  intro H locs ls hl hh res hr
  have a1 := hC.1
  have a2 := hC.2.1
  refine lv_if_gt a1 a2 hd ht (fun h => ?_) (fun h => ?_)
  · exact kt H locs ls hl hh res (by
      first
        | (rw [if_pos h] at hr; exact hr)
        | (rw [if_pos (by first | exact h | (simpa using h))] at hr; exact hr))
  · exact kf H locs ls hl hh res (by
      first
        | (rw [if_neg h] at hr; exact hr)
        | (rw [if_neg (by first | exact h | (simpa using h))] at hr; exact hr))
theorem Sm.icmp_gt (hC : Cok V C own cc nL n0 ret nm) {x y : Int32} {off : Int} {tgt : Nat} (hd : decode cc pc = .ok (.if_icmp .gt off, 3)) (ht : (pc : Int) + off = (tgt : Int)) (kt : Sm V C nL n0 nc QQ tgt lv st M X) (kf : Sm V C nL n0 nc QQ (pc + 3) lv st M Y) : Sm V C nL n0 nc QQ pc lv (.int y :: .int x :: st) M (if y < x then X else Y) := by
  intro H locs ls hl hh res hr
  have a1 := hC.1
  have a2 := hC.2.1
  refine lv_icmp_gt a1 a2 hd ht (fun h => ?_) (fun h => ?_)
  · exact kt H locs ls hl hh res (by
      first
        | (rw [if_pos h] at hr; exact hr)
        | (rw [if_pos (by first | exact h | (simpa using h))] at hr; exact hr))
  · exact kf H locs ls hl hh res (by
      first
        | (rw [if_neg h] at hr; exact hr)
        | (rw [if_neg (by first | exact h | (simpa using h))] at hr; exact hr))
theorem Sm.if_le (hC : Cok V C own cc nL n0 ret nm) {x : Int32} {off : Int} {tgt : Nat} (hd : decode cc pc = .ok (.ifCond .le off, 3)) (ht : (pc : Int) + off = (tgt : Int)) (kt : Sm V C nL n0 nc QQ tgt lv st M X) (kf : Sm V C nL n0 nc QQ (pc + 3) lv st M Y) : Sm V C nL n0 nc QQ pc lv (.int x :: st) M (if x ≤ 0 then X else Y) := by
  intro H locs ls hl hh res hr
  have a1 := hC.1
  have a2 := hC.2.1
  refine lv_if_le a1 a2 hd ht (fun h => ?_) (fun h => ?_)
  · exact kt H locs ls hl hh res (by
      first
        | (rw [if_pos h] at hr; exact hr)
        | (rw [if_pos (by first | exact h | (simpa using h))] at hr; exact hr))
  · exact kf H locs ls hl hh res (by
      first
        | (rw [if_neg h] at hr; exact hr)
        | (rw [if_neg (by first | exact h | (simpa using h))] at hr; exact hr))
theorem Sm.icmp_le (hC : Cok V C own cc nL n0 ret nm) {x y : Int32} {off : Int} {tgt : Nat} (hd : decode cc pc = .ok (.if_icmp .le off, 3)) (ht : (pc : Int) + off = (tgt : Int)) (kt : Sm V C nL n0 nc QQ tgt lv st M X) (kf : Sm V C nL n0 nc QQ (pc + 3) lv st M Y) : Sm V C nL n0 nc QQ pc lv (.int y :: .int x :: st) M (if x ≤ y then X else Y) := by
  intro H locs ls hl hh res hr
  have a1 := hC.1
  have a2 := hC.2.1
  refine lv_icmp_le a1 a2 hd ht (fun h => ?_) (fun h => ?_)
  · exact kt H locs ls hl hh res (by
      first
        | (rw [if_pos h] at hr; exact hr)
        | (rw [if_pos (by first | exact h | (simpa using h))] at hr; exact hr))
  · exact kf H locs ls hl hh res (by
      first
        | (rw [if_neg h] at hr; exact hr)
        | (rw [if_neg (by first | exact h | (simpa using h))] at hr; exact hr))
theorem Sm.goto (hC : Cok V C own cc nL n0 ret nm) {off : Int} {tgt : Nat} (hd : decode cc pc = .ok (.goto off, 3)) (ht : (pc : Int) + off = (tgt : Int)) (k : Sm V C nL n0 nc QQ tgt lv st M X) : Sm V C nL n0 nc QQ pc lv st M X := by
  intro H locs ls hl hh res hr
  have a1 := hC.1
  have a2 := hC.2.1
  exact lv_goto a1 a2 hd ht (k H locs ls hl hh res hr)
theorem Sm.tswIn (hC : Cok V C own cc nL n0 ret nm) {dflt lo hi off : Int} {offs : Array Int} {len tgt : Nat} {x : Int32} (hd : decode cc pc = .ok (.tableswitch dflt lo hi offs, len)) (h1 : ¬ x.toInt < lo) (h2 : ¬ hi < x.toInt) (ho : offs[(x.toInt - lo).toNat]? = some off) (ht : (pc : Int) + off = (tgt : Int)) (k : Sm V C nL n0 nc QQ tgt lv st M X) : Sm V C nL n0 nc QQ pc lv (.int x :: st) M X := by
  intro H locs ls hl hh res hr
  have a1 := hC.1
  have a2 := hC.2.1
  exact lv_tableIn a1 a2 hd h1 h2 ho ht (k H locs ls hl hh res hr)
theorem Sm.tswOut (hC : Cok V C own cc nL n0 ret nm) {dflt lo hi : Int} {offs : Array Int} {len tgt : Nat} {x : Int32} (hd : decode cc pc = .ok (.tableswitch dflt lo hi offs, len)) (h : x.toInt < lo ∨ hi < x.toInt) (ht : (pc : Int) + dflt = (tgt : Int)) (k : Sm V C nL n0 nc QQ tgt lv st M X) : Sm V C nL n0 nc QQ pc lv (.int x :: st) M X := by
  intro H locs ls hl hh res hr
  have a1 := hC.1
  have a2 := hC.2.1
  exact lv_tableOut a1 a2 hd h ht (k H locs ls hl hh res hr)
theorem out_of {x : Int32} {n : Nat} (hn : n < 1000) (h : ∀ i, i < n → ¬ x = Int32.ofNat i) : x.toInt < 0 ∨ (n : Int) - 1 < x.toInt := by
  by_cases h0 : x < 0
  · exact Or.inl (Int32.lt_iff_toInt_lt.mp h0)
  · obtain ⟨j, hj, rfl⟩ := nI_of h0
    refine Or.inr ?_
    rw [nI_toInt hj]
    have : ¬ j < n := fun q => h j q rfl
    omega
theorem Sm.lsw (hC : Cok V C own cc nL n0 ret nm) {dflt off : Int} {ps : Array (Int × Int)} {len tgt : Nat} {x : Int32} (hd : decode cc pc = .ok (.lookupswitch dflt ps, len)) (hp : (ps.toList.zip (ps.toList.drop 1)).all (fun (a, next) => a.1 < next.1) = true) (ho : Op.lookupswitch.offset ps.toList dflt x.toInt = off) (ht : (pc : Int) + off = (tgt : Int)) (k : Sm V C nL n0 nc QQ tgt lv st M X) : Sm V C nL n0 nc QQ pc lv (.int x :: st) M X := by
  intro H locs ls hl hh res hr
  have a1 := hC.1
  have a2 := hC.2.1
  exact lv_lookup a1 a2 hd hp ho ht (k H locs ls hl hh res hr)
theorem Sm.if_ {P : Prop} [Decidable P] (kt : P → Sm V C nL n0 nc QQ pc lv st M X) (kf : ¬ P → Sm V C nL n0 nc QQ pc lv st M Y) : Sm V C nL n0 nc QQ pc lv st M (if P then X else Y) := by
  by_cases h : P
  · rw [if_pos h]; exact kt h
  · rw [if_neg h]; exact kf h
/-! returns -/
theorem QCof {r : Option Value} {mc : Nat} {H : Heap} {locs : List Loc} (hC : Cok V C own cc nL n0 ret nm) (hh : Hd V C nc M H locs) (hn : nc = n0 + mc) {t : State} (ht : t.heap = H) (hW : (cS C).WarmedH t.vm) : QC V r M mc (cA C) (cS C) (.returned r) t :=
  ⟨rfl, hh.wd hC.2.2.2.2.2.1 ht hW, hh.2.2.F ht, by rw [ht, hh.1.1, hC.2.2.2.2.2.2.1, hn]; omega⟩
theorem Sm.iret {mc ms : Nat} (hC : Cok V C own cc nL n0 (some .int) nm) {x : Int32} (hd : decode cc pc = .ok (.ireturn, 1)) (hm : nc = n0 + mc) (hs : Sz nc - Sz n0 = ms) : Sm V C nL n0 nc (fun res : Int32 × Mm => MQ (cB C) (QC V (some (.int res.1)) res.2 mc) (cA C) (cS C) mc ms (Af V)) pc lv [.int x] M (some (x, M)) := by
  intro H locs ls hl hh res hr
  have a1 := hC.1
  have a2 := hC.2.1
  have a3 := hC.2.2.2.2.2.2.2.1
  have a4 := hC.2.2.2.2.2.2.2.2.1
  cases hr
  rw [hs, show nc - n0 = mc by omega]
  exact W.iret a1 a2 a3 (fun t ht hW => QCof hC hh hm ht hW) hh.2.2.2.2 hd a4
theorem Sm.zret {mc ms : Nat} (hC : Cok V C own cc nL n0 (some .boolean) nm) {x : Int32} (hd : decode cc pc = .ok (.ireturn, 1)) (hm : nc = n0 + mc) (hs : Sz nc - Sz n0 = ms) : Sm V C nL n0 nc (fun res : Int32 × Mm => MQ (cB C) (QC V (some (.int res.1)) res.2 mc) (cA C) (cS C) mc ms (Af V)) pc lv [.int x] M (rz x (some (x, M))) := by
  intro H locs ls hl hh res hr
  have a1 := hC.1
  have a2 := hC.2.1
  have a3 := hC.2.2.2.2.2.2.2.1
  have a4 := hC.2.2.2.2.2.2.2.2.1
  unfold rz at hr
  split at hr
  · rename_i hz
    cases hr
    rw [hs, show nc - n0 = mc by omega]
    exact W.zret a1 a2 a3 (zb_spec hz).1 (fun t ht hW => QCof hC hh hm ht hW) hh.2.2.2.2 hd a4
  · cases hr
theorem Sm.lret {mc ms : Nat} (hC : Cok V C own cc nL n0 (some .long) nm) {x : Int64} (hd : decode cc pc = .ok (.lreturn, 1)) (hm : nc = n0 + mc) (hs : Sz nc - Sz n0 = ms) : Sm V C nL n0 nc (fun res : Int64 × Mm => MQ (cB C) (QC V (some (.long res.1)) res.2 mc) (cA C) (cS C) mc ms (Af V)) pc lv [.long x] M (some (x, M)) := by
  intro H locs ls hl hh res hr
  have a1 := hC.1
  have a2 := hC.2.1
  have a3 := hC.2.2.2.2.2.2.2.1
  have a4 := hC.2.2.2.2.2.2.2.2.1
  cases hr
  rw [hs, show nc - n0 = mc by omega]
  exact W.lret a1 a2 a3 (fun t ht hW => QCof hC hh hm ht hW) hh.2.2.2.2 hd a4
theorem Sm.vret {mc ms : Nat} (hC : Cok V C own cc nL n0 none nm) (hd : decode cc pc = .ok (.return_, 1)) (hm : nc = n0 + mc) (hs : Sz nc - Sz n0 = ms) : Sm V C nL n0 nc (fun res : Unit × Mm => MQ (cB C) (QC V none res.2 mc) (cA C) (cS C) mc ms (Af V)) pc lv [] M (some ((), M)) := by
  intro H locs ls hl hh res hr
  have a1 := hC.1
  have a2 := hC.2.1
  have a3 := hC.2.2.2.2.2.2.2.1
  have a4 := hC.2.2.2.2.2.2.2.2.1
  cases hr
  rw [hs, show nc - n0 = mc by omega]
  exact W.vret a1 a2 a3 (fun t ht hW => QCof hC hh hm ht hW) hh.2.2.2.2 hd a4
/-! calls -/
theorem tw_pay {args : Array Value} {s : State} (hts : ∀ w ∈ TW, w.before args s = true) {cd : Cond} (hcd : cd ∈ TW) : ∀ w ∈ cd :: TW, ∀ (a' : Array Value) (U : State), s.WarmedH U.vm → w.before a' U = true := by
  intro w hw a' U hW
  have hm : w ∈ TW := by
    rcases List.mem_cons.mp hw with rfl | h
    · exact hcd
    · exact h
  exact word_at hW (good_of_word (tw_good w hm).2) (hts w hm)
theorem Zs.same {u U : State} (hv : u.vm = U.vm) (hh : u.heap = U.heap) (h : Zs V u) : Zs V U := by
  obtain ⟨h1, h2, h3, h4, h5, h6⟩ := h
  have ha : u.vm.Alike U.vm := by rw [hv]; exact Vm.Alike.refl _
  refine ⟨fun w hw => ?_, fun n hn => va_AO.moved ha (h2 n hn), fun i q hq => vk_R.same hv.symm (h3 i q hq), by rw [← hh]; exact vk_S.moved ha h4, by rw [← hh]; exact va_Z.moved ha h5, by rw [← hh]; exact va_Zq.warm ha (fun _ _ _ => rfl) h6⟩
  obtain ⟨a, i, x, h, rfl⟩ := nzw_nest w hw
  exact va_Nw.same rfl hv (h1 _ hw)
theorem blind_of {argv : List Value} : FrameBlind (va_Pc argv (Wd V M)) := by
  intro a U g mk q
  obtain ⟨h1, h2, h3, h4, h5⟩ := q
  exact ⟨h1, h2, h3, va_K.moved (u := U) (U := U.calling g mk a) (Vm.Alike.refl U.vm) h4, Zs.same (u := U) (U := U.calling g mk a) rfl rfl h5⟩
/-- behind a call -/
theorem Sm.behind {β : Type} {ev : β → Option Value} {mc ms : Nat} {Y : Option (β × Mm)} {K : β → Mm → Option α} {st0 : List Value} {free : Addr → Prop} (hC : Cok V C own cc nL n0 ret nm) (hfr : free = Af V) (hn0 : n0 ≤ nc) (hsz : Sz (nc + mc) - Sz n0 = Sz nc - Sz n0 + ms)
    (hr : ∀ (H : Heap) (locs : List Loc) (ls : Array Slot) (r : β) (M1 : Mm), lv_has ls nL lv → Hd V C nc M H locs → Y = some (r, M1) → ∃ a : Array Value, va_Run C.1 (cL C) C.2.2.1 (cR C) (cS C) (cM C) (cA C) (cB C) (cMe C) (cC C) H locs (nc - n0) (Sz nc - Sz n0) mc ms (F0 (cM C) pc ls st0) st (QC V (ev r) M1 mc a) free)
    (kk : ∀ r M1, Sm V C nL n0 (nc + mc) QQ (pc + 3) lv ((ev r).toList ++ st) M1 (K r M1)) : Sm V C nL n0 nc QQ pc lv st0 M (Y.bind (fun p => K p.1 p.2)) := by
  intro H locs ls hl hh res hres
  subst hfr
  cases hY : Y with
  | none => rw [hY] at hres; cases hres
  | some p9 =>
    obtain ⟨r, M1⟩ := p9
    rw [hY] at hres
    obtain ⟨a, hrun⟩ := hr H locs ls r M1 hl hh hY
    intro T hT X9
    obtain ⟨v, st₀, t, T', L, h0, X', hL, e1, e2, ⟨hv, hw, hF, hz⟩, stp⟩ := hrun T hT X9
    cases hv
    obtain ⟨w1, w2, w3⟩ := hw
    rw [h0] at hz
    have hN : mN M1 = nc + mc := by
      have h9 := hh.1.1
      omega
    have hd2 : Hd V C (nc + mc) M1 T'.heap (locs ++ L) := by
      refine ⟨⟨by rw [e1, hz, hh.1.1]; omega, hN⟩, by rw [e1]; exact w2, ?_, ?_, ?_⟩
      · exact Nat.le_trans hh.2.2.1 (by rw [e1, hz]; omega)
      · intro q h1 h2
        have h3 : q < H.size := Nat.lt_of_lt_of_le h1 hh.2.2.1
        have h5 := hF.2 q (by rw [h0]; exact h3) h2
        rw [e1, h5, h0]
        exact hh.2.2.2.1 q h1 h2
      · intro q hq
        rcases List.mem_append.mp hq with h | h
        · exact hh.2.2.2.2 q h
        · exact hL q h
    have k1 := kk r M1 T'.heap (locs ++ L) ls hl hd2 res hres
    rw [hsz, show nc + mc - n0 = nc - n0 + mc by omega] at k1
    obtain ⟨t2, b1, b2⟩ := k1 T' rfl X'
    exact ⟨t2, stp t2 b1, b2⟩

end RULES3
