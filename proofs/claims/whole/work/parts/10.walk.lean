/-! NewsWire$Choice.clear()V -/
theorem fl_m0_11 : FL "NewsWire$Choice" 11 0 0 2 true (.array .int) := ⟨_, _, _, _, rfl, in_c0, ty_c0, nm_c0, by decide, rfl, tw_i 208 (by decide +kernel), rfl, rfl, rfl, rfl⟩
theorem fl_m0_15 : FL "NewsWire$Choice" 15 0 1 2 true (.array .int) := ⟨_, _, _, _, rfl, in_c0, ty_c0, nm_c0, by decide, rfl, tw_i 209 (by decide +kernel), rfl, rfl, rfl, rfl⟩
abbrev b_m0_clear : ByteArray := prog_2_method_2_code
def y_m0_clear : MethodName := ⟨"NewsWire$Choice", "clear", "()V"⟩
def rm_m0_clear : Room := { frames := 1, cells := 0, slots := 0, locals := 60 }
theorem cw_m0_clear : CW y_m0_clear b_m0_clear 2 none 0 := ⟨tw_i 60 (by decide +kernel), tw_i 815 (by decide +kernel), by decide, by decide, by decide +kernel⟩
theorem d_m0_clear_0 : decode b_m0_clear 0 = .ok (.iconst 0, 1) := by decide +kernel
theorem d_m0_clear_1 : decode b_m0_clear 1 = .ok (.istore_n 1, 1) := by decide +kernel
theorem d_m0_clear_2 : decode b_m0_clear 2 = .ok (.iload_n 1, 1) := by decide +kernel
theorem d_m0_clear_3 : decode b_m0_clear 3 = .ok (.sipush 144, 3) := by decide +kernel
theorem d_m0_clear_6 : decode b_m0_clear 6 = .ok (.if_icmp .gt 23, 3) := by decide +kernel
theorem d_m0_clear_9 : decode b_m0_clear 9 = .ok (.aload_n 0, 1) := by decide +kernel
theorem d_m0_clear_10 : decode b_m0_clear 10 = .ok (.getfield 11, 3) := by decide +kernel
theorem d_m0_clear_13 : decode b_m0_clear 13 = .ok (.iload_n 1, 1) := by decide +kernel
theorem d_m0_clear_14 : decode b_m0_clear 14 = .ok (.iconst (-1), 1) := by decide +kernel
theorem d_m0_clear_15 : decode b_m0_clear 15 = .ok (.iastore, 1) := by decide +kernel
theorem d_m0_clear_16 : decode b_m0_clear 16 = .ok (.aload_n 0, 1) := by decide +kernel
theorem d_m0_clear_17 : decode b_m0_clear 17 = .ok (.getfield 15, 3) := by decide +kernel
theorem d_m0_clear_20 : decode b_m0_clear 20 = .ok (.iload_n 1, 1) := by decide +kernel
theorem d_m0_clear_21 : decode b_m0_clear 21 = .ok (.iconst 0, 1) := by decide +kernel
theorem d_m0_clear_22 : decode b_m0_clear 22 = .ok (.iastore, 1) := by decide +kernel
theorem d_m0_clear_23 : decode b_m0_clear 23 = .ok (.iinc 1 1, 3) := by decide +kernel
theorem d_m0_clear_26 : decode b_m0_clear 26 = .ok (.goto (-24), 3) := by decide +kernel
theorem d_m0_clear_29 : decode b_m0_clear 29 = .ok (.aload_n 0, 1) := by decide +kernel
theorem d_m0_clear_30 : decode b_m0_clear 30 = .ok (.getfield 11, 3) := by decide +kernel
theorem d_m0_clear_33 : decode b_m0_clear 33 = .ok (.iconst 0, 1) := by decide +kernel
theorem d_m0_clear_34 : decode b_m0_clear 34 = .ok (.iconst 0, 1) := by decide +kernel
theorem d_m0_clear_35 : decode b_m0_clear 35 = .ok (.iastore, 1) := by decide +kernel
theorem d_m0_clear_36 : decode b_m0_clear 36 = .ok (.return_, 1) := by decide +kernel
def s_m0_clear_2  : Nat → Nat → Int32 → Mm → Option (Unit × Mm)
  | 0, _, _, _ => none
  | n + 1, r0, x1, M => (if (144 : Int32) < x1 then gR M r0 10 0 (fun v1 => sI M v1 0 (0 : Int32) (0 : Int32) (fun M2 => some ((), M2))) else gR M r0 10 0 (fun v3 => sI M v3 0 x1 (-1 : Int32) (fun M4 => gR M4 r0 10 1 (fun v5 => sI M4 v5 0 x1 (0 : Int32) (fun M6 => (s_m0_clear_2 n) r0 (x1 + 1) M6)))))
def s_m0_clear (r0 : Nat) (M : Mm) : Option (Unit × Mm) := s_m0_clear_2 FU r0 (0 : Int32) M
set_option maxRecDepth 100000 in
set_option maxHeartbeats 4000000 in
theorem w_m0_clear_2 {V : Ev} {C : Cx} {n0 : Nat} (hC : Cok V C y_m0_clear.cls b_m0_clear 2 n0 none y_m0_clear.name) (hR : cR C = rm_m0_clear)  : ∀ (n : Nat) (r0 : Nat) (x1 : Int32) (M : Mm), Sm V C 2 n0 n0 (qV V C) 2 [(0, rv V.1 r0), (1, .int x1)] [] M (s_m0_clear_2 n r0 x1 M) := by
  intro n
  induction n with
  | zero => exact fun r0 x1 M => Sm.none_
  | succ n ih =>
    intro r0 x1 M
    unfold s_m0_clear_2
    refine Sm.iload_n hC d_m0_clear_2 rfl 1 rfl ?_
    refine Sm.sipush (v := 144) hC d_m0_clear_3 (by decide) ?_
    refine Sm.icmp_gt (tgt := 29) hC d_m0_clear_6 (by decide) ?_ ?_
    · refine Sm.aload_n hC d_m0_clear_29 rfl 0 rfl ?_
      refine Sm.getR hC fl_m0_11 rfl d_m0_clear_30 (fun v1 => ?_)
      refine Sm.iconst (v := 0) hC d_m0_clear_33 (by decide) ?_
      refine Sm.iconst (v := 0) hC d_m0_clear_34 (by decide) ?_
      refine Sm.iast hC d_m0_clear_35 (fun M2 => ?_)
      exact Sm.vret hC d_m0_clear_36 rfl (Nat.sub_self _)
    · refine Sm.aload_n hC d_m0_clear_9 rfl 0 rfl ?_
      refine Sm.getR hC fl_m0_11 rfl d_m0_clear_10 (fun v3 => ?_)
      refine Sm.iload_n hC d_m0_clear_13 rfl 1 rfl ?_
      refine Sm.iconst (v := -1) hC d_m0_clear_14 (by decide) ?_
      refine Sm.iast hC d_m0_clear_15 (fun M4 => ?_)
      refine Sm.aload_n hC d_m0_clear_16 rfl 0 rfl ?_
      refine Sm.getR hC fl_m0_15 rfl d_m0_clear_17 (fun v5 => ?_)
      refine Sm.iload_n hC d_m0_clear_20 rfl 1 rfl ?_
      refine Sm.iconst (v := 0) hC d_m0_clear_21 (by decide) ?_
      refine Sm.iast hC d_m0_clear_22 (fun M6 => ?_)
      refine Sm.iinc (v := x1 + 1) (lv' := [(1, .int (x1 + 1)), (0, rv V.1 r0)]) hC d_m0_clear_23 1 rfl rfl (by decide) (by simp [cat_rv]) ?_
      refine Sm.goto (tgt := 2) hC d_m0_clear_26 (by decide) ?_
      refine Sm.sub [1, 0] rfl ?_
      exact ih r0 (x1 + 1) M6
set_option maxRecDepth 100000 in
set_option maxHeartbeats 4000000 in
theorem ok_m0_clear {l : Launch} {V : Ev} {M M' : Mm} {r : Unit} {r0 : Nat} (h : s_m0_clear r0 M = some (r, M')) : Met l y_m0_clear (Cond.code y_m0_clear b_m0_clear 2 none :: TW) rm_m0_clear (va_Pc [rv V.1 r0] (Wd V M)) (QC V none M' 0) 0 0 (Af V) := by
  refine met_of (fun _ : Unit => none) (lv0 := [(0, rv V.1 r0)]) (by decide) (by simp [lg_sl, cat_rv, cat_i, cat_l, cat_f]) (by simp [lv_args, cat_rv, cat_i, cat_l, cat_f]) (fun C hl hR hC => ?_) h
  subst hl
  generalize mN M = n0 at hC ⊢
  unfold s_m0_clear
  refine Sm.iconst (v := 0) hC d_m0_clear_0 (by decide) ?_
  refine Sm.istore_n (lv' := [(1, .int (0 : Int32)), (0, rv V.1 r0)]) hC d_m0_clear_1 rfl (by decide) (by simp [cat_rv]) ?_
  refine Sm.sub [1, 0] rfl ?_
  exact w_m0_clear_2 hC hR FU r0 (0 : Int32) M
/-! NewsWire$Choice.offer(III)V -/
abbrev b_m0_offer : ByteArray := prog_2_method_3_code
def y_m0_offer : MethodName := ⟨"NewsWire$Choice", "offer", "(III)V"⟩
def rm_m0_offer : Room := { frames := 1, cells := 0, slots := 0, locals := 60 }
theorem cw_m0_offer : CW y_m0_offer b_m0_offer 6 none 3 := ⟨tw_i 60 (by decide +kernel), tw_i 819 (by decide +kernel), by decide, by decide, by decide +kernel⟩
theorem d_m0_offer_0 : decode b_m0_offer 0 = .ok (.sipush 144, 3) := by decide +kernel
theorem d_m0_offer_3 : decode b_m0_offer 3 = .ok (.istore 4, 2) := by decide +kernel
theorem d_m0_offer_5 : decode b_m0_offer 5 = .ok (.iload 4, 2) := by decide +kernel
theorem d_m0_offer_7 : decode b_m0_offer 7 = .ok (.iload_n 2, 1) := by decide +kernel
theorem d_m0_offer_8 : decode b_m0_offer 8 = .ok (.if_icmp .lt 69, 3) := by decide +kernel
theorem d_m0_offer_11 : decode b_m0_offer 11 = .ok (.aload_n 0, 1) := by decide +kernel
theorem d_m0_offer_12 : decode b_m0_offer 12 = .ok (.getfield 11, 3) := by decide +kernel
theorem d_m0_offer_15 : decode b_m0_offer 15 = .ok (.iload 4, 2) := by decide +kernel
theorem d_m0_offer_17 : decode b_m0_offer 17 = .ok (.iload_n 2, 1) := by decide +kernel
theorem d_m0_offer_18 : decode b_m0_offer 18 = .ok (.isub, 1) := by decide +kernel
theorem d_m0_offer_19 : decode b_m0_offer 19 = .ok (.iaload, 1) := by decide +kernel
theorem d_m0_offer_20 : decode b_m0_offer 20 = .ok (.istore 5, 2) := by decide +kernel
theorem d_m0_offer_22 : decode b_m0_offer 22 = .ok (.iload 5, 2) := by decide +kernel
theorem d_m0_offer_24 : decode b_m0_offer 24 = .ok (.iconst (-1), 1) := by decide +kernel
theorem d_m0_offer_25 : decode b_m0_offer 25 = .ok (.if_icmp .eq 46, 3) := by decide +kernel
theorem d_m0_offer_28 : decode b_m0_offer 28 = .ok (.iload 5, 2) := by decide +kernel
theorem d_m0_offer_30 : decode b_m0_offer 30 = .ok (.iload_n 3, 1) := by decide +kernel
theorem d_m0_offer_31 : decode b_m0_offer 31 = .ok (.iadd, 1) := by decide +kernel
theorem d_m0_offer_32 : decode b_m0_offer 32 = .ok (.aload_n 0, 1) := by decide +kernel
theorem d_m0_offer_33 : decode b_m0_offer 33 = .ok (.getfield 11, 3) := by decide +kernel
theorem d_m0_offer_36 : decode b_m0_offer 36 = .ok (.iload 4, 2) := by decide +kernel
theorem d_m0_offer_38 : decode b_m0_offer 38 = .ok (.iaload, 1) := by decide +kernel
theorem d_m0_offer_39 : decode b_m0_offer 39 = .ok (.if_icmp .le 32, 3) := by decide +kernel
theorem d_m0_offer_42 : decode b_m0_offer 42 = .ok (.aload_n 0, 1) := by decide +kernel
theorem d_m0_offer_43 : decode b_m0_offer 43 = .ok (.getfield 11, 3) := by decide +kernel
theorem d_m0_offer_46 : decode b_m0_offer 46 = .ok (.iload 4, 2) := by decide +kernel
theorem d_m0_offer_48 : decode b_m0_offer 48 = .ok (.iload 5, 2) := by decide +kernel
theorem d_m0_offer_50 : decode b_m0_offer 50 = .ok (.iload_n 3, 1) := by decide +kernel
theorem d_m0_offer_51 : decode b_m0_offer 51 = .ok (.iadd, 1) := by decide +kernel
theorem d_m0_offer_52 : decode b_m0_offer 52 = .ok (.iastore, 1) := by decide +kernel
theorem d_m0_offer_53 : decode b_m0_offer 53 = .ok (.aload_n 0, 1) := by decide +kernel
theorem d_m0_offer_54 : decode b_m0_offer 54 = .ok (.getfield 15, 3) := by decide +kernel
theorem d_m0_offer_57 : decode b_m0_offer 57 = .ok (.iload 4, 2) := by decide +kernel
theorem d_m0_offer_59 : decode b_m0_offer 59 = .ok (.aload_n 0, 1) := by decide +kernel
theorem d_m0_offer_60 : decode b_m0_offer 60 = .ok (.getfield 15, 3) := by decide +kernel
theorem d_m0_offer_63 : decode b_m0_offer 63 = .ok (.iload 4, 2) := by decide +kernel
theorem d_m0_offer_65 : decode b_m0_offer 65 = .ok (.iload_n 2, 1) := by decide +kernel
theorem d_m0_offer_66 : decode b_m0_offer 66 = .ok (.isub, 1) := by decide +kernel
theorem d_m0_offer_67 : decode b_m0_offer 67 = .ok (.iaload, 1) := by decide +kernel
theorem d_m0_offer_68 : decode b_m0_offer 68 = .ok (.iload_n 1, 1) := by decide +kernel
theorem d_m0_offer_69 : decode b_m0_offer 69 = .ok (.ior, 1) := by decide +kernel
theorem d_m0_offer_70 : decode b_m0_offer 70 = .ok (.iastore, 1) := by decide +kernel
theorem d_m0_offer_71 : decode b_m0_offer 71 = .ok (.iinc 4 (-1), 3) := by decide +kernel
theorem d_m0_offer_74 : decode b_m0_offer 74 = .ok (.goto (-69), 3) := by decide +kernel
theorem d_m0_offer_77 : decode b_m0_offer 77 = .ok (.return_, 1) := by decide +kernel
def s_m0_offer_71 (k5 : Nat → Int32 → Int32 → Int32 → Int32 → Mm → Option (Unit × Mm)) (r0 : Nat) (x1 : Int32) (x2 : Int32) (x3 : Int32) (x4 : Int32) (M : Mm) : Option (Unit × Mm) := k5 r0 x1 x2 x3 (x4 + (-1)) M
def s_m0_offer_5  : Nat → Nat → Int32 → Int32 → Int32 → Int32 → Mm → Option (Unit × Mm)
  | 0, _, _, _, _, _, _ => none
  | n + 1, r0, x1, x2, x3, x4, M => (if x4 < x2 then some ((), M) else gR M r0 10 0 (fun v1 => aI M v1 0 (x4 - x2) (fun v2 => (if v2 = (-1 : Int32) then s_m0_offer_71 (s_m0_offer_5 n) r0 x1 x2 x3 x4 M else gR M r0 10 0 (fun v3 => aI M v3 0 x4 (fun v4 => (if (v2 + x3) ≤ v4 then s_m0_offer_71 (s_m0_offer_5 n) r0 x1 x2 x3 x4 M else gR M r0 10 0 (fun v5 => sI M v5 0 x4 (v2 + x3) (fun M6 => gR M6 r0 10 1 (fun v7 => gR M6 r0 10 1 (fun v8 => aI M6 v8 0 (x4 - x2) (fun v9 => sI M6 v7 0 x4 (v9 ||| x1) (fun M10 => s_m0_offer_71 (s_m0_offer_5 n) r0 x1 x2 x3 x4 M10)))))))))))))
def s_m0_offer (r0 : Nat) (a1 : Int32) (a2 : Int32) (a3 : Int32) (M : Mm) : Option (Unit × Mm) := s_m0_offer_5 FU r0 a1 a2 a3 (144 : Int32) M
set_option maxRecDepth 100000 in
set_option maxHeartbeats 4000000 in
theorem w_m0_offer_71 {V : Ev} {C : Cx} {n0 : Nat} (hC : Cok V C y_m0_offer.cls b_m0_offer 6 n0 none y_m0_offer.name) (hR : cR C = rm_m0_offer) (k5 : Nat → Int32 → Int32 → Int32 → Int32 → Mm → Option (Unit × Mm)) (hk5 : ∀ (r0 : Nat) (x1 : Int32) (x2 : Int32) (x3 : Int32) (x4 : Int32) (M : Mm), Sm V C 6 n0 n0 (qV V C) 5 [(0, rv V.1 r0), (1, .int x1), (2, .int x2), (3, .int x3), (4, .int x4)] [] M (k5 r0 x1 x2 x3 x4 M)) : ∀ (r0 : Nat) (x1 : Int32) (x2 : Int32) (x3 : Int32) (x4 : Int32) (M : Mm), Sm V C 6 n0 n0 (qV V C) 71 [(0, rv V.1 r0), (1, .int x1), (2, .int x2), (3, .int x3), (4, .int x4)] [] M (s_m0_offer_71 k5 r0 x1 x2 x3 x4 M) := by
  intro r0 x1 x2 x3 x4 M
  unfold s_m0_offer_71
  refine Sm.iinc (v := x4 + (-1)) (lv' := [(4, .int (x4 + (-1))), (0, rv V.1 r0), (1, .int x1), (2, .int x2), (3, .int x3)]) hC d_m0_offer_71 4 rfl rfl (by decide) rfl ?_
  refine Sm.goto (tgt := 5) hC d_m0_offer_74 (by decide) ?_
  refine Sm.sub [1, 2, 3, 4, 0] rfl ?_
  exact hk5 r0 x1 x2 x3 (x4 + (-1)) M
set_option maxRecDepth 100000 in
set_option maxHeartbeats 4000000 in
theorem w_m0_offer_5 {V : Ev} {C : Cx} {n0 : Nat} (hC : Cok V C y_m0_offer.cls b_m0_offer 6 n0 none y_m0_offer.name) (hR : cR C = rm_m0_offer)  : ∀ (n : Nat) (r0 : Nat) (x1 : Int32) (x2 : Int32) (x3 : Int32) (x4 : Int32) (M : Mm), Sm V C 6 n0 n0 (qV V C) 5 [(0, rv V.1 r0), (1, .int x1), (2, .int x2), (3, .int x3), (4, .int x4)] [] M (s_m0_offer_5 n r0 x1 x2 x3 x4 M) := by
  intro n
  induction n with
  | zero => exact fun r0 x1 x2 x3 x4 M => Sm.none_
  | succ n ih =>
    intro r0 x1 x2 x3 x4 M
    unfold s_m0_offer_5
    refine Sm.iload hC d_m0_offer_5 4 rfl ?_
    refine Sm.iload_n hC d_m0_offer_7 rfl 2 rfl ?_
    refine Sm.icmp_lt (tgt := 77) hC d_m0_offer_8 (by decide) ?_ ?_
    · exact Sm.vret hC d_m0_offer_77 rfl (Nat.sub_self _)
    · refine Sm.aload_n hC d_m0_offer_11 rfl 0 rfl ?_
      refine Sm.getR hC fl_m0_11 rfl d_m0_offer_12 (fun v1 => ?_)
      refine Sm.iload hC d_m0_offer_15 4 rfl ?_
      refine Sm.iload_n hC d_m0_offer_17 rfl 2 rfl ?_
      refine Sm.isub hC d_m0_offer_18 ?_
      refine Sm.iald hC d_m0_offer_19 (fun v2 => ?_)
      refine Sm.istore (lv' := [(5, .int v2), (0, rv V.1 r0), (1, .int x1), (2, .int x2), (3, .int x3), (4, .int x4)]) hC d_m0_offer_20 (by decide) rfl ?_
      refine Sm.iload hC d_m0_offer_22 0 rfl ?_
      refine Sm.iconst (v := -1) hC d_m0_offer_24 (by decide) ?_
      refine Sm.icmp_eq (tgt := 71) hC d_m0_offer_25 (by decide) ?_ ?_
      · refine Sm.sub [1, 2, 3, 4, 5] rfl ?_
        exact w_m0_offer_71 hC hR (s_m0_offer_5 n) ih r0 x1 x2 x3 x4 M
      · refine Sm.iload hC d_m0_offer_28 0 rfl ?_
        refine Sm.iload_n hC d_m0_offer_30 rfl 4 rfl ?_
        refine Sm.iadd hC d_m0_offer_31 ?_
        refine Sm.aload_n hC d_m0_offer_32 rfl 1 rfl ?_
        refine Sm.getR hC fl_m0_11 rfl d_m0_offer_33 (fun v3 => ?_)
        refine Sm.iload hC d_m0_offer_36 5 rfl ?_
        refine Sm.iald hC d_m0_offer_38 (fun v4 => ?_)
        refine Sm.icmp_le (tgt := 71) hC d_m0_offer_39 (by decide) ?_ ?_
        · refine Sm.sub [1, 2, 3, 4, 5] rfl ?_
          exact w_m0_offer_71 hC hR (s_m0_offer_5 n) ih r0 x1 x2 x3 x4 M
        · refine Sm.aload_n hC d_m0_offer_42 rfl 1 rfl ?_
          refine Sm.getR hC fl_m0_11 rfl d_m0_offer_43 (fun v5 => ?_)
          refine Sm.iload hC d_m0_offer_46 5 rfl ?_
          refine Sm.iload hC d_m0_offer_48 0 rfl ?_
          refine Sm.iload_n hC d_m0_offer_50 rfl 4 rfl ?_
          refine Sm.iadd hC d_m0_offer_51 ?_
          refine Sm.iast hC d_m0_offer_52 (fun M6 => ?_)
          refine Sm.aload_n hC d_m0_offer_53 rfl 1 rfl ?_
          refine Sm.getR hC fl_m0_15 rfl d_m0_offer_54 (fun v7 => ?_)
          refine Sm.iload hC d_m0_offer_57 5 rfl ?_
          refine Sm.aload_n hC d_m0_offer_59 rfl 1 rfl ?_
          refine Sm.getR hC fl_m0_15 rfl d_m0_offer_60 (fun v8 => ?_)
          refine Sm.iload hC d_m0_offer_63 5 rfl ?_
          refine Sm.iload_n hC d_m0_offer_65 rfl 3 rfl ?_
          refine Sm.isub hC d_m0_offer_66 ?_
          refine Sm.iald hC d_m0_offer_67 (fun v9 => ?_)
          refine Sm.iload_n hC d_m0_offer_68 rfl 2 rfl ?_
          refine Sm.ior hC d_m0_offer_69 ?_
          refine Sm.iast hC d_m0_offer_70 (fun M10 => ?_)
          refine Sm.sub [1, 2, 3, 4, 5] rfl ?_
          exact w_m0_offer_71 hC hR (s_m0_offer_5 n) ih r0 x1 x2 x3 x4 M10
set_option maxRecDepth 100000 in
set_option maxHeartbeats 4000000 in
theorem ok_m0_offer {l : Launch} {V : Ev} {M M' : Mm} {r : Unit} {r0 : Nat} {a1 : Int32} {a2 : Int32} {a3 : Int32} (h : s_m0_offer r0 a1 a2 a3 M = some (r, M')) : Met l y_m0_offer (Cond.code y_m0_offer b_m0_offer 6 none :: TW) rm_m0_offer (va_Pc [rv V.1 r0, .int a1, .int a2, .int a3] (Wd V M)) (QC V none M' 0) 0 0 (Af V) := by
  refine met_of (fun _ : Unit => none) (lv0 := [(0, rv V.1 r0), (1, .int a1), (2, .int a2), (3, .int a3)]) (by decide) (by simp [lg_sl, cat_rv, cat_i, cat_l, cat_f]) (by simp [lv_args, cat_rv, cat_i, cat_l, cat_f]) (fun C hl hR hC => ?_) h
  subst hl
  generalize mN M = n0 at hC ⊢
  unfold s_m0_offer
  refine Sm.sipush (v := 144) hC d_m0_offer_0 (by decide) ?_
  refine Sm.istore (lv' := [(4, .int (144 : Int32)), (0, rv V.1 r0), (1, .int a1), (2, .int a2), (3, .int a3)]) hC d_m0_offer_3 (by decide) rfl ?_
  refine Sm.sub [1, 2, 3, 4, 0] rfl ?_
  exact w_m0_offer_5 hC hR FU r0 a1 a2 a3 (144 : Int32) M
/-! NewsWire$Choice.pick(I)V -/
theorem fl_m0_18 : FL "NewsWire$Choice" 18 0 2 0 false .int := ⟨_, _, _, _, rfl, in_c0, ty_c0, nm_c0, by decide, rfl, tw_i 210 (by decide +kernel), rfl, rfl, rfl, rfl⟩
theorem fl_m0_22 : FL "NewsWire$Choice" 22 0 3 0 false .int := ⟨_, _, _, _, rfl, in_c0, ty_c0, nm_c0, by decide, rfl, tw_i 212 (by decide +kernel), rfl, rfl, rfl, rfl⟩
abbrev b_m0_pick : ByteArray := prog_2_method_4_code
def y_m0_pick : MethodName := ⟨"NewsWire$Choice", "pick", "(I)V"⟩
def rm_m0_pick : Room := { frames := 1, cells := 0, slots := 0, locals := 60 }
theorem cw_m0_pick : CW y_m0_pick b_m0_pick 3 none 1 := ⟨tw_i 60 (by decide +kernel), tw_i 823 (by decide +kernel), by decide, by decide, by decide +kernel⟩
theorem d_m0_pick_0 : decode b_m0_pick 0 = .ok (.aload_n 0, 1) := by decide +kernel
theorem d_m0_pick_1 : decode b_m0_pick 1 = .ok (.iconst 0, 1) := by decide +kernel
theorem d_m0_pick_2 : decode b_m0_pick 2 = .ok (.putfield 18, 3) := by decide +kernel
theorem d_m0_pick_5 : decode b_m0_pick 5 = .ok (.aload_n 0, 1) := by decide +kernel
theorem d_m0_pick_6 : decode b_m0_pick 6 = .ok (.iconst 0, 1) := by decide +kernel
theorem d_m0_pick_7 : decode b_m0_pick 7 = .ok (.putfield 22, 3) := by decide +kernel
theorem d_m0_pick_10 : decode b_m0_pick 10 = .ok (.iconst 0, 1) := by decide +kernel
theorem d_m0_pick_11 : decode b_m0_pick 11 = .ok (.istore_n 2, 1) := by decide +kernel
theorem d_m0_pick_12 : decode b_m0_pick 12 = .ok (.iload_n 2, 1) := by decide +kernel
theorem d_m0_pick_13 : decode b_m0_pick 13 = .ok (.sipush 144, 3) := by decide +kernel
theorem d_m0_pick_16 : decode b_m0_pick 16 = .ok (.if_icmp .gt 47, 3) := by decide +kernel
theorem d_m0_pick_19 : decode b_m0_pick 19 = .ok (.iload_n 2, 1) := by decide +kernel
theorem d_m0_pick_20 : decode b_m0_pick 20 = .ok (.iload_n 1, 1) := by decide +kernel
theorem d_m0_pick_21 : decode b_m0_pick 21 = .ok (.if_icmp .gt 42, 3) := by decide +kernel
theorem d_m0_pick_24 : decode b_m0_pick 24 = .ok (.aload_n 0, 1) := by decide +kernel
theorem d_m0_pick_25 : decode b_m0_pick 25 = .ok (.getfield 11, 3) := by decide +kernel
theorem d_m0_pick_28 : decode b_m0_pick 28 = .ok (.iload_n 2, 1) := by decide +kernel
theorem d_m0_pick_29 : decode b_m0_pick 29 = .ok (.iaload, 1) := by decide +kernel
theorem d_m0_pick_30 : decode b_m0_pick 30 = .ok (.aload_n 0, 1) := by decide +kernel
theorem d_m0_pick_31 : decode b_m0_pick 31 = .ok (.getfield 18, 3) := by decide +kernel
theorem d_m0_pick_34 : decode b_m0_pick 34 = .ok (.if_icmp .le 23, 3) := by decide +kernel
theorem d_m0_pick_37 : decode b_m0_pick 37 = .ok (.aload_n 0, 1) := by decide +kernel
theorem d_m0_pick_38 : decode b_m0_pick 38 = .ok (.aload_n 0, 1) := by decide +kernel
theorem d_m0_pick_39 : decode b_m0_pick 39 = .ok (.getfield 11, 3) := by decide +kernel
theorem d_m0_pick_42 : decode b_m0_pick 42 = .ok (.iload_n 2, 1) := by decide +kernel
theorem d_m0_pick_43 : decode b_m0_pick 43 = .ok (.iaload, 1) := by decide +kernel
theorem d_m0_pick_44 : decode b_m0_pick 44 = .ok (.putfield 18, 3) := by decide +kernel
theorem d_m0_pick_47 : decode b_m0_pick 47 = .ok (.aload_n 0, 1) := by decide +kernel
theorem d_m0_pick_48 : decode b_m0_pick 48 = .ok (.aload_n 0, 1) := by decide +kernel
theorem d_m0_pick_49 : decode b_m0_pick 49 = .ok (.getfield 15, 3) := by decide +kernel
theorem d_m0_pick_52 : decode b_m0_pick 52 = .ok (.iload_n 2, 1) := by decide +kernel
theorem d_m0_pick_53 : decode b_m0_pick 53 = .ok (.iaload, 1) := by decide +kernel
theorem d_m0_pick_54 : decode b_m0_pick 54 = .ok (.putfield 22, 3) := by decide +kernel
theorem d_m0_pick_57 : decode b_m0_pick 57 = .ok (.iinc 2 1, 3) := by decide +kernel
theorem d_m0_pick_60 : decode b_m0_pick 60 = .ok (.goto (-48), 3) := by decide +kernel
theorem d_m0_pick_63 : decode b_m0_pick 63 = .ok (.return_, 1) := by decide +kernel
def s_m0_pick_63   (M : Mm) : Option (Unit × Mm) := some ((), M)
def s_m0_pick_57 (k12 : Nat → Int32 → Int32 → Mm → Option (Unit × Mm)) (r0 : Nat) (x1 : Int32) (x2 : Int32) (M : Mm) : Option (Unit × Mm) := k12 r0 x1 (x2 + 1) M
def s_m0_pick_12  : Nat → Nat → Int32 → Int32 → Mm → Option (Unit × Mm)
  | 0, _, _, _, _ => none
  | n + 1, r0, x1, x2, M => (if (144 : Int32) < x2 then s_m0_pick_63 M else (if x1 < x2 then s_m0_pick_63 M else gR M r0 10 0 (fun v1 => aI M v1 0 x2 (fun v2 => gI M r0 10 2 (fun v3 => (if v2 ≤ v3 then s_m0_pick_57 (s_m0_pick_12 n) r0 x1 x2 M else gR M r0 10 0 (fun v4 => aI M v4 0 x2 (fun v5 => pI M r0 10 2 v5 (fun M6 => gR M6 r0 10 1 (fun v7 => aI M6 v7 0 x2 (fun v8 => pI M6 r0 10 3 v8 (fun M9 => s_m0_pick_57 (s_m0_pick_12 n) r0 x1 x2 M9))))))))))))
def s_m0_pick (r0 : Nat) (a1 : Int32) (M : Mm) : Option (Unit × Mm) := pI M r0 10 2 (0 : Int32) (fun M1 => pI M1 r0 10 3 (0 : Int32) (fun M2 => s_m0_pick_12 FU r0 a1 (0 : Int32) M2))
set_option maxRecDepth 100000 in
set_option maxHeartbeats 4000000 in
theorem w_m0_pick_63 {V : Ev} {C : Cx} {n0 : Nat} (hC : Cok V C y_m0_pick.cls b_m0_pick 3 n0 none y_m0_pick.name) (hR : cR C = rm_m0_pick)  : ∀  (M : Mm), Sm V C 3 n0 n0 (qV V C) 63 [] [] M (s_m0_pick_63 M) := by
  intro M
  unfold s_m0_pick_63
  exact Sm.vret hC d_m0_pick_63 rfl (Nat.sub_self _)
set_option maxRecDepth 100000 in
set_option maxHeartbeats 4000000 in
theorem w_m0_pick_57 {V : Ev} {C : Cx} {n0 : Nat} (hC : Cok V C y_m0_pick.cls b_m0_pick 3 n0 none y_m0_pick.name) (hR : cR C = rm_m0_pick) (k12 : Nat → Int32 → Int32 → Mm → Option (Unit × Mm)) (hk12 : ∀ (r0 : Nat) (x1 : Int32) (x2 : Int32) (M : Mm), Sm V C 3 n0 n0 (qV V C) 12 [(0, rv V.1 r0), (1, .int x1), (2, .int x2)] [] M (k12 r0 x1 x2 M)) : ∀ (r0 : Nat) (x1 : Int32) (x2 : Int32) (M : Mm), Sm V C 3 n0 n0 (qV V C) 57 [(0, rv V.1 r0), (1, .int x1), (2, .int x2)] [] M (s_m0_pick_57 k12 r0 x1 x2 M) := by
  intro r0 x1 x2 M
  unfold s_m0_pick_57
  refine Sm.iinc (v := x2 + 1) (lv' := [(2, .int (x2 + 1)), (0, rv V.1 r0), (1, .int x1)]) hC d_m0_pick_57 2 rfl rfl (by decide) rfl ?_
  refine Sm.goto (tgt := 12) hC d_m0_pick_60 (by decide) ?_
  refine Sm.sub [1, 2, 0] rfl ?_
  exact hk12 r0 x1 (x2 + 1) M
set_option maxRecDepth 100000 in
set_option maxHeartbeats 4000000 in
theorem w_m0_pick_12 {V : Ev} {C : Cx} {n0 : Nat} (hC : Cok V C y_m0_pick.cls b_m0_pick 3 n0 none y_m0_pick.name) (hR : cR C = rm_m0_pick)  : ∀ (n : Nat) (r0 : Nat) (x1 : Int32) (x2 : Int32) (M : Mm), Sm V C 3 n0 n0 (qV V C) 12 [(0, rv V.1 r0), (1, .int x1), (2, .int x2)] [] M (s_m0_pick_12 n r0 x1 x2 M) := by
  intro n
  induction n with
  | zero => exact fun r0 x1 x2 M => Sm.none_
  | succ n ih =>
    intro r0 x1 x2 M
    unfold s_m0_pick_12
    refine Sm.iload_n hC d_m0_pick_12 rfl 2 rfl ?_
    refine Sm.sipush (v := 144) hC d_m0_pick_13 (by decide) ?_
    refine Sm.icmp_gt (tgt := 63) hC d_m0_pick_16 (by decide) ?_ ?_
    · refine Sm.sub [] rfl ?_
      exact w_m0_pick_63 hC hR M
    · refine Sm.iload_n hC d_m0_pick_19 rfl 2 rfl ?_
      refine Sm.iload_n hC d_m0_pick_20 rfl 1 rfl ?_
      refine Sm.icmp_gt (tgt := 63) hC d_m0_pick_21 (by decide) ?_ ?_
      · refine Sm.sub [] rfl ?_
        exact w_m0_pick_63 hC hR M
      · refine Sm.aload_n hC d_m0_pick_24 rfl 0 rfl ?_
        refine Sm.getR hC fl_m0_11 rfl d_m0_pick_25 (fun v1 => ?_)
        refine Sm.iload_n hC d_m0_pick_28 rfl 2 rfl ?_
        refine Sm.iald hC d_m0_pick_29 (fun v2 => ?_)
        refine Sm.aload_n hC d_m0_pick_30 rfl 0 rfl ?_
        refine Sm.getI hC fl_m0_18 rfl d_m0_pick_31 (fun v3 => ?_)
        refine Sm.icmp_le (tgt := 57) hC d_m0_pick_34 (by decide) ?_ ?_
        · exact w_m0_pick_57 hC hR (s_m0_pick_12 n) ih r0 x1 x2 M
        · refine Sm.aload_n hC d_m0_pick_37 rfl 0 rfl ?_
          refine Sm.aload_n hC d_m0_pick_38 rfl 0 rfl ?_
          refine Sm.getR hC fl_m0_11 rfl d_m0_pick_39 (fun v4 => ?_)
          refine Sm.iload_n hC d_m0_pick_42 rfl 2 rfl ?_
          refine Sm.iald hC d_m0_pick_43 (fun v5 => ?_)
          refine Sm.putI hC fl_m0_18 rfl d_m0_pick_44 (fun M6 => ?_)
          refine Sm.aload_n hC d_m0_pick_47 rfl 0 rfl ?_
          refine Sm.aload_n hC d_m0_pick_48 rfl 0 rfl ?_
          refine Sm.getR hC fl_m0_15 rfl d_m0_pick_49 (fun v7 => ?_)
          refine Sm.iload_n hC d_m0_pick_52 rfl 2 rfl ?_
          refine Sm.iald hC d_m0_pick_53 (fun v8 => ?_)
          refine Sm.putI hC fl_m0_22 rfl d_m0_pick_54 (fun M9 => ?_)
          exact w_m0_pick_57 hC hR (s_m0_pick_12 n) ih r0 x1 x2 M9
set_option maxRecDepth 100000 in
set_option maxHeartbeats 4000000 in
theorem ok_m0_pick {l : Launch} {V : Ev} {M M' : Mm} {r : Unit} {r0 : Nat} {a1 : Int32} (h : s_m0_pick r0 a1 M = some (r, M')) : Met l y_m0_pick (Cond.code y_m0_pick b_m0_pick 3 none :: TW) rm_m0_pick (va_Pc [rv V.1 r0, .int a1] (Wd V M)) (QC V none M' 0) 0 0 (Af V) := by
  refine met_of (fun _ : Unit => none) (lv0 := [(0, rv V.1 r0), (1, .int a1)]) (by decide) (by simp [lg_sl, cat_rv, cat_i, cat_l, cat_f]) (by simp [lv_args, cat_rv, cat_i, cat_l, cat_f]) (fun C hl hR hC => ?_) h
  subst hl
  generalize mN M = n0 at hC ⊢
  unfold s_m0_pick
  refine Sm.aload_n hC d_m0_pick_0 rfl 0 rfl ?_
  refine Sm.iconst (v := 0) hC d_m0_pick_1 (by decide) ?_
  refine Sm.putI hC fl_m0_18 rfl d_m0_pick_2 (fun M1 => ?_)
  refine Sm.aload_n hC d_m0_pick_5 rfl 0 rfl ?_
  refine Sm.iconst (v := 0) hC d_m0_pick_6 (by decide) ?_
  refine Sm.putI hC fl_m0_22 rfl d_m0_pick_7 (fun M2 => ?_)
  refine Sm.iconst (v := 0) hC d_m0_pick_10 (by decide) ?_
  refine Sm.istore_n (lv' := [(2, .int (0 : Int32)), (0, rv V.1 r0), (1, .int a1)]) hC d_m0_pick_11 rfl (by decide) rfl ?_
  refine Sm.sub [1, 2, 0] rfl ?_
  exact w_m0_pick_12 hC hR FU r0 a1 (0 : Int32) M2
/-! NewsWire$Garbles.include(II)Z -/
theorem fl_m1_18 : FL "NewsWire$Garbles" 18 1 2 0 false .int := ⟨_, _, _, _, rfl, in_c1, ty_c1, nm_c1, by decide, rfl, tw_i 149 (by decide +kernel), rfl, rfl, rfl, rfl⟩
theorem fl_m1_9 : FL "NewsWire$Garbles" 9 1 0 2 true (.array .int) := ⟨_, _, _, _, rfl, in_c1, ty_c1, nm_c1, by decide, rfl, tw_i 147 (by decide +kernel), rfl, rfl, rfl, rfl⟩
theorem fl_m1_15 : FL "NewsWire$Garbles" 15 1 1 2 true (.array .int) := ⟨_, _, _, _, rfl, in_c1, ty_c1, nm_c1, by decide, rfl, tw_i 148 (by decide +kernel), rfl, rfl, rfl, rfl⟩
abbrev b_m1_include : ByteArray := prog_3_method_2_code
def y_m1_include : MethodName := ⟨"NewsWire$Garbles", "include", "(II)Z"⟩
def rm_m1_include : Room := { frames := 1, cells := 0, slots := 0, locals := 60 }
theorem cw_m1_include : CW y_m1_include b_m1_include 4 (some .boolean) 2 := ⟨tw_i 58 (by decide +kernel), tw_i 648 (by decide +kernel), by decide, by decide, by decide +kernel⟩
theorem d_m1_include_0 : decode b_m1_include 0 = .ok (.iconst 0, 1) := by decide +kernel
theorem d_m1_include_1 : decode b_m1_include 1 = .ok (.istore_n 3, 1) := by decide +kernel
theorem d_m1_include_2 : decode b_m1_include 2 = .ok (.iload_n 3, 1) := by decide +kernel
theorem d_m1_include_3 : decode b_m1_include 3 = .ok (.aload_n 0, 1) := by decide +kernel
theorem d_m1_include_4 : decode b_m1_include 4 = .ok (.getfield 18, 3) := by decide +kernel
theorem d_m1_include_7 : decode b_m1_include 7 = .ok (.if_icmp .ge 31, 3) := by decide +kernel
theorem d_m1_include_10 : decode b_m1_include 10 = .ok (.aload_n 0, 1) := by decide +kernel
theorem d_m1_include_11 : decode b_m1_include 11 = .ok (.getfield 9, 3) := by decide +kernel
theorem d_m1_include_14 : decode b_m1_include 14 = .ok (.iload_n 3, 1) := by decide +kernel
theorem d_m1_include_15 : decode b_m1_include 15 = .ok (.iaload, 1) := by decide +kernel
theorem d_m1_include_16 : decode b_m1_include 16 = .ok (.iload_n 1, 1) := by decide +kernel
theorem d_m1_include_17 : decode b_m1_include 17 = .ok (.if_icmp .ne 15, 3) := by decide +kernel
theorem d_m1_include_20 : decode b_m1_include 20 = .ok (.aload_n 0, 1) := by decide +kernel
theorem d_m1_include_21 : decode b_m1_include 21 = .ok (.getfield 15, 3) := by decide +kernel
theorem d_m1_include_24 : decode b_m1_include 24 = .ok (.iload_n 3, 1) := by decide +kernel
theorem d_m1_include_25 : decode b_m1_include 25 = .ok (.iaload, 1) := by decide +kernel
theorem d_m1_include_26 : decode b_m1_include 26 = .ok (.iload_n 2, 1) := by decide +kernel
theorem d_m1_include_27 : decode b_m1_include 27 = .ok (.if_icmp .ne 5, 3) := by decide +kernel
theorem d_m1_include_30 : decode b_m1_include 30 = .ok (.iconst 1, 1) := by decide +kernel
theorem d_m1_include_31 : decode b_m1_include 31 = .ok (.ireturn, 1) := by decide +kernel
theorem d_m1_include_32 : decode b_m1_include 32 = .ok (.iinc 3 1, 3) := by decide +kernel
theorem d_m1_include_35 : decode b_m1_include 35 = .ok (.goto (-33), 3) := by decide +kernel
theorem d_m1_include_38 : decode b_m1_include 38 = .ok (.iconst 0, 1) := by decide +kernel
theorem d_m1_include_39 : decode b_m1_include 39 = .ok (.ireturn, 1) := by decide +kernel
def s_m1_include_32 (k2 : Nat → Int32 → Int32 → Int32 → Mm → Option (Int32 × Mm)) (r0 : Nat) (x1 : Int32) (x2 : Int32) (x3 : Int32) (M : Mm) : Option (Int32 × Mm) := k2 r0 x1 x2 (x3 + 1) M
def s_m1_include_2  : Nat → Nat → Int32 → Int32 → Int32 → Mm → Option (Int32 × Mm)
  | 0, _, _, _, _, _ => none
  | n + 1, r0, x1, x2, x3, M => gI M r0 11 2 (fun v1 => (if v1 ≤ x3 then rz (0 : Int32) (some ((0 : Int32), M)) else gR M r0 11 0 (fun v2 => aI M v2 0 x3 (fun v3 => (if ¬ v3 = x1 then s_m1_include_32 (s_m1_include_2 n) r0 x1 x2 x3 M else gR M r0 11 1 (fun v4 => aI M v4 0 x3 (fun v5 => (if ¬ v5 = x2 then s_m1_include_32 (s_m1_include_2 n) r0 x1 x2 x3 M else rz (1 : Int32) (some ((1 : Int32), M))))))))))
def s_m1_include (r0 : Nat) (a1 : Int32) (a2 : Int32) (M : Mm) : Option (Int32 × Mm) := s_m1_include_2 FU r0 a1 a2 (0 : Int32) M
set_option maxRecDepth 100000 in
set_option maxHeartbeats 4000000 in
theorem w_m1_include_32 {V : Ev} {C : Cx} {n0 : Nat} (hC : Cok V C y_m1_include.cls b_m1_include 4 n0 (some .boolean) y_m1_include.name) (hR : cR C = rm_m1_include) (k2 : Nat → Int32 → Int32 → Int32 → Mm → Option (Int32 × Mm)) (hk2 : ∀ (r0 : Nat) (x1 : Int32) (x2 : Int32) (x3 : Int32) (M : Mm), Sm V C 4 n0 n0 (qI V C) 2 [(0, rv V.1 r0), (1, .int x1), (2, .int x2), (3, .int x3)] [] M (k2 r0 x1 x2 x3 M)) : ∀ (r0 : Nat) (x1 : Int32) (x2 : Int32) (x3 : Int32) (M : Mm), Sm V C 4 n0 n0 (qI V C) 32 [(0, rv V.1 r0), (1, .int x1), (2, .int x2), (3, .int x3)] [] M (s_m1_include_32 k2 r0 x1 x2 x3 M) := by
  intro r0 x1 x2 x3 M
  unfold s_m1_include_32
  refine Sm.iinc (v := x3 + 1) (lv' := [(3, .int (x3 + 1)), (0, rv V.1 r0), (1, .int x1), (2, .int x2)]) hC d_m1_include_32 3 rfl rfl (by decide) rfl ?_
  refine Sm.goto (tgt := 2) hC d_m1_include_35 (by decide) ?_
  refine Sm.sub [1, 2, 3, 0] rfl ?_
  exact hk2 r0 x1 x2 (x3 + 1) M
set_option maxRecDepth 100000 in
set_option maxHeartbeats 4000000 in
theorem w_m1_include_2 {V : Ev} {C : Cx} {n0 : Nat} (hC : Cok V C y_m1_include.cls b_m1_include 4 n0 (some .boolean) y_m1_include.name) (hR : cR C = rm_m1_include)  : ∀ (n : Nat) (r0 : Nat) (x1 : Int32) (x2 : Int32) (x3 : Int32) (M : Mm), Sm V C 4 n0 n0 (qI V C) 2 [(0, rv V.1 r0), (1, .int x1), (2, .int x2), (3, .int x3)] [] M (s_m1_include_2 n r0 x1 x2 x3 M) := by
  intro n
  induction n with
  | zero => exact fun r0 x1 x2 x3 M => Sm.none_
  | succ n ih =>
    intro r0 x1 x2 x3 M
    unfold s_m1_include_2
    refine Sm.iload_n hC d_m1_include_2 rfl 3 rfl ?_
    refine Sm.aload_n hC d_m1_include_3 rfl 0 rfl ?_
    refine Sm.getI hC fl_m1_18 rfl d_m1_include_4 (fun v1 => ?_)
    refine Sm.icmp_ge (tgt := 38) hC d_m1_include_7 (by decide) ?_ ?_
    · refine Sm.iconst (v := 0) hC d_m1_include_38 (by decide) ?_
      exact Sm.zret hC d_m1_include_39 rfl (Nat.sub_self _)
    · refine Sm.aload_n hC d_m1_include_10 rfl 0 rfl ?_
      refine Sm.getR hC fl_m1_9 rfl d_m1_include_11 (fun v2 => ?_)
      refine Sm.iload_n hC d_m1_include_14 rfl 3 rfl ?_
      refine Sm.iald hC d_m1_include_15 (fun v3 => ?_)
      refine Sm.iload_n hC d_m1_include_16 rfl 1 rfl ?_
      refine Sm.icmp_ne (tgt := 32) hC d_m1_include_17 (by decide) ?_ ?_
      · exact w_m1_include_32 hC hR (s_m1_include_2 n) ih r0 x1 x2 x3 M
      · refine Sm.aload_n hC d_m1_include_20 rfl 0 rfl ?_
        refine Sm.getR hC fl_m1_15 rfl d_m1_include_21 (fun v4 => ?_)
        refine Sm.iload_n hC d_m1_include_24 rfl 3 rfl ?_
        refine Sm.iald hC d_m1_include_25 (fun v5 => ?_)
        refine Sm.iload_n hC d_m1_include_26 rfl 2 rfl ?_
        refine Sm.icmp_ne (tgt := 32) hC d_m1_include_27 (by decide) ?_ ?_
        · exact w_m1_include_32 hC hR (s_m1_include_2 n) ih r0 x1 x2 x3 M
        · refine Sm.iconst (v := 1) hC d_m1_include_30 (by decide) ?_
          exact Sm.zret hC d_m1_include_31 rfl (Nat.sub_self _)
set_option maxRecDepth 100000 in
set_option maxHeartbeats 4000000 in
theorem ok_m1_include {l : Launch} {V : Ev} {M M' : Mm} {r : Int32} {r0 : Nat} {a1 : Int32} {a2 : Int32} (h : s_m1_include r0 a1 a2 M = some (r, M')) : Met l y_m1_include (Cond.code y_m1_include b_m1_include 4 (some .boolean) :: TW) rm_m1_include (va_Pc [rv V.1 r0, .int a1, .int a2] (Wd V M)) (QC V (some (.int r)) M' 0) 0 0 (Af V) := by
  refine met_of (fun x : Int32 => some (.int x)) (lv0 := [(0, rv V.1 r0), (1, .int a1), (2, .int a2)]) (by decide) (by simp [lg_sl, cat_rv, cat_i, cat_l, cat_f]) (by simp [lv_args, cat_rv, cat_i, cat_l, cat_f]) (fun C hl hR hC => ?_) h
  subst hl
  generalize mN M = n0 at hC ⊢
  unfold s_m1_include
  refine Sm.iconst (v := 0) hC d_m1_include_0 (by decide) ?_
  refine Sm.istore_n (lv' := [(3, .int (0 : Int32)), (0, rv V.1 r0), (1, .int a1), (2, .int a2)]) hC d_m1_include_1 rfl (by decide) rfl ?_
  refine Sm.sub [1, 2, 3, 0] rfl ?_
  exact w_m1_include_2 hC hR FU r0 a1 a2 (0 : Int32) M
/-! NewsWire$Garbles.enter(II)V -/
abbrev b_m1_enter : ByteArray := prog_3_method_3_code
def y_m1_enter : MethodName := ⟨"NewsWire$Garbles", "enter", "(II)V"⟩
def rm_m1_enter : Room := { frames := 1, cells := 0, slots := 0, locals := 60 }
theorem cw_m1_enter : CW y_m1_enter b_m1_enter 3 none 2 := ⟨tw_i 58 (by decide +kernel), tw_i 652 (by decide +kernel), by decide, by decide, by decide +kernel⟩
theorem d_m1_enter_0 : decode b_m1_enter 0 = .ok (.aload_n 0, 1) := by decide +kernel
theorem d_m1_enter_1 : decode b_m1_enter 1 = .ok (.getfield 9, 3) := by decide +kernel
theorem d_m1_enter_4 : decode b_m1_enter 4 = .ok (.aload_n 0, 1) := by decide +kernel
theorem d_m1_enter_5 : decode b_m1_enter 5 = .ok (.getfield 18, 3) := by decide +kernel
theorem d_m1_enter_8 : decode b_m1_enter 8 = .ok (.iload_n 1, 1) := by decide +kernel
theorem d_m1_enter_9 : decode b_m1_enter 9 = .ok (.iastore, 1) := by decide +kernel
theorem d_m1_enter_10 : decode b_m1_enter 10 = .ok (.aload_n 0, 1) := by decide +kernel
theorem d_m1_enter_11 : decode b_m1_enter 11 = .ok (.getfield 15, 3) := by decide +kernel
theorem d_m1_enter_14 : decode b_m1_enter 14 = .ok (.aload_n 0, 1) := by decide +kernel
theorem d_m1_enter_15 : decode b_m1_enter 15 = .ok (.getfield 18, 3) := by decide +kernel
theorem d_m1_enter_18 : decode b_m1_enter 18 = .ok (.iload_n 2, 1) := by decide +kernel
theorem d_m1_enter_19 : decode b_m1_enter 19 = .ok (.iastore, 1) := by decide +kernel
theorem d_m1_enter_20 : decode b_m1_enter 20 = .ok (.aload_n 0, 1) := by decide +kernel
theorem d_m1_enter_21 : decode b_m1_enter 21 = .ok (.dup, 1) := by decide +kernel
theorem d_m1_enter_22 : decode b_m1_enter 22 = .ok (.getfield 18, 3) := by decide +kernel
theorem d_m1_enter_25 : decode b_m1_enter 25 = .ok (.iconst 1, 1) := by decide +kernel
theorem d_m1_enter_26 : decode b_m1_enter 26 = .ok (.iadd, 1) := by decide +kernel
theorem d_m1_enter_27 : decode b_m1_enter 27 = .ok (.putfield 18, 3) := by decide +kernel
theorem d_m1_enter_30 : decode b_m1_enter 30 = .ok (.return_, 1) := by decide +kernel
def s_m1_enter (r0 : Nat) (a1 : Int32) (a2 : Int32) (M : Mm) : Option (Unit × Mm) := gR M r0 11 0 (fun v1 => gI M r0 11 2 (fun v2 => sI M v1 0 v2 a1 (fun M3 => gR M3 r0 11 1 (fun v4 => gI M3 r0 11 2 (fun v5 => sI M3 v4 0 v5 a2 (fun M6 => gI M6 r0 11 2 (fun v7 => pI M6 r0 11 2 (v7 + (1 : Int32)) (fun M8 => some ((), M8)))))))))
set_option maxRecDepth 100000 in
set_option maxHeartbeats 4000000 in
theorem ok_m1_enter {l : Launch} {V : Ev} {M M' : Mm} {r : Unit} {r0 : Nat} {a1 : Int32} {a2 : Int32} (h : s_m1_enter r0 a1 a2 M = some (r, M')) : Met l y_m1_enter (Cond.code y_m1_enter b_m1_enter 3 none :: TW) rm_m1_enter (va_Pc [rv V.1 r0, .int a1, .int a2] (Wd V M)) (QC V none M' 0) 0 0 (Af V) := by
  refine met_of (fun _ : Unit => none) (lv0 := [(0, rv V.1 r0), (1, .int a1), (2, .int a2)]) (by decide) (by simp [lg_sl, cat_rv, cat_i, cat_l, cat_f]) (by simp [lv_args, cat_rv, cat_i, cat_l, cat_f]) (fun C hl hR hC => ?_) h
  subst hl
  generalize mN M = n0 at hC ⊢
  unfold s_m1_enter
  refine Sm.aload_n hC d_m1_enter_0 rfl 0 rfl ?_
  refine Sm.getR hC fl_m1_9 rfl d_m1_enter_1 (fun v1 => ?_)
  refine Sm.aload_n hC d_m1_enter_4 rfl 0 rfl ?_
  refine Sm.getI hC fl_m1_18 rfl d_m1_enter_5 (fun v2 => ?_)
  refine Sm.iload_n hC d_m1_enter_8 rfl 1 rfl ?_
  refine Sm.iast hC d_m1_enter_9 (fun M3 => ?_)
  refine Sm.aload_n hC d_m1_enter_10 rfl 0 rfl ?_
  refine Sm.getR hC fl_m1_15 rfl d_m1_enter_11 (fun v4 => ?_)
  refine Sm.aload_n hC d_m1_enter_14 rfl 0 rfl ?_
  refine Sm.getI hC fl_m1_18 rfl d_m1_enter_15 (fun v5 => ?_)
  refine Sm.iload_n hC d_m1_enter_18 rfl 2 rfl ?_
  refine Sm.iast hC d_m1_enter_19 (fun M6 => ?_)
  refine Sm.aload_n hC d_m1_enter_20 rfl 0 rfl ?_
  refine Sm.dup hC d_m1_enter_21 (cat_rv _ _) ?_
  refine Sm.getI hC fl_m1_18 rfl d_m1_enter_22 (fun v7 => ?_)
  refine Sm.iconst (v := 1) hC d_m1_enter_25 (by decide) ?_
  refine Sm.iadd hC d_m1_enter_26 ?_
  refine Sm.putI hC fl_m1_18 rfl d_m1_enter_27 (fun M8 => ?_)
  exact Sm.vret hC d_m1_enter_30 rfl (Nat.sub_self _)
/-! NewsWire$Garbles.dropAheadOf(I)V -/
abbrev b_m1_dropAheadOf : ByteArray := prog_3_method_4_code
def y_m1_dropAheadOf : MethodName := ⟨"NewsWire$Garbles", "dropAheadOf", "(I)V"⟩
def rm_m1_dropAheadOf : Room := { frames := 1, cells := 0, slots := 0, locals := 60 }
theorem cw_m1_dropAheadOf : CW y_m1_dropAheadOf b_m1_dropAheadOf 4 none 1 := ⟨tw_i 58 (by decide +kernel), tw_i 692 (by decide +kernel), by decide, by decide, by decide +kernel⟩
theorem d_m1_dropAheadOf_0 : decode b_m1_dropAheadOf 0 = .ok (.iconst 0, 1) := by decide +kernel
theorem d_m1_dropAheadOf_1 : decode b_m1_dropAheadOf 1 = .ok (.istore_n 2, 1) := by decide +kernel
theorem d_m1_dropAheadOf_2 : decode b_m1_dropAheadOf 2 = .ok (.iconst 0, 1) := by decide +kernel
theorem d_m1_dropAheadOf_3 : decode b_m1_dropAheadOf 3 = .ok (.istore_n 3, 1) := by decide +kernel
theorem d_m1_dropAheadOf_4 : decode b_m1_dropAheadOf 4 = .ok (.iload_n 3, 1) := by decide +kernel
theorem d_m1_dropAheadOf_5 : decode b_m1_dropAheadOf 5 = .ok (.aload_n 0, 1) := by decide +kernel
theorem d_m1_dropAheadOf_6 : decode b_m1_dropAheadOf 6 = .ok (.getfield 18, 3) := by decide +kernel
theorem d_m1_dropAheadOf_9 : decode b_m1_dropAheadOf 9 = .ok (.if_icmp .ge 46, 3) := by decide +kernel
theorem d_m1_dropAheadOf_12 : decode b_m1_dropAheadOf 12 = .ok (.aload_n 0, 1) := by decide +kernel
theorem d_m1_dropAheadOf_13 : decode b_m1_dropAheadOf 13 = .ok (.getfield 15, 3) := by decide +kernel
theorem d_m1_dropAheadOf_16 : decode b_m1_dropAheadOf 16 = .ok (.iload_n 3, 1) := by decide +kernel
theorem d_m1_dropAheadOf_17 : decode b_m1_dropAheadOf 17 = .ok (.iaload, 1) := by decide +kernel
theorem d_m1_dropAheadOf_18 : decode b_m1_dropAheadOf 18 = .ok (.iload_n 1, 1) := by decide +kernel
theorem d_m1_dropAheadOf_19 : decode b_m1_dropAheadOf 19 = .ok (.if_icmp .lt 30, 3) := by decide +kernel
theorem d_m1_dropAheadOf_22 : decode b_m1_dropAheadOf 22 = .ok (.aload_n 0, 1) := by decide +kernel
theorem d_m1_dropAheadOf_23 : decode b_m1_dropAheadOf 23 = .ok (.getfield 9, 3) := by decide +kernel
theorem d_m1_dropAheadOf_26 : decode b_m1_dropAheadOf 26 = .ok (.iload_n 2, 1) := by decide +kernel
theorem d_m1_dropAheadOf_27 : decode b_m1_dropAheadOf 27 = .ok (.aload_n 0, 1) := by decide +kernel
theorem d_m1_dropAheadOf_28 : decode b_m1_dropAheadOf 28 = .ok (.getfield 9, 3) := by decide +kernel
theorem d_m1_dropAheadOf_31 : decode b_m1_dropAheadOf 31 = .ok (.iload_n 3, 1) := by decide +kernel
theorem d_m1_dropAheadOf_32 : decode b_m1_dropAheadOf 32 = .ok (.iaload, 1) := by decide +kernel
theorem d_m1_dropAheadOf_33 : decode b_m1_dropAheadOf 33 = .ok (.iastore, 1) := by decide +kernel
theorem d_m1_dropAheadOf_34 : decode b_m1_dropAheadOf 34 = .ok (.aload_n 0, 1) := by decide +kernel
theorem d_m1_dropAheadOf_35 : decode b_m1_dropAheadOf 35 = .ok (.getfield 15, 3) := by decide +kernel
theorem d_m1_dropAheadOf_38 : decode b_m1_dropAheadOf 38 = .ok (.iload_n 2, 1) := by decide +kernel
theorem d_m1_dropAheadOf_39 : decode b_m1_dropAheadOf 39 = .ok (.aload_n 0, 1) := by decide +kernel
theorem d_m1_dropAheadOf_40 : decode b_m1_dropAheadOf 40 = .ok (.getfield 15, 3) := by decide +kernel
theorem d_m1_dropAheadOf_43 : decode b_m1_dropAheadOf 43 = .ok (.iload_n 3, 1) := by decide +kernel
theorem d_m1_dropAheadOf_44 : decode b_m1_dropAheadOf 44 = .ok (.iaload, 1) := by decide +kernel
theorem d_m1_dropAheadOf_45 : decode b_m1_dropAheadOf 45 = .ok (.iastore, 1) := by decide +kernel
theorem d_m1_dropAheadOf_46 : decode b_m1_dropAheadOf 46 = .ok (.iinc 2 1, 3) := by decide +kernel
theorem d_m1_dropAheadOf_49 : decode b_m1_dropAheadOf 49 = .ok (.iinc 3 1, 3) := by decide +kernel
theorem d_m1_dropAheadOf_52 : decode b_m1_dropAheadOf 52 = .ok (.goto (-48), 3) := by decide +kernel
theorem d_m1_dropAheadOf_55 : decode b_m1_dropAheadOf 55 = .ok (.aload_n 0, 1) := by decide +kernel
theorem d_m1_dropAheadOf_56 : decode b_m1_dropAheadOf 56 = .ok (.iload_n 2, 1) := by decide +kernel
theorem d_m1_dropAheadOf_57 : decode b_m1_dropAheadOf 57 = .ok (.putfield 18, 3) := by decide +kernel
theorem d_m1_dropAheadOf_60 : decode b_m1_dropAheadOf 60 = .ok (.return_, 1) := by decide +kernel
def s_m1_dropAheadOf_49 (k4 : Nat → Int32 → Int32 → Int32 → Mm → Option (Unit × Mm)) (r0 : Nat) (x1 : Int32) (x2 : Int32) (x3 : Int32) (M : Mm) : Option (Unit × Mm) := k4 r0 x1 x2 (x3 + 1) M
def s_m1_dropAheadOf_4  : Nat → Nat → Int32 → Int32 → Int32 → Mm → Option (Unit × Mm)
  | 0, _, _, _, _, _ => none
  | n + 1, r0, x1, x2, x3, M => gI M r0 11 2 (fun v1 => (if v1 ≤ x3 then pI M r0 11 2 x2 (fun M2 => some ((), M2)) else gR M r0 11 1 (fun v3 => aI M v3 0 x3 (fun v4 => (if v4 < x1 then s_m1_dropAheadOf_49 (s_m1_dropAheadOf_4 n) r0 x1 x2 x3 M else gR M r0 11 0 (fun v5 => gR M r0 11 0 (fun v6 => aI M v6 0 x3 (fun v7 => sI M v5 0 x2 v7 (fun M8 => gR M8 r0 11 1 (fun v9 => gR M8 r0 11 1 (fun v10 => aI M8 v10 0 x3 (fun v11 => sI M8 v9 0 x2 v11 (fun M12 => s_m1_dropAheadOf_49 (s_m1_dropAheadOf_4 n) r0 x1 (x2 + 1) x3 M12)))))))))))))
def s_m1_dropAheadOf (r0 : Nat) (a1 : Int32) (M : Mm) : Option (Unit × Mm) := s_m1_dropAheadOf_4 FU r0 a1 (0 : Int32) (0 : Int32) M
set_option maxRecDepth 100000 in
set_option maxHeartbeats 4000000 in
theorem w_m1_dropAheadOf_49 {V : Ev} {C : Cx} {n0 : Nat} (hC : Cok V C y_m1_dropAheadOf.cls b_m1_dropAheadOf 4 n0 none y_m1_dropAheadOf.name) (hR : cR C = rm_m1_dropAheadOf) (k4 : Nat → Int32 → Int32 → Int32 → Mm → Option (Unit × Mm)) (hk4 : ∀ (r0 : Nat) (x1 : Int32) (x2 : Int32) (x3 : Int32) (M : Mm), Sm V C 4 n0 n0 (qV V C) 4 [(0, rv V.1 r0), (1, .int x1), (2, .int x2), (3, .int x3)] [] M (k4 r0 x1 x2 x3 M)) : ∀ (r0 : Nat) (x1 : Int32) (x2 : Int32) (x3 : Int32) (M : Mm), Sm V C 4 n0 n0 (qV V C) 49 [(0, rv V.1 r0), (1, .int x1), (2, .int x2), (3, .int x3)] [] M (s_m1_dropAheadOf_49 k4 r0 x1 x2 x3 M) := by
  intro r0 x1 x2 x3 M
  unfold s_m1_dropAheadOf_49
  refine Sm.iinc (v := x3 + 1) (lv' := [(3, .int (x3 + 1)), (0, rv V.1 r0), (1, .int x1), (2, .int x2)]) hC d_m1_dropAheadOf_49 3 rfl rfl (by decide) rfl ?_
  refine Sm.goto (tgt := 4) hC d_m1_dropAheadOf_52 (by decide) ?_
  refine Sm.sub [1, 2, 3, 0] rfl ?_
  exact hk4 r0 x1 x2 (x3 + 1) M
set_option maxRecDepth 100000 in
set_option maxHeartbeats 4000000 in
theorem w_m1_dropAheadOf_4 {V : Ev} {C : Cx} {n0 : Nat} (hC : Cok V C y_m1_dropAheadOf.cls b_m1_dropAheadOf 4 n0 none y_m1_dropAheadOf.name) (hR : cR C = rm_m1_dropAheadOf)  : ∀ (n : Nat) (r0 : Nat) (x1 : Int32) (x2 : Int32) (x3 : Int32) (M : Mm), Sm V C 4 n0 n0 (qV V C) 4 [(0, rv V.1 r0), (1, .int x1), (2, .int x2), (3, .int x3)] [] M (s_m1_dropAheadOf_4 n r0 x1 x2 x3 M) := by
  intro n
  induction n with
  | zero => exact fun r0 x1 x2 x3 M => Sm.none_
  | succ n ih =>
    intro r0 x1 x2 x3 M
    unfold s_m1_dropAheadOf_4
    refine Sm.iload_n hC d_m1_dropAheadOf_4 rfl 3 rfl ?_
    refine Sm.aload_n hC d_m1_dropAheadOf_5 rfl 0 rfl ?_
    refine Sm.getI hC fl_m1_18 rfl d_m1_dropAheadOf_6 (fun v1 => ?_)
    refine Sm.icmp_ge (tgt := 55) hC d_m1_dropAheadOf_9 (by decide) ?_ ?_
    · refine Sm.aload_n hC d_m1_dropAheadOf_55 rfl 0 rfl ?_
      refine Sm.iload_n hC d_m1_dropAheadOf_56 rfl 2 rfl ?_
      refine Sm.putI hC fl_m1_18 rfl d_m1_dropAheadOf_57 (fun M2 => ?_)
      exact Sm.vret hC d_m1_dropAheadOf_60 rfl (Nat.sub_self _)
    · refine Sm.aload_n hC d_m1_dropAheadOf_12 rfl 0 rfl ?_
      refine Sm.getR hC fl_m1_15 rfl d_m1_dropAheadOf_13 (fun v3 => ?_)
      refine Sm.iload_n hC d_m1_dropAheadOf_16 rfl 3 rfl ?_
      refine Sm.iald hC d_m1_dropAheadOf_17 (fun v4 => ?_)
      refine Sm.iload_n hC d_m1_dropAheadOf_18 rfl 1 rfl ?_
      refine Sm.icmp_lt (tgt := 49) hC d_m1_dropAheadOf_19 (by decide) ?_ ?_
      · exact w_m1_dropAheadOf_49 hC hR (s_m1_dropAheadOf_4 n) ih r0 x1 x2 x3 M
      · refine Sm.aload_n hC d_m1_dropAheadOf_22 rfl 0 rfl ?_
        refine Sm.getR hC fl_m1_9 rfl d_m1_dropAheadOf_23 (fun v5 => ?_)
        refine Sm.iload_n hC d_m1_dropAheadOf_26 rfl 2 rfl ?_
        refine Sm.aload_n hC d_m1_dropAheadOf_27 rfl 0 rfl ?_
        refine Sm.getR hC fl_m1_9 rfl d_m1_dropAheadOf_28 (fun v6 => ?_)
        refine Sm.iload_n hC d_m1_dropAheadOf_31 rfl 3 rfl ?_
        refine Sm.iald hC d_m1_dropAheadOf_32 (fun v7 => ?_)
        refine Sm.iast hC d_m1_dropAheadOf_33 (fun M8 => ?_)
        refine Sm.aload_n hC d_m1_dropAheadOf_34 rfl 0 rfl ?_
        refine Sm.getR hC fl_m1_15 rfl d_m1_dropAheadOf_35 (fun v9 => ?_)
        refine Sm.iload_n hC d_m1_dropAheadOf_38 rfl 2 rfl ?_
        refine Sm.aload_n hC d_m1_dropAheadOf_39 rfl 0 rfl ?_
        refine Sm.getR hC fl_m1_15 rfl d_m1_dropAheadOf_40 (fun v10 => ?_)
        refine Sm.iload_n hC d_m1_dropAheadOf_43 rfl 3 rfl ?_
        refine Sm.iald hC d_m1_dropAheadOf_44 (fun v11 => ?_)
        refine Sm.iast hC d_m1_dropAheadOf_45 (fun M12 => ?_)
        refine Sm.iinc (v := x2 + 1) (lv' := [(2, .int (x2 + 1)), (0, rv V.1 r0), (1, .int x1), (3, .int x3)]) hC d_m1_dropAheadOf_46 2 rfl rfl (by decide) rfl ?_
        refine Sm.sub [1, 2, 0, 3] rfl ?_
        exact w_m1_dropAheadOf_49 hC hR (s_m1_dropAheadOf_4 n) ih r0 x1 (x2 + 1) x3 M12
set_option maxRecDepth 100000 in
set_option maxHeartbeats 4000000 in
theorem ok_m1_dropAheadOf {l : Launch} {V : Ev} {M M' : Mm} {r : Unit} {r0 : Nat} {a1 : Int32} (h : s_m1_dropAheadOf r0 a1 M = some (r, M')) : Met l y_m1_dropAheadOf (Cond.code y_m1_dropAheadOf b_m1_dropAheadOf 4 none :: TW) rm_m1_dropAheadOf (va_Pc [rv V.1 r0, .int a1] (Wd V M)) (QC V none M' 0) 0 0 (Af V) := by
  refine met_of (fun _ : Unit => none) (lv0 := [(0, rv V.1 r0), (1, .int a1)]) (by decide) (by simp [lg_sl, cat_rv, cat_i, cat_l, cat_f]) (by simp [lv_args, cat_rv, cat_i, cat_l, cat_f]) (fun C hl hR hC => ?_) h
  subst hl
  generalize mN M = n0 at hC ⊢
  unfold s_m1_dropAheadOf
  refine Sm.iconst (v := 0) hC d_m1_dropAheadOf_0 (by decide) ?_
  refine Sm.istore_n (lv' := [(2, .int (0 : Int32)), (0, rv V.1 r0), (1, .int a1)]) hC d_m1_dropAheadOf_1 rfl (by decide) rfl ?_
  refine Sm.iconst (v := 0) hC d_m1_dropAheadOf_2 (by decide) ?_
  refine Sm.istore_n (lv' := [(3, .int (0 : Int32)), (2, .int (0 : Int32)), (0, rv V.1 r0), (1, .int a1)]) hC d_m1_dropAheadOf_3 rfl (by decide) rfl ?_
  refine Sm.sub [2, 3, 1, 0] rfl ?_
  exact w_m1_dropAheadOf_4 hC hR FU r0 a1 (0 : Int32) (0 : Int32) M
/-! NewsWire$Paper.hadBy(II)Z -/
theorem fl_m2_9 : FL "NewsWire$Paper" 9 2 0 2 true (.array .int) := ⟨_, _, _, _, rfl, in_c2, ty_c2, nm_c2, by decide, rfl, tw_i 339 (by decide +kernel), rfl, rfl, rfl, rfl⟩
abbrev b_m2_hadBy : ByteArray := prog_4_method_2_code
def y_m2_hadBy : MethodName := ⟨"NewsWire$Paper", "hadBy", "(II)Z"⟩
def rm_m2_hadBy : Room := { frames := 1, cells := 0, slots := 0, locals := 60 }
theorem cw_m2_hadBy : CW y_m2_hadBy b_m2_hadBy 3 (some .boolean) 2 := ⟨tw_i 65 (by decide +kernel), tw_i 736 (by decide +kernel), by decide, by decide, by decide +kernel⟩
theorem d_m2_hadBy_0 : decode b_m2_hadBy 0 = .ok (.aload_n 0, 1) := by decide +kernel
theorem d_m2_hadBy_1 : decode b_m2_hadBy 1 = .ok (.getfield 9, 3) := by decide +kernel
theorem d_m2_hadBy_4 : decode b_m2_hadBy 4 = .ok (.iload_n 1, 1) := by decide +kernel
theorem d_m2_hadBy_5 : decode b_m2_hadBy 5 = .ok (.iaload, 1) := by decide +kernel
theorem d_m2_hadBy_6 : decode b_m2_hadBy 6 = .ok (.iconst (-1), 1) := by decide +kernel
theorem d_m2_hadBy_7 : decode b_m2_hadBy 7 = .ok (.if_icmp .eq 17, 3) := by decide +kernel
theorem d_m2_hadBy_10 : decode b_m2_hadBy 10 = .ok (.aload_n 0, 1) := by decide +kernel
theorem d_m2_hadBy_11 : decode b_m2_hadBy 11 = .ok (.getfield 9, 3) := by decide +kernel
theorem d_m2_hadBy_14 : decode b_m2_hadBy 14 = .ok (.iload_n 1, 1) := by decide +kernel
theorem d_m2_hadBy_15 : decode b_m2_hadBy 15 = .ok (.iaload, 1) := by decide +kernel
theorem d_m2_hadBy_16 : decode b_m2_hadBy 16 = .ok (.iload_n 2, 1) := by decide +kernel
theorem d_m2_hadBy_17 : decode b_m2_hadBy 17 = .ok (.if_icmp .gt 7, 3) := by decide +kernel
theorem d_m2_hadBy_20 : decode b_m2_hadBy 20 = .ok (.iconst 1, 1) := by decide +kernel
theorem d_m2_hadBy_21 : decode b_m2_hadBy 21 = .ok (.goto 4, 3) := by decide +kernel
theorem d_m2_hadBy_24 : decode b_m2_hadBy 24 = .ok (.iconst 0, 1) := by decide +kernel
theorem d_m2_hadBy_25 : decode b_m2_hadBy 25 = .ok (.ireturn, 1) := by decide +kernel
def s_m2_hadBy_25  (t0 : Int32) (M : Mm) : Option (Int32 × Mm) := rz t0 (some (t0, M))
def s_m2_hadBy_24   (M : Mm) : Option (Int32 × Mm) := s_m2_hadBy_25 (0 : Int32) M
def s_m2_hadBy (r0 : Nat) (a1 : Int32) (a2 : Int32) (M : Mm) : Option (Int32 × Mm) := gR M r0 12 0 (fun v1 => aI M v1 0 a1 (fun v2 => (if v2 = (-1 : Int32) then s_m2_hadBy_24 M else gR M r0 12 0 (fun v3 => aI M v3 0 a1 (fun v4 => (if a2 < v4 then s_m2_hadBy_24 M else s_m2_hadBy_25 (1 : Int32) M))))))
set_option maxRecDepth 100000 in
set_option maxHeartbeats 4000000 in
theorem w_m2_hadBy_25 {V : Ev} {C : Cx} {n0 : Nat} (hC : Cok V C y_m2_hadBy.cls b_m2_hadBy 3 n0 (some .boolean) y_m2_hadBy.name) (hR : cR C = rm_m2_hadBy)  : ∀ (t0 : Int32) (M : Mm), Sm V C 3 n0 n0 (qI V C) 25 [] [.int t0] M (s_m2_hadBy_25 t0 M) := by
  intro t0 M
  unfold s_m2_hadBy_25
  exact Sm.zret hC d_m2_hadBy_25 rfl (Nat.sub_self _)
set_option maxRecDepth 100000 in
set_option maxHeartbeats 4000000 in
theorem w_m2_hadBy_24 {V : Ev} {C : Cx} {n0 : Nat} (hC : Cok V C y_m2_hadBy.cls b_m2_hadBy 3 n0 (some .boolean) y_m2_hadBy.name) (hR : cR C = rm_m2_hadBy)  : ∀  (M : Mm), Sm V C 3 n0 n0 (qI V C) 24 [] [] M (s_m2_hadBy_24 M) := by
  intro M
  unfold s_m2_hadBy_24
  refine Sm.iconst (v := 0) hC d_m2_hadBy_24 (by decide) ?_
  exact w_m2_hadBy_25 hC hR (0 : Int32) M
set_option maxRecDepth 100000 in
set_option maxHeartbeats 4000000 in
theorem ok_m2_hadBy {l : Launch} {V : Ev} {M M' : Mm} {r : Int32} {r0 : Nat} {a1 : Int32} {a2 : Int32} (h : s_m2_hadBy r0 a1 a2 M = some (r, M')) : Met l y_m2_hadBy (Cond.code y_m2_hadBy b_m2_hadBy 3 (some .boolean) :: TW) rm_m2_hadBy (va_Pc [rv V.1 r0, .int a1, .int a2] (Wd V M)) (QC V (some (.int r)) M' 0) 0 0 (Af V) := by
  refine met_of (fun x : Int32 => some (.int x)) (lv0 := [(0, rv V.1 r0), (1, .int a1), (2, .int a2)]) (by decide) (by simp [lg_sl, cat_rv, cat_i, cat_l, cat_f]) (by simp [lv_args, cat_rv, cat_i, cat_l, cat_f]) (fun C hl hR hC => ?_) h
  subst hl
  generalize mN M = n0 at hC ⊢
  unfold s_m2_hadBy
  refine Sm.aload_n hC d_m2_hadBy_0 rfl 0 rfl ?_
  refine Sm.getR hC fl_m2_9 rfl d_m2_hadBy_1 (fun v1 => ?_)
  refine Sm.iload_n hC d_m2_hadBy_4 rfl 1 rfl ?_
  refine Sm.iald hC d_m2_hadBy_5 (fun v2 => ?_)
  refine Sm.iconst (v := -1) hC d_m2_hadBy_6 (by decide) ?_
  refine Sm.icmp_eq (tgt := 24) hC d_m2_hadBy_7 (by decide) ?_ ?_
  · refine Sm.sub [] rfl ?_
    exact w_m2_hadBy_24 hC hR M
  · refine Sm.aload_n hC d_m2_hadBy_10 rfl 0 rfl ?_
    refine Sm.getR hC fl_m2_9 rfl d_m2_hadBy_11 (fun v3 => ?_)
    refine Sm.iload_n hC d_m2_hadBy_14 rfl 1 rfl ?_
    refine Sm.iald hC d_m2_hadBy_15 (fun v4 => ?_)
    refine Sm.iload_n hC d_m2_hadBy_16 rfl 2 rfl ?_
    refine Sm.icmp_gt (tgt := 24) hC d_m2_hadBy_17 (by decide) ?_ ?_
    · refine Sm.sub [] rfl ?_
      exact w_m2_hadBy_24 hC hR M
    · refine Sm.iconst (v := 1) hC d_m2_hadBy_20 (by decide) ?_
      refine Sm.goto (tgt := 25) hC d_m2_hadBy_21 (by decide) ?_
      refine Sm.sub [] rfl ?_
      exact w_m2_hadBy_25 hC hR (1 : Int32) M
/-! NewsWire$Paper.receive(II)V -/
abbrev b_m2_receive : ByteArray := prog_4_method_3_code
def y_m2_receive : MethodName := ⟨"NewsWire$Paper", "receive", "(II)V"⟩
def rm_m2_receive : Room := { frames := 1, cells := 0, slots := 0, locals := 60 }
theorem cw_m2_receive : CW y_m2_receive b_m2_receive 3 none 2 := ⟨tw_i 65 (by decide +kernel), tw_i 684 (by decide +kernel), by decide, by decide, by decide +kernel⟩
theorem d_m2_receive_0 : decode b_m2_receive 0 = .ok (.aload_n 0, 1) := by decide +kernel
theorem d_m2_receive_1 : decode b_m2_receive 1 = .ok (.getfield 9, 3) := by decide +kernel
theorem d_m2_receive_4 : decode b_m2_receive 4 = .ok (.iload_n 1, 1) := by decide +kernel
theorem d_m2_receive_5 : decode b_m2_receive 5 = .ok (.iaload, 1) := by decide +kernel
theorem d_m2_receive_6 : decode b_m2_receive 6 = .ok (.iconst (-1), 1) := by decide +kernel
theorem d_m2_receive_7 : decode b_m2_receive 7 = .ok (.if_icmp .ne 10, 3) := by decide +kernel
theorem d_m2_receive_10 : decode b_m2_receive 10 = .ok (.aload_n 0, 1) := by decide +kernel
theorem d_m2_receive_11 : decode b_m2_receive 11 = .ok (.getfield 9, 3) := by decide +kernel
theorem d_m2_receive_14 : decode b_m2_receive 14 = .ok (.iload_n 1, 1) := by decide +kernel
theorem d_m2_receive_15 : decode b_m2_receive 15 = .ok (.iload_n 2, 1) := by decide +kernel
theorem d_m2_receive_16 : decode b_m2_receive 16 = .ok (.iastore, 1) := by decide +kernel
theorem d_m2_receive_17 : decode b_m2_receive 17 = .ok (.return_, 1) := by decide +kernel
def s_m2_receive_17   (M : Mm) : Option (Unit × Mm) := some ((), M)
def s_m2_receive (r0 : Nat) (a1 : Int32) (a2 : Int32) (M : Mm) : Option (Unit × Mm) := gR M r0 12 0 (fun v1 => aI M v1 0 a1 (fun v2 => (if ¬ v2 = (-1 : Int32) then s_m2_receive_17 M else gR M r0 12 0 (fun v3 => sI M v3 0 a1 a2 (fun M4 => s_m2_receive_17 M4)))))
set_option maxRecDepth 100000 in
set_option maxHeartbeats 4000000 in
theorem w_m2_receive_17 {V : Ev} {C : Cx} {n0 : Nat} (hC : Cok V C y_m2_receive.cls b_m2_receive 3 n0 none y_m2_receive.name) (hR : cR C = rm_m2_receive)  : ∀  (M : Mm), Sm V C 3 n0 n0 (qV V C) 17 [] [] M (s_m2_receive_17 M) := by
  intro M
  unfold s_m2_receive_17
  exact Sm.vret hC d_m2_receive_17 rfl (Nat.sub_self _)
set_option maxRecDepth 100000 in
set_option maxHeartbeats 4000000 in
theorem ok_m2_receive {l : Launch} {V : Ev} {M M' : Mm} {r : Unit} {r0 : Nat} {a1 : Int32} {a2 : Int32} (h : s_m2_receive r0 a1 a2 M = some (r, M')) : Met l y_m2_receive (Cond.code y_m2_receive b_m2_receive 3 none :: TW) rm_m2_receive (va_Pc [rv V.1 r0, .int a1, .int a2] (Wd V M)) (QC V none M' 0) 0 0 (Af V) := by
  refine met_of (fun _ : Unit => none) (lv0 := [(0, rv V.1 r0), (1, .int a1), (2, .int a2)]) (by decide) (by simp [lg_sl, cat_rv, cat_i, cat_l, cat_f]) (by simp [lv_args, cat_rv, cat_i, cat_l, cat_f]) (fun C hl hR hC => ?_) h
  subst hl
  generalize mN M = n0 at hC ⊢
  unfold s_m2_receive
  refine Sm.aload_n hC d_m2_receive_0 rfl 0 rfl ?_
  refine Sm.getR hC fl_m2_9 rfl d_m2_receive_1 (fun v1 => ?_)
  refine Sm.iload_n hC d_m2_receive_4 rfl 1 rfl ?_
  refine Sm.iald hC d_m2_receive_5 (fun v2 => ?_)
  refine Sm.iconst (v := -1) hC d_m2_receive_6 (by decide) ?_
  refine Sm.icmp_ne (tgt := 17) hC d_m2_receive_7 (by decide) ?_ ?_
  · refine Sm.sub [] rfl ?_
    exact w_m2_receive_17 hC hR M
  · refine Sm.aload_n hC d_m2_receive_10 rfl 0 rfl ?_
    refine Sm.getR hC fl_m2_9 rfl d_m2_receive_11 (fun v3 => ?_)
    refine Sm.iload_n hC d_m2_receive_14 rfl 1 rfl ?_
    refine Sm.iload_n hC d_m2_receive_15 rfl 2 rfl ?_
    refine Sm.iast hC d_m2_receive_16 (fun M4 => ?_)
    refine Sm.sub [] rfl ?_
    exact w_m2_receive_17 hC hR M4
/-! NewsWire$Piece.isOfText()Z -/
theorem fl_m3_15 : FL "NewsWire$Piece" 15 3 1 0 false .int := ⟨_, _, _, _, rfl, in_c3, ty_c3, nm_c3, by decide, rfl, tw_i 299 (by decide +kernel), rfl, rfl, rfl, rfl⟩
abbrev b_m3_isOfText : ByteArray := prog_5_method_2_code
def y_m3_isOfText : MethodName := ⟨"NewsWire$Piece", "isOfText", "()Z"⟩
def rm_m3_isOfText : Room := { frames := 1, cells := 0, slots := 0, locals := 60 }
theorem cw_m3_isOfText : CW y_m3_isOfText b_m3_isOfText 1 (some .boolean) 0 := ⟨tw_i 64 (by decide +kernel), tw_i 450 (by decide +kernel), by decide, by decide, by decide +kernel⟩
theorem d_m3_isOfText_0 : decode b_m3_isOfText 0 = .ok (.aload_n 0, 1) := by decide +kernel
theorem d_m3_isOfText_1 : decode b_m3_isOfText 1 = .ok (.getfield 15, 3) := by decide +kernel
theorem d_m3_isOfText_4 : decode b_m3_isOfText 4 = .ok (.ifCond .eq 19, 3) := by decide +kernel
theorem d_m3_isOfText_7 : decode b_m3_isOfText 7 = .ok (.aload_n 0, 1) := by decide +kernel
theorem d_m3_isOfText_8 : decode b_m3_isOfText 8 = .ok (.getfield 15, 3) := by decide +kernel
theorem d_m3_isOfText_11 : decode b_m3_isOfText 11 = .ok (.iconst 5, 1) := by decide +kernel
theorem d_m3_isOfText_12 : decode b_m3_isOfText 12 = .ok (.if_icmp .eq 11, 3) := by decide +kernel
theorem d_m3_isOfText_15 : decode b_m3_isOfText 15 = .ok (.aload_n 0, 1) := by decide +kernel
theorem d_m3_isOfText_16 : decode b_m3_isOfText 16 = .ok (.getfield 15, 3) := by decide +kernel
theorem d_m3_isOfText_19 : decode b_m3_isOfText 19 = .ok (.iconst 1, 1) := by decide +kernel
theorem d_m3_isOfText_20 : decode b_m3_isOfText 20 = .ok (.if_icmp .ne 7, 3) := by decide +kernel
theorem d_m3_isOfText_23 : decode b_m3_isOfText 23 = .ok (.iconst 1, 1) := by decide +kernel
theorem d_m3_isOfText_24 : decode b_m3_isOfText 24 = .ok (.goto 4, 3) := by decide +kernel
theorem d_m3_isOfText_27 : decode b_m3_isOfText 27 = .ok (.iconst 0, 1) := by decide +kernel
theorem d_m3_isOfText_28 : decode b_m3_isOfText 28 = .ok (.ireturn, 1) := by decide +kernel
def s_m3_isOfText_28  (t0 : Int32) (M : Mm) : Option (Int32 × Mm) := rz t0 (some (t0, M))
def s_m3_isOfText_23   (M : Mm) : Option (Int32 × Mm) := s_m3_isOfText_28 (1 : Int32) M
def s_m3_isOfText (r0 : Nat) (M : Mm) : Option (Int32 × Mm) := gI M r0 13 1 (fun v1 => (if v1 = 0 then s_m3_isOfText_23 M else gI M r0 13 1 (fun v2 => (if v2 = (5 : Int32) then s_m3_isOfText_23 M else gI M r0 13 1 (fun v3 => (if ¬ v3 = (1 : Int32) then s_m3_isOfText_28 (0 : Int32) M else s_m3_isOfText_23 M))))))
set_option maxRecDepth 100000 in
set_option maxHeartbeats 4000000 in
theorem w_m3_isOfText_28 {V : Ev} {C : Cx} {n0 : Nat} (hC : Cok V C y_m3_isOfText.cls b_m3_isOfText 1 n0 (some .boolean) y_m3_isOfText.name) (hR : cR C = rm_m3_isOfText)  : ∀ (t0 : Int32) (M : Mm), Sm V C 1 n0 n0 (qI V C) 28 [] [.int t0] M (s_m3_isOfText_28 t0 M) := by
  intro t0 M
  unfold s_m3_isOfText_28
  exact Sm.zret hC d_m3_isOfText_28 rfl (Nat.sub_self _)
set_option maxRecDepth 100000 in
set_option maxHeartbeats 4000000 in
theorem w_m3_isOfText_23 {V : Ev} {C : Cx} {n0 : Nat} (hC : Cok V C y_m3_isOfText.cls b_m3_isOfText 1 n0 (some .boolean) y_m3_isOfText.name) (hR : cR C = rm_m3_isOfText)  : ∀  (M : Mm), Sm V C 1 n0 n0 (qI V C) 23 [] [] M (s_m3_isOfText_23 M) := by
  intro M
  unfold s_m3_isOfText_23
  refine Sm.iconst (v := 1) hC d_m3_isOfText_23 (by decide) ?_
  refine Sm.goto (tgt := 28) hC d_m3_isOfText_24 (by decide) ?_
  exact w_m3_isOfText_28 hC hR (1 : Int32) M
set_option maxRecDepth 100000 in
set_option maxHeartbeats 4000000 in
theorem ok_m3_isOfText {l : Launch} {V : Ev} {M M' : Mm} {r : Int32} {r0 : Nat} (h : s_m3_isOfText r0 M = some (r, M')) : Met l y_m3_isOfText (Cond.code y_m3_isOfText b_m3_isOfText 1 (some .boolean) :: TW) rm_m3_isOfText (va_Pc [rv V.1 r0] (Wd V M)) (QC V (some (.int r)) M' 0) 0 0 (Af V) := by
  refine met_of (fun x : Int32 => some (.int x)) (lv0 := [(0, rv V.1 r0)]) (by decide) (by simp [lg_sl, cat_rv, cat_i, cat_l, cat_f]) (by simp [lv_args, cat_rv, cat_i, cat_l, cat_f]) (fun C hl hR hC => ?_) h
  subst hl
  generalize mN M = n0 at hC ⊢
  unfold s_m3_isOfText
  refine Sm.aload_n hC d_m3_isOfText_0 rfl 0 rfl ?_
  refine Sm.getI hC fl_m3_15 rfl d_m3_isOfText_1 (fun v1 => ?_)
  refine Sm.if_eq (tgt := 23) hC d_m3_isOfText_4 (by decide) ?_ ?_
  · refine Sm.sub [] rfl ?_
    exact w_m3_isOfText_23 hC hR M
  · refine Sm.aload_n hC d_m3_isOfText_7 rfl 0 rfl ?_
    refine Sm.getI hC fl_m3_15 rfl d_m3_isOfText_8 (fun v2 => ?_)
    refine Sm.iconst (v := 5) hC d_m3_isOfText_11 (by decide) ?_
    refine Sm.icmp_eq (tgt := 23) hC d_m3_isOfText_12 (by decide) ?_ ?_
    · refine Sm.sub [] rfl ?_
      exact w_m3_isOfText_23 hC hR M
    · refine Sm.aload_n hC d_m3_isOfText_15 rfl 0 rfl ?_
      refine Sm.getI hC fl_m3_15 rfl d_m3_isOfText_16 (fun v3 => ?_)
      refine Sm.iconst (v := 1) hC d_m3_isOfText_19 (by decide) ?_
      refine Sm.icmp_ne (tgt := 27) hC d_m3_isOfText_20 (by decide) ?_ ?_
      · refine Sm.iconst (v := 0) hC d_m3_isOfText_27 (by decide) ?_
        refine Sm.sub [] rfl ?_
        exact w_m3_isOfText_28 hC hR (0 : Int32) M
      · refine Sm.sub [] rfl ?_
        exact w_m3_isOfText_23 hC hR M
/-! NewsWire$Row.isMissing()Z -/
theorem fl_m4_15 : FL "NewsWire$Row" 15 4 1 0 false .int := ⟨_, _, _, _, rfl, in_c4, ty_c4, nm_c4, by decide, rfl, tw_i 251 (by decide +kernel), rfl, rfl, rfl, rfl⟩
abbrev b_m4_isMissing : ByteArray := prog_6_method_2_code
def y_m4_isMissing : MethodName := ⟨"NewsWire$Row", "isMissing", "()Z"⟩
def rm_m4_isMissing : Room := { frames := 1, cells := 0, slots := 0, locals := 60 }
theorem cw_m4_isMissing : CW y_m4_isMissing b_m4_isMissing 1 (some .boolean) 0 := ⟨tw_i 62 (by decide +kernel), tw_i 429 (by decide +kernel), by decide, by decide, by decide +kernel⟩
theorem d_m4_isMissing_0 : decode b_m4_isMissing 0 = .ok (.aload_n 0, 1) := by decide +kernel
theorem d_m4_isMissing_1 : decode b_m4_isMissing 1 = .ok (.getfield 15, 3) := by decide +kernel
theorem d_m4_isMissing_4 : decode b_m4_isMissing 4 = .ok (.ifCond .ne 7, 3) := by decide +kernel
theorem d_m4_isMissing_7 : decode b_m4_isMissing 7 = .ok (.iconst 1, 1) := by decide +kernel
theorem d_m4_isMissing_8 : decode b_m4_isMissing 8 = .ok (.goto 4, 3) := by decide +kernel
theorem d_m4_isMissing_11 : decode b_m4_isMissing 11 = .ok (.iconst 0, 1) := by decide +kernel
theorem d_m4_isMissing_12 : decode b_m4_isMissing 12 = .ok (.ireturn, 1) := by decide +kernel
def s_m4_isMissing_12  (t0 : Int32) (M : Mm) : Option (Int32 × Mm) := rz t0 (some (t0, M))
def s_m4_isMissing (r0 : Nat) (M : Mm) : Option (Int32 × Mm) := gI M r0 14 1 (fun v1 => (if ¬ v1 = 0 then s_m4_isMissing_12 (0 : Int32) M else s_m4_isMissing_12 (1 : Int32) M))
set_option maxRecDepth 100000 in
set_option maxHeartbeats 4000000 in
theorem w_m4_isMissing_12 {V : Ev} {C : Cx} {n0 : Nat} (hC : Cok V C y_m4_isMissing.cls b_m4_isMissing 1 n0 (some .boolean) y_m4_isMissing.name) (hR : cR C = rm_m4_isMissing)  : ∀ (t0 : Int32) (M : Mm), Sm V C 1 n0 n0 (qI V C) 12 [] [.int t0] M (s_m4_isMissing_12 t0 M) := by
  intro t0 M
  unfold s_m4_isMissing_12
  exact Sm.zret hC d_m4_isMissing_12 rfl (Nat.sub_self _)
set_option maxRecDepth 100000 in
set_option maxHeartbeats 4000000 in
theorem ok_m4_isMissing {l : Launch} {V : Ev} {M M' : Mm} {r : Int32} {r0 : Nat} (h : s_m4_isMissing r0 M = some (r, M')) : Met l y_m4_isMissing (Cond.code y_m4_isMissing b_m4_isMissing 1 (some .boolean) :: TW) rm_m4_isMissing (va_Pc [rv V.1 r0] (Wd V M)) (QC V (some (.int r)) M' 0) 0 0 (Af V) := by
  refine met_of (fun x : Int32 => some (.int x)) (lv0 := [(0, rv V.1 r0)]) (by decide) (by simp [lg_sl, cat_rv, cat_i, cat_l, cat_f]) (by simp [lv_args, cat_rv, cat_i, cat_l, cat_f]) (fun C hl hR hC => ?_) h
  subst hl
  generalize mN M = n0 at hC ⊢
  unfold s_m4_isMissing
  refine Sm.aload_n hC d_m4_isMissing_0 rfl 0 rfl ?_
  refine Sm.getI hC fl_m4_15 rfl d_m4_isMissing_1 (fun v1 => ?_)
  refine Sm.if_ne (tgt := 11) hC d_m4_isMissing_4 (by decide) ?_ ?_
  · refine Sm.iconst (v := 0) hC d_m4_isMissing_11 (by decide) ?_
    refine Sm.sub [] rfl ?_
    exact w_m4_isMissing_12 hC hR (0 : Int32) M
  · refine Sm.iconst (v := 1) hC d_m4_isMissing_7 (by decide) ?_
    refine Sm.goto (tgt := 12) hC d_m4_isMissing_8 (by decide) ?_
    refine Sm.sub [] rfl ?_
    exact w_m4_isMissing_12 hC hR (1 : Int32) M
/-! NewsWire$Row.layZeros()V -/
theorem fl_m4_9 : FL "NewsWire$Row" 9 4 0 2 true (.array .int) := ⟨_, _, _, _, rfl, in_c4, ty_c4, nm_c4, by decide, rfl, tw_i 249 (by decide +kernel), rfl, rfl, rfl, rfl⟩
abbrev b_m4_layZeros : ByteArray := prog_6_method_3_code
def y_m4_layZeros : MethodName := ⟨"NewsWire$Row", "layZeros", "()V"⟩
def rm_m4_layZeros : Room := { frames := 1, cells := 0, slots := 0, locals := 60 }
theorem cw_m4_layZeros : CW y_m4_layZeros b_m4_layZeros 2 none 0 := ⟨tw_i 62 (by decide +kernel), tw_i 839 (by decide +kernel), by decide, by decide, by decide +kernel⟩
theorem d_m4_layZeros_0 : decode b_m4_layZeros 0 = .ok (.iconst 0, 1) := by decide +kernel
theorem d_m4_layZeros_1 : decode b_m4_layZeros 1 = .ok (.istore_n 1, 1) := by decide +kernel
theorem d_m4_layZeros_2 : decode b_m4_layZeros 2 = .ok (.iload_n 1, 1) := by decide +kernel
theorem d_m4_layZeros_3 : decode b_m4_layZeros 3 = .ok (.bipush 16, 2) := by decide +kernel
theorem d_m4_layZeros_5 : decode b_m4_layZeros 5 = .ok (.if_icmp .ge 16, 3) := by decide +kernel
theorem d_m4_layZeros_8 : decode b_m4_layZeros 8 = .ok (.aload_n 0, 1) := by decide +kernel
theorem d_m4_layZeros_9 : decode b_m4_layZeros 9 = .ok (.getfield 9, 3) := by decide +kernel
theorem d_m4_layZeros_12 : decode b_m4_layZeros 12 = .ok (.iload_n 1, 1) := by decide +kernel
theorem d_m4_layZeros_13 : decode b_m4_layZeros 13 = .ok (.iconst 0, 1) := by decide +kernel
theorem d_m4_layZeros_14 : decode b_m4_layZeros 14 = .ok (.iastore, 1) := by decide +kernel
theorem d_m4_layZeros_15 : decode b_m4_layZeros 15 = .ok (.iinc 1 1, 3) := by decide +kernel
theorem d_m4_layZeros_18 : decode b_m4_layZeros 18 = .ok (.goto (-16), 3) := by decide +kernel
theorem d_m4_layZeros_21 : decode b_m4_layZeros 21 = .ok (.aload_n 0, 1) := by decide +kernel
theorem d_m4_layZeros_22 : decode b_m4_layZeros 22 = .ok (.bipush 16, 2) := by decide +kernel
theorem d_m4_layZeros_24 : decode b_m4_layZeros 24 = .ok (.putfield 15, 3) := by decide +kernel
theorem d_m4_layZeros_27 : decode b_m4_layZeros 27 = .ok (.return_, 1) := by decide +kernel
def s_m4_layZeros_2  : Nat → Nat → Int32 → Mm → Option (Unit × Mm)
  | 0, _, _, _ => none
  | n + 1, r0, x1, M => (if (16 : Int32) ≤ x1 then pI M r0 14 1 (16 : Int32) (fun M1 => some ((), M1)) else gR M r0 14 0 (fun v2 => sI M v2 0 x1 (0 : Int32) (fun M3 => (s_m4_layZeros_2 n) r0 (x1 + 1) M3)))
def s_m4_layZeros (r0 : Nat) (M : Mm) : Option (Unit × Mm) := s_m4_layZeros_2 FU r0 (0 : Int32) M
set_option maxRecDepth 100000 in
set_option maxHeartbeats 4000000 in
theorem w_m4_layZeros_2 {V : Ev} {C : Cx} {n0 : Nat} (hC : Cok V C y_m4_layZeros.cls b_m4_layZeros 2 n0 none y_m4_layZeros.name) (hR : cR C = rm_m4_layZeros)  : ∀ (n : Nat) (r0 : Nat) (x1 : Int32) (M : Mm), Sm V C 2 n0 n0 (qV V C) 2 [(0, rv V.1 r0), (1, .int x1)] [] M (s_m4_layZeros_2 n r0 x1 M) := by
  intro n
  induction n with
  | zero => exact fun r0 x1 M => Sm.none_
  | succ n ih =>
    intro r0 x1 M
    unfold s_m4_layZeros_2
    refine Sm.iload_n hC d_m4_layZeros_2 rfl 1 rfl ?_
    refine Sm.bipush (v := 16) hC d_m4_layZeros_3 (by decide) ?_
    refine Sm.icmp_ge (tgt := 21) hC d_m4_layZeros_5 (by decide) ?_ ?_
    · refine Sm.aload_n hC d_m4_layZeros_21 rfl 0 rfl ?_
      refine Sm.bipush (v := 16) hC d_m4_layZeros_22 (by decide) ?_
      refine Sm.putI hC fl_m4_15 rfl d_m4_layZeros_24 (fun M1 => ?_)
      exact Sm.vret hC d_m4_layZeros_27 rfl (Nat.sub_self _)
    · refine Sm.aload_n hC d_m4_layZeros_8 rfl 0 rfl ?_
      refine Sm.getR hC fl_m4_9 rfl d_m4_layZeros_9 (fun v2 => ?_)
      refine Sm.iload_n hC d_m4_layZeros_12 rfl 1 rfl ?_
      refine Sm.iconst (v := 0) hC d_m4_layZeros_13 (by decide) ?_
      refine Sm.iast hC d_m4_layZeros_14 (fun M3 => ?_)
      refine Sm.iinc (v := x1 + 1) (lv' := [(1, .int (x1 + 1)), (0, rv V.1 r0)]) hC d_m4_layZeros_15 1 rfl rfl (by decide) (by simp [cat_rv]) ?_
      refine Sm.goto (tgt := 2) hC d_m4_layZeros_18 (by decide) ?_
      refine Sm.sub [1, 0] rfl ?_
      exact ih r0 (x1 + 1) M3
set_option maxRecDepth 100000 in
set_option maxHeartbeats 4000000 in
theorem ok_m4_layZeros {l : Launch} {V : Ev} {M M' : Mm} {r : Unit} {r0 : Nat} (h : s_m4_layZeros r0 M = some (r, M')) : Met l y_m4_layZeros (Cond.code y_m4_layZeros b_m4_layZeros 2 none :: TW) rm_m4_layZeros (va_Pc [rv V.1 r0] (Wd V M)) (QC V none M' 0) 0 0 (Af V) := by
  refine met_of (fun _ : Unit => none) (lv0 := [(0, rv V.1 r0)]) (by decide) (by simp [lg_sl, cat_rv, cat_i, cat_l, cat_f]) (by simp [lv_args, cat_rv, cat_i, cat_l, cat_f]) (fun C hl hR hC => ?_) h
  subst hl
  generalize mN M = n0 at hC ⊢
  unfold s_m4_layZeros
  refine Sm.iconst (v := 0) hC d_m4_layZeros_0 (by decide) ?_
  refine Sm.istore_n (lv' := [(1, .int (0 : Int32)), (0, rv V.1 r0)]) hC d_m4_layZeros_1 rfl (by decide) (by simp [cat_rv]) ?_
  refine Sm.sub [1, 0] rfl ?_
  exact w_m4_layZeros_2 hC hR FU r0 (0 : Int32) M
/-! NewsWire$Tape.rewind()V -/
theorem fl_m8_19 : FL "NewsWire$Tape" 19 8 2 0 false .int := ⟨_, _, _, _, rfl, in_c8, ty_c8, nm_c8, by decide, rfl, tw_i 232 (by decide +kernel), rfl, rfl, rfl, rfl⟩
theorem fl_m8_22 : FL "NewsWire$Tape" 22 8 3 0 false .int := ⟨_, _, _, _, rfl, in_c8, ty_c8, nm_c8, by decide, rfl, tw_i 233 (by decide +kernel), rfl, rfl, rfl, rfl⟩
abbrev b_m8_rewind : ByteArray := prog_10_method_3_code
def y_m8_rewind : MethodName := ⟨"NewsWire$Tape", "rewind", "()V"⟩
def rm_m8_rewind : Room := { frames := 1, cells := 0, slots := 0, locals := 60 }
theorem cw_m8_rewind : CW y_m8_rewind b_m8_rewind 1 none 0 := ⟨tw_i 61 (by decide +kernel), tw_i 488 (by decide +kernel), by decide, by decide, by decide +kernel⟩
theorem d_m8_rewind_0 : decode b_m8_rewind 0 = .ok (.aload_n 0, 1) := by decide +kernel
theorem d_m8_rewind_1 : decode b_m8_rewind 1 = .ok (.iconst 0, 1) := by decide +kernel
theorem d_m8_rewind_2 : decode b_m8_rewind 2 = .ok (.putfield 19, 3) := by decide +kernel
theorem d_m8_rewind_5 : decode b_m8_rewind 5 = .ok (.aload_n 0, 1) := by decide +kernel
theorem d_m8_rewind_6 : decode b_m8_rewind 6 = .ok (.iconst (-1), 1) := by decide +kernel
theorem d_m8_rewind_7 : decode b_m8_rewind 7 = .ok (.putfield 22, 3) := by decide +kernel
theorem d_m8_rewind_10 : decode b_m8_rewind 10 = .ok (.return_, 1) := by decide +kernel
def s_m8_rewind (r0 : Nat) (M : Mm) : Option (Unit × Mm) := pI M r0 18 2 (0 : Int32) (fun M1 => pI M1 r0 18 3 (-1 : Int32) (fun M2 => some ((), M2)))
set_option maxRecDepth 100000 in
set_option maxHeartbeats 4000000 in
theorem ok_m8_rewind {l : Launch} {V : Ev} {M M' : Mm} {r : Unit} {r0 : Nat} (h : s_m8_rewind r0 M = some (r, M')) : Met l y_m8_rewind (Cond.code y_m8_rewind b_m8_rewind 1 none :: TW) rm_m8_rewind (va_Pc [rv V.1 r0] (Wd V M)) (QC V none M' 0) 0 0 (Af V) := by
  refine met_of (fun _ : Unit => none) (lv0 := [(0, rv V.1 r0)]) (by decide) (by simp [lg_sl, cat_rv, cat_i, cat_l, cat_f]) (by simp [lv_args, cat_rv, cat_i, cat_l, cat_f]) (fun C hl hR hC => ?_) h
  subst hl
  generalize mN M = n0 at hC ⊢
  unfold s_m8_rewind
  refine Sm.aload_n hC d_m8_rewind_0 rfl 0 rfl ?_
  refine Sm.iconst (v := 0) hC d_m8_rewind_1 (by decide) ?_
  refine Sm.putI hC fl_m8_19 rfl d_m8_rewind_2 (fun M1 => ?_)
  refine Sm.aload_n hC d_m8_rewind_5 rfl 0 rfl ?_
  refine Sm.iconst (v := -1) hC d_m8_rewind_6 (by decide) ?_
  refine Sm.putI hC fl_m8_22 rfl d_m8_rewind_7 (fun M2 => ?_)
  exact Sm.vret hC d_m8_rewind_10 rfl (Nat.sub_self _)
/-! NewsWire$Tape.next()I -/
theorem fl_m8_15 : FL "NewsWire$Tape" 15 8 1 0 false .int := ⟨_, _, _, _, rfl, in_c8, ty_c8, nm_c8, by decide, rfl, tw_i 230 (by decide +kernel), rfl, rfl, rfl, rfl⟩
theorem fl_m8_9 : FL "NewsWire$Tape" 9 8 0 2 true (.array .int) := ⟨_, _, _, _, rfl, in_c8, ty_c8, nm_c8, by decide, rfl, tw_i 229 (by decide +kernel), rfl, rfl, rfl, rfl⟩
abbrev b_m8_next : ByteArray := prog_10_method_5_code
def y_m8_next : MethodName := ⟨"NewsWire$Tape", "next", "()I"⟩
def rm_m8_next : Room := { frames := 1, cells := 0, slots := 0, locals := 60 }
theorem cw_m8_next : CW y_m8_next b_m8_next 1 (some .int) 0 := ⟨tw_i 61 (by decide +kernel), tw_i 495 (by decide +kernel), by decide, by decide, by decide +kernel⟩
theorem d_m8_next_0 : decode b_m8_next 0 = .ok (.aload_n 0, 1) := by decide +kernel
theorem d_m8_next_1 : decode b_m8_next 1 = .ok (.getfield 19, 3) := by decide +kernel
theorem d_m8_next_4 : decode b_m8_next 4 = .ok (.aload_n 0, 1) := by decide +kernel
theorem d_m8_next_5 : decode b_m8_next 5 = .ok (.getfield 15, 3) := by decide +kernel
theorem d_m8_next_8 : decode b_m8_next 8 = .ok (.if_icmp .ge 24, 3) := by decide +kernel
theorem d_m8_next_11 : decode b_m8_next 11 = .ok (.aload_n 0, 1) := by decide +kernel
theorem d_m8_next_12 : decode b_m8_next 12 = .ok (.getfield 19, 3) := by decide +kernel
theorem d_m8_next_15 : decode b_m8_next 15 = .ok (.bipush 80, 2) := by decide +kernel
theorem d_m8_next_17 : decode b_m8_next 17 = .ok (.if_icmp .ge 15, 3) := by decide +kernel
theorem d_m8_next_20 : decode b_m8_next 20 = .ok (.aload_n 0, 1) := by decide +kernel
theorem d_m8_next_21 : decode b_m8_next 21 = .ok (.getfield 9, 3) := by decide +kernel
theorem d_m8_next_24 : decode b_m8_next 24 = .ok (.aload_n 0, 1) := by decide +kernel
theorem d_m8_next_25 : decode b_m8_next 25 = .ok (.getfield 19, 3) := by decide +kernel
theorem d_m8_next_28 : decode b_m8_next 28 = .ok (.iaload, 1) := by decide +kernel
theorem d_m8_next_29 : decode b_m8_next 29 = .ok (.goto 4, 3) := by decide +kernel
theorem d_m8_next_32 : decode b_m8_next 32 = .ok (.iconst (-1), 1) := by decide +kernel
theorem d_m8_next_33 : decode b_m8_next 33 = .ok (.ireturn, 1) := by decide +kernel
def s_m8_next_33  (t0 : Int32) (M : Mm) : Option (Int32 × Mm) := some (t0, M)
def s_m8_next_32   (M : Mm) : Option (Int32 × Mm) := s_m8_next_33 (-1 : Int32) M
def s_m8_next (r0 : Nat) (M : Mm) : Option (Int32 × Mm) := gI M r0 18 2 (fun v1 => gI M r0 18 1 (fun v2 => (if v2 ≤ v1 then s_m8_next_32 M else gI M r0 18 2 (fun v3 => (if (80 : Int32) ≤ v3 then s_m8_next_32 M else gR M r0 18 0 (fun v4 => gI M r0 18 2 (fun v5 => aI M v4 0 v5 (fun v6 => s_m8_next_33 v6 M))))))))
set_option maxRecDepth 100000 in
set_option maxHeartbeats 4000000 in
theorem w_m8_next_33 {V : Ev} {C : Cx} {n0 : Nat} (hC : Cok V C y_m8_next.cls b_m8_next 1 n0 (some .int) y_m8_next.name) (hR : cR C = rm_m8_next)  : ∀ (t0 : Int32) (M : Mm), Sm V C 1 n0 n0 (qI V C) 33 [] [.int t0] M (s_m8_next_33 t0 M) := by
  intro t0 M
  unfold s_m8_next_33
  exact Sm.iret hC d_m8_next_33 rfl (Nat.sub_self _)
set_option maxRecDepth 100000 in
set_option maxHeartbeats 4000000 in
theorem w_m8_next_32 {V : Ev} {C : Cx} {n0 : Nat} (hC : Cok V C y_m8_next.cls b_m8_next 1 n0 (some .int) y_m8_next.name) (hR : cR C = rm_m8_next)  : ∀  (M : Mm), Sm V C 1 n0 n0 (qI V C) 32 [] [] M (s_m8_next_32 M) := by
  intro M
  unfold s_m8_next_32
  refine Sm.iconst (v := -1) hC d_m8_next_32 (by decide) ?_
  exact w_m8_next_33 hC hR (-1 : Int32) M
set_option maxRecDepth 100000 in
set_option maxHeartbeats 4000000 in
theorem ok_m8_next {l : Launch} {V : Ev} {M M' : Mm} {r : Int32} {r0 : Nat} (h : s_m8_next r0 M = some (r, M')) : Met l y_m8_next (Cond.code y_m8_next b_m8_next 1 (some .int) :: TW) rm_m8_next (va_Pc [rv V.1 r0] (Wd V M)) (QC V (some (.int r)) M' 0) 0 0 (Af V) := by
  refine met_of (fun x : Int32 => some (.int x)) (lv0 := [(0, rv V.1 r0)]) (by decide) (by simp [lg_sl, cat_rv, cat_i, cat_l, cat_f]) (by simp [lv_args, cat_rv, cat_i, cat_l, cat_f]) (fun C hl hR hC => ?_) h
  subst hl
  generalize mN M = n0 at hC ⊢
  unfold s_m8_next
  refine Sm.aload_n hC d_m8_next_0 rfl 0 rfl ?_
  refine Sm.getI hC fl_m8_19 rfl d_m8_next_1 (fun v1 => ?_)
  refine Sm.aload_n hC d_m8_next_4 rfl 0 rfl ?_
  refine Sm.getI hC fl_m8_15 rfl d_m8_next_5 (fun v2 => ?_)
  refine Sm.icmp_ge (tgt := 32) hC d_m8_next_8 (by decide) ?_ ?_
  · refine Sm.sub [] rfl ?_
    exact w_m8_next_32 hC hR M
  · refine Sm.aload_n hC d_m8_next_11 rfl 0 rfl ?_
    refine Sm.getI hC fl_m8_19 rfl d_m8_next_12 (fun v3 => ?_)
    refine Sm.bipush (v := 80) hC d_m8_next_15 (by decide) ?_
    refine Sm.icmp_ge (tgt := 32) hC d_m8_next_17 (by decide) ?_ ?_
    · refine Sm.sub [] rfl ?_
      exact w_m8_next_32 hC hR M
    · refine Sm.aload_n hC d_m8_next_20 rfl 0 rfl ?_
      refine Sm.getR hC fl_m8_9 rfl d_m8_next_21 (fun v4 => ?_)
      refine Sm.aload_n hC d_m8_next_24 rfl 0 rfl ?_
      refine Sm.getI hC fl_m8_19 rfl d_m8_next_25 (fun v5 => ?_)
      refine Sm.iald hC d_m8_next_28 (fun v6 => ?_)
      refine Sm.goto (tgt := 33) hC d_m8_next_29 (by decide) ?_
      refine Sm.sub [] rfl ?_
      exact w_m8_next_33 hC hR v6 M
/-! NewsWire$Tape.expect(Ljava/lang/String;)V -/
abbrev b_m8_expect : ByteArray := prog_10_method_6_code
def y_m8_expect : MethodName := ⟨"NewsWire$Tape", "expect", "(Ljava/lang/String;)V"⟩
def rm_m8_expect : Room := { frames := 6, cells := 0, slots := 0, locals := 181 }
theorem cw_m8_expect : CW y_m8_expect b_m8_expect 3 none 1 := ⟨tw_i 61 (by decide +kernel), tw_i 500 (by decide +kernel), by decide, by decide, by decide +kernel⟩
theorem d_m8_expect_0 : decode b_m8_expect 0 = .ok (.iconst 0, 1) := by decide +kernel
theorem d_m8_expect_1 : decode b_m8_expect 1 = .ok (.istore_n 2, 1) := by decide +kernel
theorem d_m8_expect_2 : decode b_m8_expect 2 = .ok (.iload_n 2, 1) := by decide +kernel
theorem d_m8_expect_3 : decode b_m8_expect 3 = .ok (.aload_n 1, 1) := by decide +kernel
theorem d_m8_expect_4 : decode b_m8_expect 4 = .ok (.invokevirtual 25, 3) := by decide +kernel
theorem d_m8_expect_7 : decode b_m8_expect 7 = .ok (.if_icmp .ge 50, 3) := by decide +kernel
theorem d_m8_expect_10 : decode b_m8_expect 10 = .ok (.aload_n 0, 1) := by decide +kernel
theorem d_m8_expect_11 : decode b_m8_expect 11 = .ok (.getfield 22, 3) := by decide +kernel
theorem d_m8_expect_14 : decode b_m8_expect 14 = .ok (.iconst (-1), 1) := by decide +kernel
theorem d_m8_expect_15 : decode b_m8_expect 15 = .ok (.if_icmp .ne 42, 3) := by decide +kernel
theorem d_m8_expect_18 : decode b_m8_expect 18 = .ok (.aload_n 0, 1) := by decide +kernel
theorem d_m8_expect_19 : decode b_m8_expect 19 = .ok (.invokevirtual 30, 3) := by decide +kernel
theorem d_m8_expect_22 : decode b_m8_expect 22 = .ok (.aload_n 1, 1) := by decide +kernel
theorem d_m8_expect_23 : decode b_m8_expect 23 = .ok (.iload_n 2, 1) := by decide +kernel
theorem d_m8_expect_24 : decode b_m8_expect 24 = .ok (.invokevirtual 33, 3) := by decide +kernel
theorem d_m8_expect_27 : decode b_m8_expect 27 = .ok (.if_icmp .ne 16, 3) := by decide +kernel
theorem d_m8_expect_30 : decode b_m8_expect 30 = .ok (.aload_n 0, 1) := by decide +kernel
theorem d_m8_expect_31 : decode b_m8_expect 31 = .ok (.dup, 1) := by decide +kernel
theorem d_m8_expect_32 : decode b_m8_expect 32 = .ok (.getfield 19, 3) := by decide +kernel
theorem d_m8_expect_35 : decode b_m8_expect 35 = .ok (.iconst 1, 1) := by decide +kernel
theorem d_m8_expect_36 : decode b_m8_expect 36 = .ok (.iadd, 1) := by decide +kernel
theorem d_m8_expect_37 : decode b_m8_expect 37 = .ok (.putfield 19, 3) := by decide +kernel
theorem d_m8_expect_40 : decode b_m8_expect 40 = .ok (.goto 11, 3) := by decide +kernel
theorem d_m8_expect_43 : decode b_m8_expect 43 = .ok (.aload_n 0, 1) := by decide +kernel
theorem d_m8_expect_44 : decode b_m8_expect 44 = .ok (.aload_n 0, 1) := by decide +kernel
theorem d_m8_expect_45 : decode b_m8_expect 45 = .ok (.getfield 19, 3) := by decide +kernel
theorem d_m8_expect_48 : decode b_m8_expect 48 = .ok (.putfield 22, 3) := by decide +kernel
theorem d_m8_expect_51 : decode b_m8_expect 51 = .ok (.iinc 2 1, 3) := by decide +kernel
theorem d_m8_expect_54 : decode b_m8_expect 54 = .ok (.goto (-52), 3) := by decide +kernel
theorem d_m8_expect_57 : decode b_m8_expect 57 = .ok (.return_, 1) := by decide +kernel
def s_m8_expect_57   (M : Mm) : Option (Unit × Mm) := some ((), M)
def s_m8_expect_51 (k2 : Nat → Nat → Int32 → Mm → Option (Unit × Mm)) (r0 : Nat) (q1 : Nat) (x2 : Int32) (M : Mm) : Option (Unit × Mm) := k2 r0 q1 (x2 + 1) M
def s_m8_expect_2  : Nat → Nat → Nat → Int32 → Mm → Option (Unit × Mm)
  | 0, _, _, _, _ => none
  | n + 1, r0, q1, x2, M => tL q1 (fun v1 => (if v1 ≤ x2 then s_m8_expect_57 M else gI M r0 18 3 (fun v2 => (if ¬ v2 = (-1 : Int32) then s_m8_expect_57 M else cl (has M r0 18) (s_m8_next r0 M) (fun v3 M4 => tC q1 x2 (fun v5 => (if ¬ v3 = v5 then gI M4 r0 18 2 (fun v6 => pI M4 r0 18 3 v6 (fun M7 => s_m8_expect_51 (s_m8_expect_2 n) r0 q1 x2 M7)) else gI M4 r0 18 2 (fun v8 => pI M4 r0 18 2 (v8 + (1 : Int32)) (fun M9 => s_m8_expect_51 (s_m8_expect_2 n) r0 q1 x2 M9)))))))))
def s_m8_expect (r0 : Nat) (q1 : Nat) (M : Mm) : Option (Unit × Mm) := s_m8_expect_2 FU r0 q1 (0 : Int32) M
set_option maxRecDepth 100000 in
set_option maxHeartbeats 4000000 in
theorem w_m8_expect_57 {V : Ev} {C : Cx} {n0 : Nat} (hC : Cok V C y_m8_expect.cls b_m8_expect 3 n0 none y_m8_expect.name) (hR : cR C = rm_m8_expect)  : ∀  (M : Mm), Sm V C 3 n0 n0 (qV V C) 57 [] [] M (s_m8_expect_57 M) := by
  intro M
  unfold s_m8_expect_57
  exact Sm.vret hC d_m8_expect_57 rfl (Nat.sub_self _)
set_option maxRecDepth 100000 in
set_option maxHeartbeats 4000000 in
theorem w_m8_expect_51 {V : Ev} {C : Cx} {n0 : Nat} (hC : Cok V C y_m8_expect.cls b_m8_expect 3 n0 none y_m8_expect.name) (hR : cR C = rm_m8_expect) (k2 : Nat → Nat → Int32 → Mm → Option (Unit × Mm)) (hk2 : ∀ (r0 : Nat) (q1 : Nat) (x2 : Int32) (M : Mm), Sm V C 3 n0 n0 (qV V C) 2 [(0, rv V.1 r0), (1, .ref (V.2.2.2.1 q1)), (2, .int x2)] [] M (k2 r0 q1 x2 M)) : ∀ (r0 : Nat) (q1 : Nat) (x2 : Int32) (M : Mm), Sm V C 3 n0 n0 (qV V C) 51 [(0, rv V.1 r0), (1, .ref (V.2.2.2.1 q1)), (2, .int x2)] [] M (s_m8_expect_51 k2 r0 q1 x2 M) := by
  intro r0 q1 x2 M
  unfold s_m8_expect_51
  refine Sm.iinc (v := x2 + 1) (lv' := [(2, .int (x2 + 1)), (0, rv V.1 r0), (1, .ref (V.2.2.2.1 q1))]) hC d_m8_expect_51 2 rfl rfl (by decide) rfl ?_
  refine Sm.goto (tgt := 2) hC d_m8_expect_54 (by decide) ?_
  refine Sm.sub [1, 2, 0] rfl ?_
  exact hk2 r0 q1 (x2 + 1) M
set_option maxRecDepth 100000 in
set_option maxHeartbeats 4000000 in
theorem w_m8_expect_2 {V : Ev} {C : Cx} {n0 : Nat} (hC : Cok V C y_m8_expect.cls b_m8_expect 3 n0 none y_m8_expect.name) (hR : cR C = rm_m8_expect)  : ∀ (n : Nat) (r0 : Nat) (q1 : Nat) (x2 : Int32) (M : Mm), Sm V C 3 n0 n0 (qV V C) 2 [(0, rv V.1 r0), (1, .ref (V.2.2.2.1 q1)), (2, .int x2)] [] M (s_m8_expect_2 n r0 q1 x2 M) := by
  intro n
  induction n with
  | zero => exact fun r0 q1 x2 M => Sm.none_
  | succ n ih =>
    intro r0 q1 x2 M
    unfold s_m8_expect_2
    refine Sm.iload_n hC d_m8_expect_2 rfl 2 rfl ?_
    refine Sm.aloadS_n hC d_m8_expect_3 rfl 1 rfl ?_
    refine Sm.strL hC hR (tw_i 501 (by decide +kernel)) (by decide) (by simp) d_m8_expect_4 (fun v1 => ?_)
    refine Sm.icmp_ge (tgt := 57) hC d_m8_expect_7 (by decide) ?_ ?_
    · refine Sm.sub [] rfl ?_
      exact w_m8_expect_57 hC hR M
    · refine Sm.aload_n hC d_m8_expect_10 rfl 0 rfl ?_
      refine Sm.getI hC fl_m8_22 rfl d_m8_expect_11 (fun v2 => ?_)
      refine Sm.iconst (v := -1) hC d_m8_expect_14 (by decide) ?_
      refine Sm.icmp_ne (tgt := 57) hC d_m8_expect_15 (by decide) ?_ ?_
      · refine Sm.sub [] rfl ?_
        exact w_m8_expect_57 hC hR M
      · refine Sm.aload_n hC d_m8_expect_18 rfl 0 rfl ?_
        refine Sm.callVi 8 (As := []) (st := []) hC hR cw_m8_next (tw_i 511 (by decide +kernel)) (tw_i 493 (by decide +kernel)) (tw_i 494 (by decide +kernel)) ⟨_, rfl, rfl⟩ (fun r9 M9 h9 => ok_m8_next h9) rfl rfl (RW.of ⟨rfl, rfl, by decide, by decide⟩) (by simp) d_m8_expect_19 (fun v3 M4 => ?_)
        refine Sm.aloadS_n hC d_m8_expect_22 rfl 1 rfl ?_
        refine Sm.iload_n hC d_m8_expect_23 rfl 2 rfl ?_
        refine Sm.strC hC hR (tw_i 512 (by decide +kernel)) (by decide) (by simp) d_m8_expect_24 (fun v5 => ?_)
        refine Sm.icmp_ne (tgt := 43) hC d_m8_expect_27 (by decide) ?_ ?_
        · refine Sm.aload_n hC d_m8_expect_43 rfl 0 rfl ?_
          refine Sm.aload_n hC d_m8_expect_44 rfl 0 rfl ?_
          refine Sm.getI hC fl_m8_19 rfl d_m8_expect_45 (fun v6 => ?_)
          refine Sm.putI hC fl_m8_22 rfl d_m8_expect_48 (fun M7 => ?_)
          exact w_m8_expect_51 hC hR (s_m8_expect_2 n) ih r0 q1 x2 M7
        · refine Sm.aload_n hC d_m8_expect_30 rfl 0 rfl ?_
          refine Sm.dup hC d_m8_expect_31 (cat_rv _ _) ?_
          refine Sm.getI hC fl_m8_19 rfl d_m8_expect_32 (fun v8 => ?_)
          refine Sm.iconst (v := 1) hC d_m8_expect_35 (by decide) ?_
          refine Sm.iadd hC d_m8_expect_36 ?_
          refine Sm.putI hC fl_m8_19 rfl d_m8_expect_37 (fun M9 => ?_)
          refine Sm.goto (tgt := 51) hC d_m8_expect_40 (by decide) ?_
          exact w_m8_expect_51 hC hR (s_m8_expect_2 n) ih r0 q1 x2 M9
set_option maxRecDepth 100000 in
set_option maxHeartbeats 4000000 in
theorem ok_m8_expect {l : Launch} {V : Ev} {M M' : Mm} {r : Unit} {r0 : Nat} {q1 : Nat} (h : s_m8_expect r0 q1 M = some (r, M')) : Met l y_m8_expect (Cond.code y_m8_expect b_m8_expect 3 none :: TW) rm_m8_expect (va_Pc [rv V.1 r0, .ref (V.2.2.2.1 q1)] (Wd V M)) (QC V none M' 0) 0 0 (Af V) := by
  refine met_of (fun _ : Unit => none) (lv0 := [(0, rv V.1 r0), (1, .ref (V.2.2.2.1 q1))]) (by decide) (by simp [lg_sl, cat_rv, cat_i, cat_l, cat_f]) (by simp [lv_args, cat_rv, cat_i, cat_l, cat_f]) (fun C hl hR hC => ?_) h
  subst hl
  generalize mN M = n0 at hC ⊢
  unfold s_m8_expect
  refine Sm.iconst (v := 0) hC d_m8_expect_0 (by decide) ?_
  refine Sm.istore_n (lv' := [(2, .int (0 : Int32)), (0, rv V.1 r0), (1, .ref (V.2.2.2.1 q1))]) hC d_m8_expect_1 rfl (by decide) rfl ?_
  refine Sm.sub [1, 2, 0] rfl ?_
  exact w_m8_expect_2 hC hR FU r0 q1 (0 : Int32) M
/-! NewsWire$Rule.readKey(LNewsWire$Tape;)I -/
abbrev b_m5_readKey : ByteArray := prog_7_method_3_code
def y_m5_readKey : MethodName := ⟨"NewsWire$Rule", "readKey", "(LNewsWire$Tape;)I"⟩
def rm_m5_readKey : Room := { frames := 7, cells := 0, slots := 0, locals := 203 }
theorem cw_m5_readKey : CW y_m5_readKey b_m5_readKey 1 (some .int) 1 := ⟨tw_i 57 (by decide +kernel), tw_i 491 (by decide +kernel), by decide, by decide, by decide +kernel⟩
theorem d_m5_readKey_0 : decode b_m5_readKey 0 = .ok (.aload_n 0, 1) := by decide +kernel
theorem d_m5_readKey_1 : decode b_m5_readKey 1 = .ok (.invokevirtual 67, 3) := by decide +kernel
theorem d_m5_readKey_4 : decode b_m5_readKey 4 = .ok (.lookupswitch 44 #[(98, 28), (99, 36)], 28) := by decide +kernel
theorem d_m5_readKey_32 : decode b_m5_readKey 32 = .ok (.aload_n 0, 1) := by decide +kernel
theorem d_m5_readKey_33 : decode b_m5_readKey 33 = .ok (.ldc 70, 2) := by decide +kernel
theorem d_m5_readKey_35 : decode b_m5_readKey 35 = .ok (.invokevirtual 39, 3) := by decide +kernel
theorem d_m5_readKey_38 : decode b_m5_readKey 38 = .ok (.iconst 1, 1) := by decide +kernel
theorem d_m5_readKey_39 : decode b_m5_readKey 39 = .ok (.ireturn, 1) := by decide +kernel
theorem d_m5_readKey_40 : decode b_m5_readKey 40 = .ok (.aload_n 0, 1) := by decide +kernel
theorem d_m5_readKey_41 : decode b_m5_readKey 41 = .ok (.ldc 72, 2) := by decide +kernel
theorem d_m5_readKey_43 : decode b_m5_readKey 43 = .ok (.invokevirtual 39, 3) := by decide +kernel
theorem d_m5_readKey_46 : decode b_m5_readKey 46 = .ok (.iconst 2, 1) := by decide +kernel
theorem d_m5_readKey_47 : decode b_m5_readKey 47 = .ok (.ireturn, 1) := by decide +kernel
theorem d_m5_readKey_48 : decode b_m5_readKey 48 = .ok (.aload_n 0, 1) := by decide +kernel
theorem d_m5_readKey_49 : decode b_m5_readKey 49 = .ok (.ldc 74, 2) := by decide +kernel
theorem d_m5_readKey_51 : decode b_m5_readKey 51 = .ok (.invokevirtual 39, 3) := by decide +kernel
theorem d_m5_readKey_54 : decode b_m5_readKey 54 = .ok (.iconst 0, 1) := by decide +kernel
theorem d_m5_readKey_55 : decode b_m5_readKey 55 = .ok (.ireturn, 1) := by decide +kernel
def s_m5_readKey (r0 : Nat) (M : Mm) : Option (Int32 × Mm) := cl (has M r0 18) (s_m8_next r0 M) (fun v1 M2 => (if v1 = 98 then cl (has M2 r0 18) (s_m8_expect r0 0 M2) (fun _ M3 => some ((1 : Int32), M3)) else if v1 = 99 then cl (has M2 r0 18) (s_m8_expect r0 1 M2) (fun _ M4 => some ((2 : Int32), M4)) else cl (has M2 r0 18) (s_m8_expect r0 2 M2) (fun _ M5 => some ((0 : Int32), M5))))
set_option maxRecDepth 100000 in
set_option maxHeartbeats 4000000 in
theorem ok_m5_readKey {l : Launch} {V : Ev} {M M' : Mm} {r : Int32} {r0 : Nat} (h : s_m5_readKey r0 M = some (r, M')) : Met l y_m5_readKey (Cond.code y_m5_readKey b_m5_readKey 1 (some .int) :: TW) rm_m5_readKey (va_Pc [rv V.1 r0] (Wd V M)) (QC V (some (.int r)) M' 0) 0 0 (Af V) := by
  refine met_of (fun x : Int32 => some (.int x)) (lv0 := [(0, rv V.1 r0)]) (by decide) (by simp [lg_sl, cat_rv, cat_i, cat_l, cat_f]) (by simp [lv_args, cat_rv, cat_i, cat_l, cat_f]) (fun C hl hR hC => ?_) h
  subst hl
  generalize mN M = n0 at hC ⊢
  unfold s_m5_readKey
  refine Sm.aload_n hC d_m5_readKey_0 rfl 0 rfl ?_
  refine Sm.callVi 8 (As := []) (st := []) hC hR cw_m8_next (tw_i 492 (by decide +kernel)) (tw_i 493 (by decide +kernel)) (tw_i 494 (by decide +kernel)) ⟨_, rfl, rfl⟩ (fun r9 M9 h9 => ok_m8_next h9) rfl rfl (RW.of ⟨rfl, rfl, by decide, by decide⟩) (by simp) d_m5_readKey_1 (fun v1 M2 => ?_)
  refine Sm.if_ (fun h9 => ?_) (fun h4_0 => ?_)
  · refine Sm.lsw (tgt := 32) (off := 28) hC d_m5_readKey_4 (by decide) (by rw [h9] <;> rfl) (by decide) ?_
    refine Sm.aload_n hC d_m5_readKey_32 rfl 0 rfl ?_
    refine Sm.ldcS hC 0 d_m5_readKey_33 rfl ?_
    refine Sm.callVv 8 (As := [.ref (V.2.2.2.1 0)]) (st := []) hC hR cw_m8_expect (tw_i 497 (by decide +kernel)) (tw_i 498 (by decide +kernel)) (tw_i 499 (by decide +kernel)) ⟨_, rfl, rfl⟩ (fun r9 M9 h9 => ok_m8_expect h9) rfl rfl (RW.of ⟨rfl, rfl, by decide, by decide⟩) (by simp) d_m5_readKey_35 (fun _ M3 => ?_)
    refine Sm.iconst (v := 1) hC d_m5_readKey_38 (by decide) ?_
    exact Sm.iret hC d_m5_readKey_39 rfl (Nat.sub_self _)
  refine Sm.if_ (fun h9 => ?_) (fun h4_1 => ?_)
  · refine Sm.lsw (tgt := 40) (off := 36) hC d_m5_readKey_4 (by decide) (by rw [h9] <;> rfl) (by decide) ?_
    refine Sm.aload_n hC d_m5_readKey_40 rfl 0 rfl ?_
    refine Sm.ldcS hC 1 d_m5_readKey_41 rfl ?_
    refine Sm.callVv 8 (As := [.ref (V.2.2.2.1 1)]) (st := []) hC hR cw_m8_expect (tw_i 497 (by decide +kernel)) (tw_i 498 (by decide +kernel)) (tw_i 499 (by decide +kernel)) ⟨_, rfl, rfl⟩ (fun r9 M9 h9 => ok_m8_expect h9) rfl rfl (RW.of ⟨rfl, rfl, by decide, by decide⟩) (by simp) d_m5_readKey_43 (fun _ M4 => ?_)
    refine Sm.iconst (v := 2) hC d_m5_readKey_46 (by decide) ?_
    exact Sm.iret hC d_m5_readKey_47 rfl (Nat.sub_self _)
  refine Sm.lsw (tgt := 48) (off := 44) hC d_m5_readKey_4 (by decide) ((lv_osw h4_0 rfl).trans ((lv_osw h4_1 rfl).trans (rfl))) (by decide) ?_
  refine Sm.aload_n hC d_m5_readKey_48 rfl 0 rfl ?_
  refine Sm.ldcS hC 2 d_m5_readKey_49 rfl ?_
  refine Sm.callVv 8 (As := [.ref (V.2.2.2.1 2)]) (st := []) hC hR cw_m8_expect (tw_i 497 (by decide +kernel)) (tw_i 498 (by decide +kernel)) (tw_i 499 (by decide +kernel)) ⟨_, rfl, rfl⟩ (fun r9 M9 h9 => ok_m8_expect h9) rfl rfl (RW.of ⟨rfl, rfl, by decide, by decide⟩) (by simp) d_m5_readKey_51 (fun _ M5 => ?_)
  refine Sm.iconst (v := 0) hC d_m5_readKey_54 (by decide) ?_
  exact Sm.iret hC d_m5_readKey_55 rfl (Nat.sub_self _)
/-! NewsWire$Tape.expectNumber()I -/
abbrev b_m8_expectNumber : ByteArray := prog_10_method_7_code
def y_m8_expectNumber : MethodName := ⟨"NewsWire$Tape", "expectNumber", "()I"⟩
def rm_m8_expectNumber : Room := { frames := 2, cells := 0, slots := 0, locals := 80 }
theorem cw_m8_expectNumber : CW y_m8_expectNumber b_m8_expectNumber 3 (some .int) 0 := ⟨tw_i 61 (by decide +kernel), tw_i 556 (by decide +kernel), by decide, by decide, by decide +kernel⟩
theorem d_m8_expectNumber_0 : decode b_m8_expectNumber 0 = .ok (.iconst 0, 1) := by decide +kernel
theorem d_m8_expectNumber_1 : decode b_m8_expectNumber 1 = .ok (.istore_n 1, 1) := by decide +kernel
theorem d_m8_expectNumber_2 : decode b_m8_expectNumber 2 = .ok (.iconst 0, 1) := by decide +kernel
theorem d_m8_expectNumber_3 : decode b_m8_expectNumber 3 = .ok (.istore_n 2, 1) := by decide +kernel
theorem d_m8_expectNumber_4 : decode b_m8_expectNumber 4 = .ok (.aload_n 0, 1) := by decide +kernel
theorem d_m8_expectNumber_5 : decode b_m8_expectNumber 5 = .ok (.getfield 22, 3) := by decide +kernel
theorem d_m8_expectNumber_8 : decode b_m8_expectNumber 8 = .ok (.iconst (-1), 1) := by decide +kernel
theorem d_m8_expectNumber_9 : decode b_m8_expectNumber 9 = .ok (.if_icmp .ne 55, 3) := by decide +kernel
theorem d_m8_expectNumber_12 : decode b_m8_expectNumber 12 = .ok (.iload_n 2, 1) := by decide +kernel
theorem d_m8_expectNumber_13 : decode b_m8_expectNumber 13 = .ok (.iconst 4, 1) := by decide +kernel
theorem d_m8_expectNumber_14 : decode b_m8_expectNumber 14 = .ok (.if_icmp .ge 50, 3) := by decide +kernel
theorem d_m8_expectNumber_17 : decode b_m8_expectNumber 17 = .ok (.aload_n 0, 1) := by decide +kernel
theorem d_m8_expectNumber_18 : decode b_m8_expectNumber 18 = .ok (.invokevirtual 30, 3) := by decide +kernel
theorem d_m8_expectNumber_21 : decode b_m8_expectNumber 21 = .ok (.bipush 48, 2) := by decide +kernel
theorem d_m8_expectNumber_23 : decode b_m8_expectNumber 23 = .ok (.if_icmp .lt 41, 3) := by decide +kernel
theorem d_m8_expectNumber_26 : decode b_m8_expectNumber 26 = .ok (.aload_n 0, 1) := by decide +kernel
theorem d_m8_expectNumber_27 : decode b_m8_expectNumber 27 = .ok (.invokevirtual 30, 3) := by decide +kernel
theorem d_m8_expectNumber_30 : decode b_m8_expectNumber 30 = .ok (.bipush 57, 2) := by decide +kernel
theorem d_m8_expectNumber_32 : decode b_m8_expectNumber 32 = .ok (.if_icmp .gt 32, 3) := by decide +kernel
theorem d_m8_expectNumber_35 : decode b_m8_expectNumber 35 = .ok (.iload_n 1, 1) := by decide +kernel
theorem d_m8_expectNumber_36 : decode b_m8_expectNumber 36 = .ok (.bipush 10, 2) := by decide +kernel
theorem d_m8_expectNumber_38 : decode b_m8_expectNumber 38 = .ok (.imul, 1) := by decide +kernel
theorem d_m8_expectNumber_39 : decode b_m8_expectNumber 39 = .ok (.aload_n 0, 1) := by decide +kernel
theorem d_m8_expectNumber_40 : decode b_m8_expectNumber 40 = .ok (.invokevirtual 30, 3) := by decide +kernel
theorem d_m8_expectNumber_43 : decode b_m8_expectNumber 43 = .ok (.iadd, 1) := by decide +kernel
theorem d_m8_expectNumber_44 : decode b_m8_expectNumber 44 = .ok (.bipush 48, 2) := by decide +kernel
theorem d_m8_expectNumber_46 : decode b_m8_expectNumber 46 = .ok (.isub, 1) := by decide +kernel
theorem d_m8_expectNumber_47 : decode b_m8_expectNumber 47 = .ok (.istore_n 1, 1) := by decide +kernel
theorem d_m8_expectNumber_48 : decode b_m8_expectNumber 48 = .ok (.iinc 2 1, 3) := by decide +kernel
theorem d_m8_expectNumber_51 : decode b_m8_expectNumber 51 = .ok (.aload_n 0, 1) := by decide +kernel
theorem d_m8_expectNumber_52 : decode b_m8_expectNumber 52 = .ok (.dup, 1) := by decide +kernel
theorem d_m8_expectNumber_53 : decode b_m8_expectNumber 53 = .ok (.getfield 19, 3) := by decide +kernel
theorem d_m8_expectNumber_56 : decode b_m8_expectNumber 56 = .ok (.iconst 1, 1) := by decide +kernel
theorem d_m8_expectNumber_57 : decode b_m8_expectNumber 57 = .ok (.iadd, 1) := by decide +kernel
theorem d_m8_expectNumber_58 : decode b_m8_expectNumber 58 = .ok (.putfield 19, 3) := by decide +kernel
theorem d_m8_expectNumber_61 : decode b_m8_expectNumber 61 = .ok (.goto (-57), 3) := by decide +kernel
theorem d_m8_expectNumber_64 : decode b_m8_expectNumber 64 = .ok (.aload_n 0, 1) := by decide +kernel
theorem d_m8_expectNumber_65 : decode b_m8_expectNumber 65 = .ok (.getfield 22, 3) := by decide +kernel
theorem d_m8_expectNumber_68 : decode b_m8_expectNumber 68 = .ok (.iconst (-1), 1) := by decide +kernel
theorem d_m8_expectNumber_69 : decode b_m8_expectNumber 69 = .ok (.if_icmp .ne 15, 3) := by decide +kernel
theorem d_m8_expectNumber_72 : decode b_m8_expectNumber 72 = .ok (.iload_n 2, 1) := by decide +kernel
theorem d_m8_expectNumber_73 : decode b_m8_expectNumber 73 = .ok (.ifCond .ne 11, 3) := by decide +kernel
theorem d_m8_expectNumber_76 : decode b_m8_expectNumber 76 = .ok (.aload_n 0, 1) := by decide +kernel
theorem d_m8_expectNumber_77 : decode b_m8_expectNumber 77 = .ok (.aload_n 0, 1) := by decide +kernel
theorem d_m8_expectNumber_78 : decode b_m8_expectNumber 78 = .ok (.getfield 19, 3) := by decide +kernel
theorem d_m8_expectNumber_81 : decode b_m8_expectNumber 81 = .ok (.putfield 22, 3) := by decide +kernel
theorem d_m8_expectNumber_84 : decode b_m8_expectNumber 84 = .ok (.iload_n 1, 1) := by decide +kernel
theorem d_m8_expectNumber_85 : decode b_m8_expectNumber 85 = .ok (.ireturn, 1) := by decide +kernel
def s_m8_expectNumber_84  (x1 : Int32) (M : Mm) : Option (Int32 × Mm) := some (x1, M)
def s_m8_expectNumber_64  (r0 : Nat) (x1 : Int32) (x2 : Int32) (M : Mm) : Option (Int32 × Mm) := gI M r0 18 3 (fun v1 => (if ¬ v1 = (-1 : Int32) then s_m8_expectNumber_84 x1 M else (if ¬ x2 = 0 then s_m8_expectNumber_84 x1 M else gI M r0 18 2 (fun v2 => pI M r0 18 3 v2 (fun M3 => s_m8_expectNumber_84 x1 M3)))))
def s_m8_expectNumber_4  : Nat → Nat → Int32 → Int32 → Mm → Option (Int32 × Mm)
  | 0, _, _, _, _ => none
  | n + 1, r0, x1, x2, M => gI M r0 18 3 (fun v1 => (if ¬ v1 = (-1 : Int32) then s_m8_expectNumber_64 r0 x1 x2 M else (if (4 : Int32) ≤ x2 then s_m8_expectNumber_64 r0 x1 x2 M else cl (has M r0 18) (s_m8_next r0 M) (fun v2 M3 => (if v2 < (48 : Int32) then s_m8_expectNumber_64 r0 x1 x2 M3 else cl (has M3 r0 18) (s_m8_next r0 M3) (fun v4 M5 => (if (57 : Int32) < v4 then s_m8_expectNumber_64 r0 x1 x2 M5 else cl (has M5 r0 18) (s_m8_next r0 M5) (fun v6 M7 => gI M7 r0 18 2 (fun v8 => pI M7 r0 18 2 (v8 + (1 : Int32)) (fun M9 => (s_m8_expectNumber_4 n) r0 (((x1 * (10 : Int32)) + v6) - (48 : Int32)) (x2 + 1) M9))))))))))
def s_m8_expectNumber (r0 : Nat) (M : Mm) : Option (Int32 × Mm) := s_m8_expectNumber_4 FU r0 (0 : Int32) (0 : Int32) M
set_option maxRecDepth 100000 in
set_option maxHeartbeats 4000000 in
theorem w_m8_expectNumber_84 {V : Ev} {C : Cx} {n0 : Nat} (hC : Cok V C y_m8_expectNumber.cls b_m8_expectNumber 3 n0 (some .int) y_m8_expectNumber.name) (hR : cR C = rm_m8_expectNumber)  : ∀ (x1 : Int32) (M : Mm), Sm V C 3 n0 n0 (qI V C) 84 [(1, .int x1)] [] M (s_m8_expectNumber_84 x1 M) := by
  intro x1 M
  unfold s_m8_expectNumber_84
  refine Sm.iload_n hC d_m8_expectNumber_84 rfl 0 rfl ?_
  exact Sm.iret hC d_m8_expectNumber_85 rfl (Nat.sub_self _)
set_option maxRecDepth 100000 in
set_option maxHeartbeats 4000000 in
theorem w_m8_expectNumber_64 {V : Ev} {C : Cx} {n0 : Nat} (hC : Cok V C y_m8_expectNumber.cls b_m8_expectNumber 3 n0 (some .int) y_m8_expectNumber.name) (hR : cR C = rm_m8_expectNumber)  : ∀ (r0 : Nat) (x1 : Int32) (x2 : Int32) (M : Mm), Sm V C 3 n0 n0 (qI V C) 64 [(0, rv V.1 r0), (1, .int x1), (2, .int x2)] [] M (s_m8_expectNumber_64 r0 x1 x2 M) := by
  intro r0 x1 x2 M
  unfold s_m8_expectNumber_64
  refine Sm.aload_n hC d_m8_expectNumber_64 rfl 0 rfl ?_
  refine Sm.getI hC fl_m8_22 rfl d_m8_expectNumber_65 (fun v1 => ?_)
  refine Sm.iconst (v := -1) hC d_m8_expectNumber_68 (by decide) ?_
  refine Sm.icmp_ne (tgt := 84) hC d_m8_expectNumber_69 (by decide) ?_ ?_
  · refine Sm.sub [1] rfl ?_
    exact w_m8_expectNumber_84 hC hR x1 M
  · refine Sm.iload_n hC d_m8_expectNumber_72 rfl 2 rfl ?_
    refine Sm.if_ne (tgt := 84) hC d_m8_expectNumber_73 (by decide) ?_ ?_
    · refine Sm.sub [1] rfl ?_
      exact w_m8_expectNumber_84 hC hR x1 M
    · refine Sm.aload_n hC d_m8_expectNumber_76 rfl 0 rfl ?_
      refine Sm.aload_n hC d_m8_expectNumber_77 rfl 0 rfl ?_
      refine Sm.getI hC fl_m8_19 rfl d_m8_expectNumber_78 (fun v2 => ?_)
      refine Sm.putI hC fl_m8_22 rfl d_m8_expectNumber_81 (fun M3 => ?_)
      refine Sm.sub [1] rfl ?_
      exact w_m8_expectNumber_84 hC hR x1 M3
set_option maxRecDepth 100000 in
set_option maxHeartbeats 4000000 in
theorem w_m8_expectNumber_4 {V : Ev} {C : Cx} {n0 : Nat} (hC : Cok V C y_m8_expectNumber.cls b_m8_expectNumber 3 n0 (some .int) y_m8_expectNumber.name) (hR : cR C = rm_m8_expectNumber)  : ∀ (n : Nat) (r0 : Nat) (x1 : Int32) (x2 : Int32) (M : Mm), Sm V C 3 n0 n0 (qI V C) 4 [(0, rv V.1 r0), (1, .int x1), (2, .int x2)] [] M (s_m8_expectNumber_4 n r0 x1 x2 M) := by
  intro n
  induction n with
  | zero => exact fun r0 x1 x2 M => Sm.none_
  | succ n ih =>
    intro r0 x1 x2 M
    unfold s_m8_expectNumber_4
    refine Sm.aload_n hC d_m8_expectNumber_4 rfl 0 rfl ?_
    refine Sm.getI hC fl_m8_22 rfl d_m8_expectNumber_5 (fun v1 => ?_)
    refine Sm.iconst (v := -1) hC d_m8_expectNumber_8 (by decide) ?_
    refine Sm.icmp_ne (tgt := 64) hC d_m8_expectNumber_9 (by decide) ?_ ?_
    · exact w_m8_expectNumber_64 hC hR r0 x1 x2 M
    · refine Sm.iload_n hC d_m8_expectNumber_12 rfl 2 rfl ?_
      refine Sm.iconst (v := 4) hC d_m8_expectNumber_13 (by decide) ?_
      refine Sm.icmp_ge (tgt := 64) hC d_m8_expectNumber_14 (by decide) ?_ ?_
      · exact w_m8_expectNumber_64 hC hR r0 x1 x2 M
      · refine Sm.aload_n hC d_m8_expectNumber_17 rfl 0 rfl ?_
        refine Sm.callVi 8 (As := []) (st := []) hC hR cw_m8_next (tw_i 511 (by decide +kernel)) (tw_i 493 (by decide +kernel)) (tw_i 494 (by decide +kernel)) ⟨_, rfl, rfl⟩ (fun r9 M9 h9 => ok_m8_next h9) rfl rfl (RW.of ⟨rfl, rfl, by decide, by decide⟩) (by simp) d_m8_expectNumber_18 (fun v2 M3 => ?_)
        refine Sm.bipush (v := 48) hC d_m8_expectNumber_21 (by decide) ?_
        refine Sm.icmp_lt (tgt := 64) hC d_m8_expectNumber_23 (by decide) ?_ ?_
        · exact w_m8_expectNumber_64 hC hR r0 x1 x2 M3
        · refine Sm.aload_n hC d_m8_expectNumber_26 rfl 0 rfl ?_
          refine Sm.callVi 8 (As := []) (st := []) hC hR cw_m8_next (tw_i 511 (by decide +kernel)) (tw_i 493 (by decide +kernel)) (tw_i 494 (by decide +kernel)) ⟨_, rfl, rfl⟩ (fun r9 M9 h9 => ok_m8_next h9) rfl rfl (RW.of ⟨rfl, rfl, by decide, by decide⟩) (by simp) d_m8_expectNumber_27 (fun v4 M5 => ?_)
          refine Sm.bipush (v := 57) hC d_m8_expectNumber_30 (by decide) ?_
          refine Sm.icmp_gt (tgt := 64) hC d_m8_expectNumber_32 (by decide) ?_ ?_
          · exact w_m8_expectNumber_64 hC hR r0 x1 x2 M5
          · refine Sm.iload_n hC d_m8_expectNumber_35 rfl 1 rfl ?_
            refine Sm.bipush (v := 10) hC d_m8_expectNumber_36 (by decide) ?_
            refine Sm.imul hC d_m8_expectNumber_38 ?_
            refine Sm.aload_n hC d_m8_expectNumber_39 rfl 0 rfl ?_
            refine Sm.callVi 8 (As := []) (st := [.int (x1 * (10 : Int32))]) hC hR cw_m8_next (tw_i 511 (by decide +kernel)) (tw_i 493 (by decide +kernel)) (tw_i 494 (by decide +kernel)) ⟨_, rfl, rfl⟩ (fun r9 M9 h9 => ok_m8_next h9) rfl rfl (RW.of ⟨rfl, rfl, by decide, by decide⟩) (by simp) d_m8_expectNumber_40 (fun v6 M7 => ?_)
            refine Sm.iadd hC d_m8_expectNumber_43 ?_
            refine Sm.bipush (v := 48) hC d_m8_expectNumber_44 (by decide) ?_
            refine Sm.isub hC d_m8_expectNumber_46 ?_
            refine Sm.istore_n (lv' := [(1, .int (((x1 * (10 : Int32)) + v6) - (48 : Int32))), (0, rv V.1 r0), (2, .int x2)]) hC d_m8_expectNumber_47 rfl (by decide) (by simp [cat_rv]) ?_
            refine Sm.iinc (v := x2 + 1) (lv' := [(2, .int (x2 + 1)), (1, .int (((x1 * (10 : Int32)) + v6) - (48 : Int32))), (0, rv V.1 r0)]) hC d_m8_expectNumber_48 2 rfl rfl (by decide) rfl ?_
            refine Sm.aload_n hC d_m8_expectNumber_51 rfl 2 rfl ?_
            refine Sm.dup hC d_m8_expectNumber_52 (cat_rv _ _) ?_
            refine Sm.getI hC fl_m8_19 rfl d_m8_expectNumber_53 (fun v8 => ?_)
            refine Sm.iconst (v := 1) hC d_m8_expectNumber_56 (by decide) ?_
            refine Sm.iadd hC d_m8_expectNumber_57 ?_
            refine Sm.putI hC fl_m8_19 rfl d_m8_expectNumber_58 (fun M9 => ?_)
            refine Sm.goto (tgt := 4) hC d_m8_expectNumber_61 (by decide) ?_
            refine Sm.sub [2, 1, 0] rfl ?_
            exact ih r0 (((x1 * (10 : Int32)) + v6) - (48 : Int32)) (x2 + 1) M9
set_option maxRecDepth 100000 in
set_option maxHeartbeats 4000000 in
theorem ok_m8_expectNumber {l : Launch} {V : Ev} {M M' : Mm} {r : Int32} {r0 : Nat} (h : s_m8_expectNumber r0 M = some (r, M')) : Met l y_m8_expectNumber (Cond.code y_m8_expectNumber b_m8_expectNumber 3 (some .int) :: TW) rm_m8_expectNumber (va_Pc [rv V.1 r0] (Wd V M)) (QC V (some (.int r)) M' 0) 0 0 (Af V) := by
  refine met_of (fun x : Int32 => some (.int x)) (lv0 := [(0, rv V.1 r0)]) (by decide) (by simp [lg_sl, cat_rv, cat_i, cat_l, cat_f]) (by simp [lv_args, cat_rv, cat_i, cat_l, cat_f]) (fun C hl hR hC => ?_) h
  subst hl
  generalize mN M = n0 at hC ⊢
  unfold s_m8_expectNumber
  refine Sm.iconst (v := 0) hC d_m8_expectNumber_0 (by decide) ?_
  refine Sm.istore_n (lv' := [(1, .int (0 : Int32)), (0, rv V.1 r0)]) hC d_m8_expectNumber_1 rfl (by decide) (by simp [cat_rv]) ?_
  refine Sm.iconst (v := 0) hC d_m8_expectNumber_2 (by decide) ?_
  refine Sm.istore_n (lv' := [(2, .int (0 : Int32)), (1, .int (0 : Int32)), (0, rv V.1 r0)]) hC d_m8_expectNumber_3 rfl (by decide) rfl ?_
  refine Sm.sub [2, 1, 0] rfl ?_
  exact w_m8_expectNumber_4 hC hR FU r0 (0 : Int32) (0 : Int32) M
/-! NewsWire$Tape.goesOn()Z -/
abbrev b_m8_goesOn : ByteArray := prog_10_method_4_code
def y_m8_goesOn : MethodName := ⟨"NewsWire$Tape", "goesOn", "()Z"⟩
def rm_m8_goesOn : Room := { frames := 1, cells := 0, slots := 0, locals := 60 }
theorem cw_m8_goesOn : CW y_m8_goesOn b_m8_goesOn 1 (some .boolean) 0 := ⟨tw_i 61 (by decide +kernel), tw_i 560 (by decide +kernel), by decide, by decide, by decide +kernel⟩
theorem d_m8_goesOn_0 : decode b_m8_goesOn 0 = .ok (.aload_n 0, 1) := by decide +kernel
theorem d_m8_goesOn_1 : decode b_m8_goesOn 1 = .ok (.getfield 22, 3) := by decide +kernel
theorem d_m8_goesOn_4 : decode b_m8_goesOn 4 = .ok (.iconst (-1), 1) := by decide +kernel
theorem d_m8_goesOn_5 : decode b_m8_goesOn 5 = .ok (.if_icmp .ne 18, 3) := by decide +kernel
theorem d_m8_goesOn_8 : decode b_m8_goesOn 8 = .ok (.aload_n 0, 1) := by decide +kernel
theorem d_m8_goesOn_9 : decode b_m8_goesOn 9 = .ok (.getfield 19, 3) := by decide +kernel
theorem d_m8_goesOn_12 : decode b_m8_goesOn 12 = .ok (.aload_n 0, 1) := by decide +kernel
theorem d_m8_goesOn_13 : decode b_m8_goesOn 13 = .ok (.getfield 15, 3) := by decide +kernel
theorem d_m8_goesOn_16 : decode b_m8_goesOn 16 = .ok (.if_icmp .ge 7, 3) := by decide +kernel
theorem d_m8_goesOn_19 : decode b_m8_goesOn 19 = .ok (.iconst 1, 1) := by decide +kernel
theorem d_m8_goesOn_20 : decode b_m8_goesOn 20 = .ok (.goto 4, 3) := by decide +kernel
theorem d_m8_goesOn_23 : decode b_m8_goesOn 23 = .ok (.iconst 0, 1) := by decide +kernel
theorem d_m8_goesOn_24 : decode b_m8_goesOn 24 = .ok (.ireturn, 1) := by decide +kernel
def s_m8_goesOn_24  (t0 : Int32) (M : Mm) : Option (Int32 × Mm) := rz t0 (some (t0, M))
def s_m8_goesOn_23   (M : Mm) : Option (Int32 × Mm) := s_m8_goesOn_24 (0 : Int32) M
def s_m8_goesOn (r0 : Nat) (M : Mm) : Option (Int32 × Mm) := gI M r0 18 3 (fun v1 => (if ¬ v1 = (-1 : Int32) then s_m8_goesOn_23 M else gI M r0 18 2 (fun v2 => gI M r0 18 1 (fun v3 => (if v3 ≤ v2 then s_m8_goesOn_23 M else s_m8_goesOn_24 (1 : Int32) M)))))
set_option maxRecDepth 100000 in
set_option maxHeartbeats 4000000 in
theorem w_m8_goesOn_24 {V : Ev} {C : Cx} {n0 : Nat} (hC : Cok V C y_m8_goesOn.cls b_m8_goesOn 1 n0 (some .boolean) y_m8_goesOn.name) (hR : cR C = rm_m8_goesOn)  : ∀ (t0 : Int32) (M : Mm), Sm V C 1 n0 n0 (qI V C) 24 [] [.int t0] M (s_m8_goesOn_24 t0 M) := by
  intro t0 M
  unfold s_m8_goesOn_24
  exact Sm.zret hC d_m8_goesOn_24 rfl (Nat.sub_self _)
set_option maxRecDepth 100000 in
set_option maxHeartbeats 4000000 in
theorem w_m8_goesOn_23 {V : Ev} {C : Cx} {n0 : Nat} (hC : Cok V C y_m8_goesOn.cls b_m8_goesOn 1 n0 (some .boolean) y_m8_goesOn.name) (hR : cR C = rm_m8_goesOn)  : ∀  (M : Mm), Sm V C 1 n0 n0 (qI V C) 23 [] [] M (s_m8_goesOn_23 M) := by
  intro M
  unfold s_m8_goesOn_23
  refine Sm.iconst (v := 0) hC d_m8_goesOn_23 (by decide) ?_
  exact w_m8_goesOn_24 hC hR (0 : Int32) M
set_option maxRecDepth 100000 in
set_option maxHeartbeats 4000000 in
theorem ok_m8_goesOn {l : Launch} {V : Ev} {M M' : Mm} {r : Int32} {r0 : Nat} (h : s_m8_goesOn r0 M = some (r, M')) : Met l y_m8_goesOn (Cond.code y_m8_goesOn b_m8_goesOn 1 (some .boolean) :: TW) rm_m8_goesOn (va_Pc [rv V.1 r0] (Wd V M)) (QC V (some (.int r)) M' 0) 0 0 (Af V) := by
  refine met_of (fun x : Int32 => some (.int x)) (lv0 := [(0, rv V.1 r0)]) (by decide) (by simp [lg_sl, cat_rv, cat_i, cat_l, cat_f]) (by simp [lv_args, cat_rv, cat_i, cat_l, cat_f]) (fun C hl hR hC => ?_) h
  subst hl
  generalize mN M = n0 at hC ⊢
  unfold s_m8_goesOn
  refine Sm.aload_n hC d_m8_goesOn_0 rfl 0 rfl ?_
  refine Sm.getI hC fl_m8_22 rfl d_m8_goesOn_1 (fun v1 => ?_)
  refine Sm.iconst (v := -1) hC d_m8_goesOn_4 (by decide) ?_
  refine Sm.icmp_ne (tgt := 23) hC d_m8_goesOn_5 (by decide) ?_ ?_
  · refine Sm.sub [] rfl ?_
    exact w_m8_goesOn_23 hC hR M
  · refine Sm.aload_n hC d_m8_goesOn_8 rfl 0 rfl ?_
    refine Sm.getI hC fl_m8_19 rfl d_m8_goesOn_9 (fun v2 => ?_)
    refine Sm.aload_n hC d_m8_goesOn_12 rfl 0 rfl ?_
    refine Sm.getI hC fl_m8_15 rfl d_m8_goesOn_13 (fun v3 => ?_)
    refine Sm.icmp_ge (tgt := 23) hC d_m8_goesOn_16 (by decide) ?_ ?_
    · refine Sm.sub [] rfl ?_
      exact w_m8_goesOn_23 hC hR M
    · refine Sm.iconst (v := 1) hC d_m8_goesOn_19 (by decide) ?_
      refine Sm.goto (tgt := 24) hC d_m8_goesOn_20 (by decide) ?_
      refine Sm.sub [] rfl ?_
      exact w_m8_goesOn_24 hC hR (1 : Int32) M
/-! NewsWire$Rule.readField(LNewsWire$Tape;)I -/
abbrev b_m5_readField : ByteArray := prog_7_method_4_code
def y_m5_readField : MethodName := ⟨"NewsWire$Rule", "readField", "(LNewsWire$Tape;)I"⟩
def rm_m5_readField : Room := { frames := 7, cells := 0, slots := 0, locals := 203 }
theorem cw_m5_readField : CW y_m5_readField b_m5_readField 1 (some .int) 1 := ⟨tw_i 57 (by decide +kernel), tw_i 565 (by decide +kernel), by decide, by decide, by decide +kernel⟩
theorem d_m5_readField_0 : decode b_m5_readField 0 = .ok (.aload_n 0, 1) := by decide +kernel
theorem d_m5_readField_1 : decode b_m5_readField 1 = .ok (.invokevirtual 67, 3) := by decide +kernel
theorem d_m5_readField_4 : decode b_m5_readField 4 = .ok (.lookupswitch 76 #[(98, 60), (107, 44), (115, 52), (119, 68)], 44) := by decide +kernel
theorem d_m5_readField_48 : decode b_m5_readField 48 = .ok (.aload_n 0, 1) := by decide +kernel
theorem d_m5_readField_49 : decode b_m5_readField 49 = .ok (.ldc 76, 2) := by decide +kernel
theorem d_m5_readField_51 : decode b_m5_readField 51 = .ok (.invokevirtual 39, 3) := by decide +kernel
theorem d_m5_readField_54 : decode b_m5_readField 54 = .ok (.iconst 0, 1) := by decide +kernel
theorem d_m5_readField_55 : decode b_m5_readField 55 = .ok (.ireturn, 1) := by decide +kernel
theorem d_m5_readField_56 : decode b_m5_readField 56 = .ok (.aload_n 0, 1) := by decide +kernel
theorem d_m5_readField_57 : decode b_m5_readField 57 = .ok (.ldc 78, 2) := by decide +kernel
theorem d_m5_readField_59 : decode b_m5_readField 59 = .ok (.invokevirtual 39, 3) := by decide +kernel
theorem d_m5_readField_62 : decode b_m5_readField 62 = .ok (.iconst 1, 1) := by decide +kernel
theorem d_m5_readField_63 : decode b_m5_readField 63 = .ok (.ireturn, 1) := by decide +kernel
theorem d_m5_readField_64 : decode b_m5_readField 64 = .ok (.aload_n 0, 1) := by decide +kernel
theorem d_m5_readField_65 : decode b_m5_readField 65 = .ok (.ldc 80, 2) := by decide +kernel
theorem d_m5_readField_67 : decode b_m5_readField 67 = .ok (.invokevirtual 39, 3) := by decide +kernel
theorem d_m5_readField_70 : decode b_m5_readField 70 = .ok (.iconst 2, 1) := by decide +kernel
theorem d_m5_readField_71 : decode b_m5_readField 71 = .ok (.ireturn, 1) := by decide +kernel
theorem d_m5_readField_72 : decode b_m5_readField 72 = .ok (.aload_n 0, 1) := by decide +kernel
theorem d_m5_readField_73 : decode b_m5_readField 73 = .ok (.ldc 82, 2) := by decide +kernel
theorem d_m5_readField_75 : decode b_m5_readField 75 = .ok (.invokevirtual 39, 3) := by decide +kernel
theorem d_m5_readField_78 : decode b_m5_readField 78 = .ok (.iconst 3, 1) := by decide +kernel
theorem d_m5_readField_79 : decode b_m5_readField 79 = .ok (.ireturn, 1) := by decide +kernel
theorem d_m5_readField_80 : decode b_m5_readField 80 = .ok (.aload_n 0, 1) := by decide +kernel
theorem d_m5_readField_81 : decode b_m5_readField 81 = .ok (.ldc 84, 2) := by decide +kernel
theorem d_m5_readField_83 : decode b_m5_readField 83 = .ok (.invokevirtual 39, 3) := by decide +kernel
theorem d_m5_readField_86 : decode b_m5_readField 86 = .ok (.iconst 4, 1) := by decide +kernel
theorem d_m5_readField_87 : decode b_m5_readField 87 = .ok (.ireturn, 1) := by decide +kernel
def s_m5_readField (r0 : Nat) (M : Mm) : Option (Int32 × Mm) := cl (has M r0 18) (s_m8_next r0 M) (fun v1 M2 => (if v1 = 98 then cl (has M2 r0 18) (s_m8_expect r0 8 M2) (fun _ M3 => some ((2 : Int32), M3)) else if v1 = 107 then cl (has M2 r0 18) (s_m8_expect r0 6 M2) (fun _ M4 => some ((0 : Int32), M4)) else if v1 = 115 then cl (has M2 r0 18) (s_m8_expect r0 7 M2) (fun _ M5 => some ((1 : Int32), M5)) else if v1 = 119 then cl (has M2 r0 18) (s_m8_expect r0 9 M2) (fun _ M6 => some ((3 : Int32), M6)) else cl (has M2 r0 18) (s_m8_expect r0 10 M2) (fun _ M7 => some ((4 : Int32), M7))))
set_option maxRecDepth 100000 in
set_option maxHeartbeats 4000000 in
theorem ok_m5_readField {l : Launch} {V : Ev} {M M' : Mm} {r : Int32} {r0 : Nat} (h : s_m5_readField r0 M = some (r, M')) : Met l y_m5_readField (Cond.code y_m5_readField b_m5_readField 1 (some .int) :: TW) rm_m5_readField (va_Pc [rv V.1 r0] (Wd V M)) (QC V (some (.int r)) M' 0) 0 0 (Af V) := by
  refine met_of (fun x : Int32 => some (.int x)) (lv0 := [(0, rv V.1 r0)]) (by decide) (by simp [lg_sl, cat_rv, cat_i, cat_l, cat_f]) (by simp [lv_args, cat_rv, cat_i, cat_l, cat_f]) (fun C hl hR hC => ?_) h
  subst hl
  generalize mN M = n0 at hC ⊢
  unfold s_m5_readField
  refine Sm.aload_n hC d_m5_readField_0 rfl 0 rfl ?_
  refine Sm.callVi 8 (As := []) (st := []) hC hR cw_m8_next (tw_i 492 (by decide +kernel)) (tw_i 493 (by decide +kernel)) (tw_i 494 (by decide +kernel)) ⟨_, rfl, rfl⟩ (fun r9 M9 h9 => ok_m8_next h9) rfl rfl (RW.of ⟨rfl, rfl, by decide, by decide⟩) (by simp) d_m5_readField_1 (fun v1 M2 => ?_)
  refine Sm.if_ (fun h9 => ?_) (fun h4_0 => ?_)
  · refine Sm.lsw (tgt := 64) (off := 60) hC d_m5_readField_4 (by decide) (by rw [h9] <;> rfl) (by decide) ?_
    refine Sm.aload_n hC d_m5_readField_64 rfl 0 rfl ?_
    refine Sm.ldcS hC 8 d_m5_readField_65 rfl ?_
    refine Sm.callVv 8 (As := [.ref (V.2.2.2.1 8)]) (st := []) hC hR cw_m8_expect (tw_i 497 (by decide +kernel)) (tw_i 498 (by decide +kernel)) (tw_i 499 (by decide +kernel)) ⟨_, rfl, rfl⟩ (fun r9 M9 h9 => ok_m8_expect h9) rfl rfl (RW.of ⟨rfl, rfl, by decide, by decide⟩) (by simp) d_m5_readField_67 (fun _ M3 => ?_)
    refine Sm.iconst (v := 2) hC d_m5_readField_70 (by decide) ?_
    exact Sm.iret hC d_m5_readField_71 rfl (Nat.sub_self _)
  refine Sm.if_ (fun h9 => ?_) (fun h4_1 => ?_)
  · refine Sm.lsw (tgt := 48) (off := 44) hC d_m5_readField_4 (by decide) (by rw [h9] <;> rfl) (by decide) ?_
    refine Sm.aload_n hC d_m5_readField_48 rfl 0 rfl ?_
    refine Sm.ldcS hC 6 d_m5_readField_49 rfl ?_
    refine Sm.callVv 8 (As := [.ref (V.2.2.2.1 6)]) (st := []) hC hR cw_m8_expect (tw_i 497 (by decide +kernel)) (tw_i 498 (by decide +kernel)) (tw_i 499 (by decide +kernel)) ⟨_, rfl, rfl⟩ (fun r9 M9 h9 => ok_m8_expect h9) rfl rfl (RW.of ⟨rfl, rfl, by decide, by decide⟩) (by simp) d_m5_readField_51 (fun _ M4 => ?_)
    refine Sm.iconst (v := 0) hC d_m5_readField_54 (by decide) ?_
    exact Sm.iret hC d_m5_readField_55 rfl (Nat.sub_self _)
  refine Sm.if_ (fun h9 => ?_) (fun h4_2 => ?_)
  · refine Sm.lsw (tgt := 56) (off := 52) hC d_m5_readField_4 (by decide) (by rw [h9] <;> rfl) (by decide) ?_
    refine Sm.aload_n hC d_m5_readField_56 rfl 0 rfl ?_
    refine Sm.ldcS hC 7 d_m5_readField_57 rfl ?_
    refine Sm.callVv 8 (As := [.ref (V.2.2.2.1 7)]) (st := []) hC hR cw_m8_expect (tw_i 497 (by decide +kernel)) (tw_i 498 (by decide +kernel)) (tw_i 499 (by decide +kernel)) ⟨_, rfl, rfl⟩ (fun r9 M9 h9 => ok_m8_expect h9) rfl rfl (RW.of ⟨rfl, rfl, by decide, by decide⟩) (by simp) d_m5_readField_59 (fun _ M5 => ?_)
    refine Sm.iconst (v := 1) hC d_m5_readField_62 (by decide) ?_
    exact Sm.iret hC d_m5_readField_63 rfl (Nat.sub_self _)
  refine Sm.if_ (fun h9 => ?_) (fun h4_3 => ?_)
  · refine Sm.lsw (tgt := 72) (off := 68) hC d_m5_readField_4 (by decide) (by rw [h9] <;> rfl) (by decide) ?_
    refine Sm.aload_n hC d_m5_readField_72 rfl 0 rfl ?_
    refine Sm.ldcS hC 9 d_m5_readField_73 rfl ?_
    refine Sm.callVv 8 (As := [.ref (V.2.2.2.1 9)]) (st := []) hC hR cw_m8_expect (tw_i 497 (by decide +kernel)) (tw_i 498 (by decide +kernel)) (tw_i 499 (by decide +kernel)) ⟨_, rfl, rfl⟩ (fun r9 M9 h9 => ok_m8_expect h9) rfl rfl (RW.of ⟨rfl, rfl, by decide, by decide⟩) (by simp) d_m5_readField_75 (fun _ M6 => ?_)
    refine Sm.iconst (v := 3) hC d_m5_readField_78 (by decide) ?_
    exact Sm.iret hC d_m5_readField_79 rfl (Nat.sub_self _)
  refine Sm.lsw (tgt := 80) (off := 76) hC d_m5_readField_4 (by decide) ((lv_osw h4_0 rfl).trans ((lv_osw h4_1 rfl).trans ((lv_osw h4_2 rfl).trans ((lv_osw h4_3 rfl).trans (rfl))))) (by decide) ?_
  refine Sm.aload_n hC d_m5_readField_80 rfl 0 rfl ?_
  refine Sm.ldcS hC 10 d_m5_readField_81 rfl ?_
  refine Sm.callVv 8 (As := [.ref (V.2.2.2.1 10)]) (st := []) hC hR cw_m8_expect (tw_i 497 (by decide +kernel)) (tw_i 498 (by decide +kernel)) (tw_i 499 (by decide +kernel)) ⟨_, rfl, rfl⟩ (fun r9 M9 h9 => ok_m8_expect h9) rfl rfl (RW.of ⟨rfl, rfl, by decide, by decide⟩) (by simp) d_m5_readField_83 (fun _ M7 => ?_)
  refine Sm.iconst (v := 4) hC d_m5_readField_86 (by decide) ?_
  exact Sm.iret hC d_m5_readField_87 rfl (Nat.sub_self _)
