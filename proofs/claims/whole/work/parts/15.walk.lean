/-! NewsWire.placeOfGreatest(LNewsWire$Wire;)I -/
theorem fl_m10_272 : FL "NewsWire" 272 9 0 2 true (.array .int) := ⟨_, _, _, _, rfl, in_c9, ty_c9, nm_c9, by decide, rfl, tw_i 264 (by decide +kernel), rfl, rfl, rfl, rfl⟩
abbrev b_m10_placeOfGreatest : ByteArray := prog_1_method_31_code
def y_m10_placeOfGreatest : MethodName := ⟨"NewsWire", "placeOfGreatest", "(LNewsWire$Wire;)I"⟩
def rm_m10_placeOfGreatest : Room := { frames := 5, cells := 0, slots := 0, locals := 155 }
theorem cw_m10_placeOfGreatest : CW y_m10_placeOfGreatest b_m10_placeOfGreatest 6 (some .int) 1 := ⟨tw_i 55 (by decide +kernel), tw_i 668 (by decide +kernel), by decide, by decide, by decide +kernel⟩
theorem d_m10_placeOfGreatest_0 : decode b_m10_placeOfGreatest 0 = .ok (.iconst 0, 1) := by decide +kernel
theorem d_m10_placeOfGreatest_1 : decode b_m10_placeOfGreatest 1 = .ok (.istore_n 2, 1) := by decide +kernel
theorem d_m10_placeOfGreatest_2 : decode b_m10_placeOfGreatest 2 = .ok (.iconst (-1), 1) := by decide +kernel
theorem d_m10_placeOfGreatest_3 : decode b_m10_placeOfGreatest 3 = .ok (.istore_n 3, 1) := by decide +kernel
theorem d_m10_placeOfGreatest_4 : decode b_m10_placeOfGreatest 4 = .ok (.iconst 0, 1) := by decide +kernel
theorem d_m10_placeOfGreatest_5 : decode b_m10_placeOfGreatest 5 = .ok (.istore 4, 2) := by decide +kernel
theorem d_m10_placeOfGreatest_7 : decode b_m10_placeOfGreatest 7 = .ok (.iload 4, 2) := by decide +kernel
theorem d_m10_placeOfGreatest_9 : decode b_m10_placeOfGreatest 9 = .ok (.aload_n 1, 1) := by decide +kernel
theorem d_m10_placeOfGreatest_10 : decode b_m10_placeOfGreatest 10 = .ok (.getfield 216, 3) := by decide +kernel
theorem d_m10_placeOfGreatest_13 : decode b_m10_placeOfGreatest 13 = .ok (.if_icmp .ge 46, 3) := by decide +kernel
theorem d_m10_placeOfGreatest_16 : decode b_m10_placeOfGreatest 16 = .ok (.aload_n 0, 1) := by decide +kernel
theorem d_m10_placeOfGreatest_17 : decode b_m10_placeOfGreatest 17 = .ok (.getfield 30, 3) := by decide +kernel
theorem d_m10_placeOfGreatest_20 : decode b_m10_placeOfGreatest 20 = .ok (.aload_n 0, 1) := by decide +kernel
theorem d_m10_placeOfGreatest_21 : decode b_m10_placeOfGreatest 21 = .ok (.getfield 17, 3) := by decide +kernel
theorem d_m10_placeOfGreatest_24 : decode b_m10_placeOfGreatest 24 = .ok (.aload_n 1, 1) := by decide +kernel
theorem d_m10_placeOfGreatest_25 : decode b_m10_placeOfGreatest 25 = .ok (.getfield 272, 3) := by decide +kernel
theorem d_m10_placeOfGreatest_28 : decode b_m10_placeOfGreatest 28 = .ok (.iload 4, 2) := by decide +kernel
theorem d_m10_placeOfGreatest_30 : decode b_m10_placeOfGreatest 30 = .ok (.iaload, 1) := by decide +kernel
theorem d_m10_placeOfGreatest_31 : decode b_m10_placeOfGreatest 31 = .ok (.aaload, 1) := by decide +kernel
theorem d_m10_placeOfGreatest_32 : decode b_m10_placeOfGreatest 32 = .ok (.aload_n 0, 1) := by decide +kernel
theorem d_m10_placeOfGreatest_33 : decode b_m10_placeOfGreatest 33 = .ok (.getfield 195, 3) := by decide +kernel
theorem d_m10_placeOfGreatest_36 : decode b_m10_placeOfGreatest 36 = .ok (.invokevirtual 202, 3) := by decide +kernel
theorem d_m10_placeOfGreatest_39 : decode b_m10_placeOfGreatest 39 = .ok (.istore 5, 2) := by decide +kernel
theorem d_m10_placeOfGreatest_41 : decode b_m10_placeOfGreatest 41 = .ok (.iload 5, 2) := by decide +kernel
theorem d_m10_placeOfGreatest_43 : decode b_m10_placeOfGreatest 43 = .ok (.iload_n 3, 1) := by decide +kernel
theorem d_m10_placeOfGreatest_44 : decode b_m10_placeOfGreatest 44 = .ok (.if_icmp .le 9, 3) := by decide +kernel
theorem d_m10_placeOfGreatest_47 : decode b_m10_placeOfGreatest 47 = .ok (.iload 5, 2) := by decide +kernel
theorem d_m10_placeOfGreatest_49 : decode b_m10_placeOfGreatest 49 = .ok (.istore_n 3, 1) := by decide +kernel
theorem d_m10_placeOfGreatest_50 : decode b_m10_placeOfGreatest 50 = .ok (.iload 4, 2) := by decide +kernel
theorem d_m10_placeOfGreatest_52 : decode b_m10_placeOfGreatest 52 = .ok (.istore_n 2, 1) := by decide +kernel
theorem d_m10_placeOfGreatest_53 : decode b_m10_placeOfGreatest 53 = .ok (.iinc 4 1, 3) := by decide +kernel
theorem d_m10_placeOfGreatest_56 : decode b_m10_placeOfGreatest 56 = .ok (.goto (-49), 3) := by decide +kernel
theorem d_m10_placeOfGreatest_59 : decode b_m10_placeOfGreatest 59 = .ok (.iload_n 2, 1) := by decide +kernel
theorem d_m10_placeOfGreatest_60 : decode b_m10_placeOfGreatest 60 = .ok (.ireturn, 1) := by decide +kernel
def s_m10_placeOfGreatest_53 (k7 : Nat → Nat → Int32 → Int32 → Int32 → Mm → Option (Int32 × Mm)) (r0 : Nat) (r1 : Nat) (x2 : Int32) (x3 : Int32) (x4 : Int32) (M : Mm) : Option (Int32 × Mm) := k7 r0 r1 x2 x3 (x4 + 1) M
def s_m10_placeOfGreatest_7  : Nat → Nat → Nat → Int32 → Int32 → Int32 → Mm → Option (Int32 × Mm)
  | 0, _, _, _, _, _, _ => none
  | n + 1, r0, r1, x2, x3, x4, M => gI M r1 19 3 (fun v1 => (if v1 ≤ x4 then some (x2, M) else gR M r0 20 3 (fun v2 => gR M r0 20 1 (fun v3 => gR M r1 19 0 (fun v4 => aI M v4 0 x4 (fun v5 => aR M v3 3 v5 (fun v6 => gI M r0 20 12 (fun v7 => cl (has M v2 16) (s_m6_rankOf v2 v6 v7 M) (fun v8 M9 => (if v8 ≤ x3 then s_m10_placeOfGreatest_53 (s_m10_placeOfGreatest_7 n) r0 r1 x2 x3 x4 M9 else s_m10_placeOfGreatest_53 (s_m10_placeOfGreatest_7 n) r0 r1 x4 v8 x4 M9))))))))))
def s_m10_placeOfGreatest (r0 : Nat) (r1 : Nat) (M : Mm) : Option (Int32 × Mm) := s_m10_placeOfGreatest_7 FU r0 r1 (0 : Int32) (-1 : Int32) (0 : Int32) M
set_option maxRecDepth 100000 in
set_option maxHeartbeats 4000000 in
theorem w_m10_placeOfGreatest_53 {V : Ev} {C : Cx} {n0 : Nat} (hC : Cok V C y_m10_placeOfGreatest.cls b_m10_placeOfGreatest 6 n0 (some .int) y_m10_placeOfGreatest.name) (hR : cR C = rm_m10_placeOfGreatest) (k7 : Nat → Nat → Int32 → Int32 → Int32 → Mm → Option (Int32 × Mm)) (hk7 : ∀ (r0 : Nat) (r1 : Nat) (x2 : Int32) (x3 : Int32) (x4 : Int32) (M : Mm), Sm V C 6 n0 n0 (qI V C) 7 [(0, rv V.1 r0), (1, rv V.1 r1), (2, .int x2), (3, .int x3), (4, .int x4)] [] M (k7 r0 r1 x2 x3 x4 M)) : ∀ (r0 : Nat) (r1 : Nat) (x2 : Int32) (x3 : Int32) (x4 : Int32) (M : Mm), Sm V C 6 n0 n0 (qI V C) 53 [(0, rv V.1 r0), (1, rv V.1 r1), (2, .int x2), (3, .int x3), (4, .int x4)] [] M (s_m10_placeOfGreatest_53 k7 r0 r1 x2 x3 x4 M) := by
  intro r0 r1 x2 x3 x4 M
  unfold s_m10_placeOfGreatest_53
  refine Sm.iinc (v := x4 + 1) (lv' := [(4, .int (x4 + 1)), (0, rv V.1 r0), (1, rv V.1 r1), (2, .int x2), (3, .int x3)]) hC d_m10_placeOfGreatest_53 4 rfl rfl (by decide) rfl ?_
  refine Sm.goto (tgt := 7) hC d_m10_placeOfGreatest_56 (by decide) ?_
  refine Sm.sub [1, 2, 3, 4, 0] rfl ?_
  exact hk7 r0 r1 x2 x3 (x4 + 1) M
set_option maxRecDepth 100000 in
set_option maxHeartbeats 4000000 in
theorem w_m10_placeOfGreatest_7 {V : Ev} {C : Cx} {n0 : Nat} (hC : Cok V C y_m10_placeOfGreatest.cls b_m10_placeOfGreatest 6 n0 (some .int) y_m10_placeOfGreatest.name) (hR : cR C = rm_m10_placeOfGreatest)  : ∀ (n : Nat) (r0 : Nat) (r1 : Nat) (x2 : Int32) (x3 : Int32) (x4 : Int32) (M : Mm), Sm V C 6 n0 n0 (qI V C) 7 [(0, rv V.1 r0), (1, rv V.1 r1), (2, .int x2), (3, .int x3), (4, .int x4)] [] M (s_m10_placeOfGreatest_7 n r0 r1 x2 x3 x4 M) := by
  intro n
  induction n with
  | zero => exact fun r0 r1 x2 x3 x4 M => Sm.none_
  | succ n ih =>
    intro r0 r1 x2 x3 x4 M
    unfold s_m10_placeOfGreatest_7
    refine Sm.iload hC d_m10_placeOfGreatest_7 4 rfl ?_
    refine Sm.aload_n hC d_m10_placeOfGreatest_9 rfl 1 rfl ?_
    refine Sm.getI hC fl_m10_216 rfl d_m10_placeOfGreatest_10 (fun v1 => ?_)
    refine Sm.icmp_ge (tgt := 59) hC d_m10_placeOfGreatest_13 (by decide) ?_ ?_
    · refine Sm.iload_n hC d_m10_placeOfGreatest_59 rfl 2 rfl ?_
      exact Sm.iret hC d_m10_placeOfGreatest_60 rfl (Nat.sub_self _)
    · refine Sm.aload_n hC d_m10_placeOfGreatest_16 rfl 0 rfl ?_
      refine Sm.getR hC fl_m10_30 rfl d_m10_placeOfGreatest_17 (fun v2 => ?_)
      refine Sm.aload_n hC d_m10_placeOfGreatest_20 rfl 0 rfl ?_
      refine Sm.getR hC fl_m10_17 rfl d_m10_placeOfGreatest_21 (fun v3 => ?_)
      refine Sm.aload_n hC d_m10_placeOfGreatest_24 rfl 1 rfl ?_
      refine Sm.getR hC fl_m10_272 rfl d_m10_placeOfGreatest_25 (fun v4 => ?_)
      refine Sm.iload hC d_m10_placeOfGreatest_28 4 rfl ?_
      refine Sm.iald hC d_m10_placeOfGreatest_30 (fun v5 => ?_)
      refine Sm.aald (Cn := n_c3) hC ⟨by decide, by decide⟩ rfl d_m10_placeOfGreatest_31 (fun v6 => ?_)
      refine Sm.aload_n hC d_m10_placeOfGreatest_32 rfl 0 rfl ?_
      refine Sm.getI hC fl_m10_195 rfl d_m10_placeOfGreatest_33 (fun v7 => ?_)
      refine Sm.callVi 6 (As := [rv V.1 v6, .int v7]) (st := []) hC hR cw_m6_rankOf (tw_i 608 (by decide +kernel)) (tw_i 609 (by decide +kernel)) (tw_i 610 (by decide +kernel)) ⟨_, rfl, rfl⟩ (fun r9 M9 h9 => ok_m6_rankOf h9) rfl rfl (RW.of ⟨rfl, rfl, by decide, by decide⟩) (by simp) d_m10_placeOfGreatest_36 (fun v8 M9 => ?_)
      refine Sm.istore (lv' := [(5, .int v8), (0, rv V.1 r0), (1, rv V.1 r1), (2, .int x2), (3, .int x3), (4, .int x4)]) hC d_m10_placeOfGreatest_39 (by decide) rfl ?_
      refine Sm.iload hC d_m10_placeOfGreatest_41 0 rfl ?_
      refine Sm.iload_n hC d_m10_placeOfGreatest_43 rfl 4 rfl ?_
      refine Sm.icmp_le (tgt := 53) hC d_m10_placeOfGreatest_44 (by decide) ?_ ?_
      · refine Sm.sub [1, 2, 3, 4, 5] rfl ?_
        exact w_m10_placeOfGreatest_53 hC hR (s_m10_placeOfGreatest_7 n) ih r0 r1 x2 x3 x4 M9
      · refine Sm.iload hC d_m10_placeOfGreatest_47 0 rfl ?_
        refine Sm.istore_n (lv' := [(3, .int v8), (5, .int v8), (0, rv V.1 r0), (1, rv V.1 r1), (2, .int x2), (4, .int x4)]) hC d_m10_placeOfGreatest_49 rfl (by decide) rfl ?_
        refine Sm.iload hC d_m10_placeOfGreatest_50 5 rfl ?_
        refine Sm.istore_n (i := 2) (lv' := [(2, .int x4), (3, .int v8), (5, .int v8), (0, rv V.1 r0), (1, rv V.1 r1), (4, .int x4)]) hC d_m10_placeOfGreatest_52 rfl (by decide) (by simp [cat_rv, cat_i, cat_l, cat_f]) ?_
        refine Sm.sub [3, 4, 0, 1, 5] rfl ?_
        exact w_m10_placeOfGreatest_53 hC hR (s_m10_placeOfGreatest_7 n) ih r0 r1 x4 v8 x4 M9
set_option maxRecDepth 100000 in
set_option maxHeartbeats 4000000 in
theorem ok_m10_placeOfGreatest {l : Launch} {V : Ev} {M M' : Mm} {r : Int32} {r0 : Nat} {r1 : Nat} (h : s_m10_placeOfGreatest r0 r1 M = some (r, M')) : Met l y_m10_placeOfGreatest (Cond.code y_m10_placeOfGreatest b_m10_placeOfGreatest 6 (some .int) :: TW) rm_m10_placeOfGreatest (va_Pc [rv V.1 r0, rv V.1 r1] (Wd V M)) (QC V (some (.int r)) M' 0) 0 0 (Af V) := by
  refine met_of (fun x : Int32 => some (.int x)) (lv0 := [(0, rv V.1 r0), (1, rv V.1 r1)]) (by decide) (by simp [lg_sl, cat_rv, cat_i, cat_l, cat_f]) (by simp [lv_args, cat_rv, cat_i, cat_l, cat_f]) (fun C hl hR hC => ?_) h
  subst hl
  generalize mN M = n0 at hC ⊢
  unfold s_m10_placeOfGreatest
  refine Sm.iconst (v := 0) hC d_m10_placeOfGreatest_0 (by decide) ?_
  refine Sm.istore_n (i := 2) (lv' := [(2, .int (0 : Int32)), (0, rv V.1 r0), (1, rv V.1 r1)]) hC d_m10_placeOfGreatest_1 rfl (by decide) (by simp [cat_rv, cat_i, cat_l, cat_f]) ?_
  refine Sm.iconst (v := -1) hC d_m10_placeOfGreatest_2 (by decide) ?_
  refine Sm.istore_n (lv' := [(3, .int (-1 : Int32)), (2, .int (0 : Int32)), (0, rv V.1 r0), (1, rv V.1 r1)]) hC d_m10_placeOfGreatest_3 rfl (by decide) rfl ?_
  refine Sm.iconst (v := 0) hC d_m10_placeOfGreatest_4 (by decide) ?_
  refine Sm.istore (lv' := [(4, .int (0 : Int32)), (3, .int (-1 : Int32)), (2, .int (0 : Int32)), (0, rv V.1 r0), (1, rv V.1 r1)]) hC d_m10_placeOfGreatest_5 (by decide) rfl ?_
  refine Sm.sub [3, 4, 2, 1, 0] rfl ?_
  exact w_m10_placeOfGreatest_7 hC hR FU r0 r1 (0 : Int32) (-1 : Int32) (0 : Int32) M
/-! NewsWire.hearWord(LNewsWire$Wire;I)V -/
theorem fl_m10_231 : FL "NewsWire" 231 10 14 0 false .int := ⟨_, _, _, _, rfl, in_c10, ty_c10, nm_c10, by decide, rfl, tw_i 371 (by decide +kernel), rfl, rfl, rfl, rfl⟩
theorem fl_m10_243 : FL "NewsWire" 243 9 1 2 true (.array .int) := ⟨_, _, _, _, rfl, in_c9, ty_c9, nm_c9, by decide, rfl, tw_i 266 (by decide +kernel), rfl, rfl, rfl, rfl⟩
theorem fl_m10_23 : FL "NewsWire" 23 10 2 2 true (.array (.object "NewsWire$Paper")) := ⟨_, _, _, _, rfl, in_c10, ty_c10, nm_c10, by decide, rfl, tw_i 359 (by decide +kernel), rfl, rfl, rfl, rfl⟩
theorem fl_m10_255 : FL "NewsWire" 255 2 1 0 false .int := ⟨_, _, _, _, rfl, in_c2, ty_c2, nm_c2, by decide, rfl, tw_i 341 (by decide +kernel), rfl, rfl, rfl, rfl⟩
abbrev b_m10_hearWord : ByteArray := prog_1_method_32_code
def y_m10_hearWord : MethodName := ⟨"NewsWire", "hearWord", "(LNewsWire$Wire;I)V"⟩
def rm_m10_hearWord : Room := { frames := 5, cells := 0, slots := 0, locals := 156 }
theorem cw_m10_hearWord : CW y_m10_hearWord b_m10_hearWord 7 none 2 := ⟨tw_i 55 (by decide +kernel), tw_i 672 (by decide +kernel), by decide, by decide, by decide +kernel⟩
theorem d_m10_hearWord_0 : decode b_m10_hearWord 0 = .ok (.aload_n 1, 1) := by decide +kernel
theorem d_m10_hearWord_1 : decode b_m10_hearWord 1 = .ok (.getfield 272, 3) := by decide +kernel
theorem d_m10_hearWord_4 : decode b_m10_hearWord 4 = .ok (.iload_n 2, 1) := by decide +kernel
theorem d_m10_hearWord_5 : decode b_m10_hearWord 5 = .ok (.iaload, 1) := by decide +kernel
theorem d_m10_hearWord_6 : decode b_m10_hearWord 6 = .ok (.istore_n 3, 1) := by decide +kernel
theorem d_m10_hearWord_7 : decode b_m10_hearWord 7 = .ok (.aload_n 0, 1) := by decide +kernel
theorem d_m10_hearWord_8 : decode b_m10_hearWord 8 = .ok (.getfield 17, 3) := by decide +kernel
theorem d_m10_hearWord_11 : decode b_m10_hearWord 11 = .ok (.iload_n 3, 1) := by decide +kernel
theorem d_m10_hearWord_12 : decode b_m10_hearWord 12 = .ok (.aaload, 1) := by decide +kernel
theorem d_m10_hearWord_13 : decode b_m10_hearWord 13 = .ok (.astore 4, 2) := by decide +kernel
theorem d_m10_hearWord_15 : decode b_m10_hearWord 15 = .ok (.aload_n 0, 1) := by decide +kernel
theorem d_m10_hearWord_16 : decode b_m10_hearWord 16 = .ok (.dup, 1) := by decide +kernel
theorem d_m10_hearWord_17 : decode b_m10_hearWord 17 = .ok (.getfield 231, 3) := by decide +kernel
theorem d_m10_hearWord_20 : decode b_m10_hearWord 20 = .ok (.iconst 1, 1) := by decide +kernel
theorem d_m10_hearWord_21 : decode b_m10_hearWord 21 = .ok (.iadd, 1) := by decide +kernel
theorem d_m10_hearWord_22 : decode b_m10_hearWord 22 = .ok (.putfield 231, 3) := by decide +kernel
theorem d_m10_hearWord_25 : decode b_m10_hearWord 25 = .ok (.aload_n 1, 1) := by decide +kernel
theorem d_m10_hearWord_26 : decode b_m10_hearWord 26 = .ok (.getfield 243, 3) := by decide +kernel
theorem d_m10_hearWord_29 : decode b_m10_hearWord 29 = .ok (.iload_n 3, 1) := by decide +kernel
theorem d_m10_hearWord_30 : decode b_m10_hearWord 30 = .ok (.dup2, 1) := by decide +kernel
theorem d_m10_hearWord_31 : decode b_m10_hearWord 31 = .ok (.iaload, 1) := by decide +kernel
theorem d_m10_hearWord_32 : decode b_m10_hearWord 32 = .ok (.iconst 1, 1) := by decide +kernel
theorem d_m10_hearWord_33 : decode b_m10_hearWord 33 = .ok (.iadd, 1) := by decide +kernel
theorem d_m10_hearWord_34 : decode b_m10_hearWord 34 = .ok (.iastore, 1) := by decide +kernel
theorem d_m10_hearWord_35 : decode b_m10_hearWord 35 = .ok (.aload_n 1, 1) := by decide +kernel
theorem d_m10_hearWord_36 : decode b_m10_hearWord 36 = .ok (.getfield 243, 3) := by decide +kernel
theorem d_m10_hearWord_39 : decode b_m10_hearWord 39 = .ok (.iload_n 3, 1) := by decide +kernel
theorem d_m10_hearWord_40 : decode b_m10_hearWord 40 = .ok (.iaload, 1) := by decide +kernel
theorem d_m10_hearWord_41 : decode b_m10_hearWord 41 = .ok (.aload 4, 2) := by decide +kernel
theorem d_m10_hearWord_43 : decode b_m10_hearWord 43 = .ok (.getfield 120, 3) := by decide +kernel
theorem d_m10_hearWord_46 : decode b_m10_hearWord 46 = .ok (.if_icmp .lt 7, 3) := by decide +kernel
theorem d_m10_hearWord_49 : decode b_m10_hearWord 49 = .ok (.iconst 1, 1) := by decide +kernel
theorem d_m10_hearWord_50 : decode b_m10_hearWord 50 = .ok (.goto 4, 3) := by decide +kernel
theorem d_m10_hearWord_53 : decode b_m10_hearWord 53 = .ok (.iconst 0, 1) := by decide +kernel
theorem d_m10_hearWord_54 : decode b_m10_hearWord 54 = .ok (.istore 5, 2) := by decide +kernel
theorem d_m10_hearWord_56 : decode b_m10_hearWord 56 = .ok (.iconst 0, 1) := by decide +kernel
theorem d_m10_hearWord_57 : decode b_m10_hearWord 57 = .ok (.istore 6, 2) := by decide +kernel
theorem d_m10_hearWord_59 : decode b_m10_hearWord 59 = .ok (.iload 6, 2) := by decide +kernel
theorem d_m10_hearWord_61 : decode b_m10_hearWord 61 = .ok (.bipush 8, 2) := by decide +kernel
theorem d_m10_hearWord_63 : decode b_m10_hearWord 63 = .ok (.if_icmp .ge 86, 3) := by decide +kernel
theorem d_m10_hearWord_66 : decode b_m10_hearWord 66 = .ok (.aload_n 1, 1) := by decide +kernel
theorem d_m10_hearWord_67 : decode b_m10_hearWord 67 = .ok (.iload 6, 2) := by decide +kernel
theorem d_m10_hearWord_69 : decode b_m10_hearWord 69 = .ok (.invokevirtual 275, 3) := by decide +kernel
theorem d_m10_hearWord_72 : decode b_m10_hearWord 72 = .ok (.ifCond .eq 71, 3) := by decide +kernel
theorem d_m10_hearWord_75 : decode b_m10_hearWord 75 = .ok (.aload_n 0, 1) := by decide +kernel
theorem d_m10_hearWord_76 : decode b_m10_hearWord 76 = .ok (.getfield 30, 3) := by decide +kernel
theorem d_m10_hearWord_79 : decode b_m10_hearWord 79 = .ok (.aload 4, 2) := by decide +kernel
theorem d_m10_hearWord_81 : decode b_m10_hearWord 81 = .ok (.iload 6, 2) := by decide +kernel
theorem d_m10_hearWord_83 : decode b_m10_hearWord 83 = .ok (.aload_n 0, 1) := by decide +kernel
theorem d_m10_hearWord_84 : decode b_m10_hearWord 84 = .ok (.getfield 195, 3) := by decide +kernel
theorem d_m10_hearWord_87 : decode b_m10_hearWord 87 = .ok (.invokevirtual 206, 3) := by decide +kernel
theorem d_m10_hearWord_90 : decode b_m10_hearWord 90 = .ok (.ifCond .ne 53, 3) := by decide +kernel
theorem d_m10_hearWord_93 : decode b_m10_hearWord 93 = .ok (.aload_n 0, 1) := by decide +kernel
theorem d_m10_hearWord_94 : decode b_m10_hearWord 94 = .ok (.getfield 23, 3) := by decide +kernel
theorem d_m10_hearWord_97 : decode b_m10_hearWord 97 = .ok (.iload 6, 2) := by decide +kernel
theorem d_m10_hearWord_99 : decode b_m10_hearWord 99 = .ok (.aaload, 1) := by decide +kernel
theorem d_m10_hearWord_100 : decode b_m10_hearWord 100 = .ok (.dup, 1) := by decide +kernel
theorem d_m10_hearWord_101 : decode b_m10_hearWord 101 = .ok (.getfield 255, 3) := by decide +kernel
theorem d_m10_hearWord_104 : decode b_m10_hearWord 104 = .ok (.aload_n 0, 1) := by decide +kernel
theorem d_m10_hearWord_105 : decode b_m10_hearWord 105 = .ok (.getfield 30, 3) := by decide +kernel
theorem d_m10_hearWord_108 : decode b_m10_hearWord 108 = .ok (.aload 4, 2) := by decide +kernel
theorem d_m10_hearWord_110 : decode b_m10_hearWord 110 = .ok (.iload 6, 2) := by decide +kernel
theorem d_m10_hearWord_112 : decode b_m10_hearWord 112 = .ok (.aload_n 0, 1) := by decide +kernel
theorem d_m10_hearWord_113 : decode b_m10_hearWord 113 = .ok (.getfield 195, 3) := by decide +kernel
theorem d_m10_hearWord_116 : decode b_m10_hearWord 116 = .ok (.invokevirtual 278, 3) := by decide +kernel
theorem d_m10_hearWord_119 : decode b_m10_hearWord 119 = .ok (.iadd, 1) := by decide +kernel
theorem d_m10_hearWord_120 : decode b_m10_hearWord 120 = .ok (.putfield 255, 3) := by decide +kernel
theorem d_m10_hearWord_123 : decode b_m10_hearWord 123 = .ok (.iload 5, 2) := by decide +kernel
theorem d_m10_hearWord_125 : decode b_m10_hearWord 125 = .ok (.ifCond .eq 18, 3) := by decide +kernel
theorem d_m10_hearWord_128 : decode b_m10_hearWord 128 = .ok (.aload_n 0, 1) := by decide +kernel
theorem d_m10_hearWord_129 : decode b_m10_hearWord 129 = .ok (.getfield 23, 3) := by decide +kernel
theorem d_m10_hearWord_132 : decode b_m10_hearWord 132 = .ok (.iload 6, 2) := by decide +kernel
theorem d_m10_hearWord_134 : decode b_m10_hearWord 134 = .ok (.aaload, 1) := by decide +kernel
theorem d_m10_hearWord_135 : decode b_m10_hearWord 135 = .ok (.iload_n 3, 1) := by decide +kernel
theorem d_m10_hearWord_136 : decode b_m10_hearWord 136 = .ok (.aload_n 0, 1) := by decide +kernel
theorem d_m10_hearWord_137 : decode b_m10_hearWord 137 = .ok (.getfield 195, 3) := by decide +kernel
theorem d_m10_hearWord_140 : decode b_m10_hearWord 140 = .ok (.invokevirtual 282, 3) := by decide +kernel
theorem d_m10_hearWord_143 : decode b_m10_hearWord 143 = .ok (.iinc 6 1, 3) := by decide +kernel
theorem d_m10_hearWord_146 : decode b_m10_hearWord 146 = .ok (.goto (-87), 3) := by decide +kernel
theorem d_m10_hearWord_149 : decode b_m10_hearWord 149 = .ok (.iload 5, 2) := by decide +kernel
theorem d_m10_hearWord_151 : decode b_m10_hearWord 151 = .ok (.ifCond .eq 12, 3) := by decide +kernel
theorem d_m10_hearWord_154 : decode b_m10_hearWord 154 = .ok (.aload_n 1, 1) := by decide +kernel
theorem d_m10_hearWord_155 : decode b_m10_hearWord 155 = .ok (.iload_n 2, 1) := by decide +kernel
theorem d_m10_hearWord_156 : decode b_m10_hearWord 156 = .ok (.aload_n 0, 1) := by decide +kernel
theorem d_m10_hearWord_157 : decode b_m10_hearWord 157 = .ok (.getfield 195, 3) := by decide +kernel
theorem d_m10_hearWord_160 : decode b_m10_hearWord 160 = .ok (.invokevirtual 285, 3) := by decide +kernel
theorem d_m10_hearWord_163 : decode b_m10_hearWord 163 = .ok (.return_, 1) := by decide +kernel
def s_m10_hearWord_163   (M : Mm) : Option (Unit × Mm) := some ((), M)
def s_m10_hearWord_143 (k59 : Nat → Nat → Int32 → Int32 → Nat → Int32 → Int32 → Mm → Option (Unit × Mm)) (r0 : Nat) (r1 : Nat) (x2 : Int32) (x3 : Int32) (r4 : Nat) (x5 : Int32) (x6 : Int32) (M : Mm) : Option (Unit × Mm) := k59 r0 r1 x2 x3 r4 x5 (x6 + 1) M
def s_m10_hearWord_59  : Nat → Nat → Nat → Int32 → Int32 → Nat → Int32 → Int32 → Mm → Option (Unit × Mm)
  | 0, _, _, _, _, _, _, _, _ => none
  | n + 1, r0, r1, x2, x3, r4, x5, x6, M => (if (8 : Int32) ≤ x6 then (if x5 = 0 then s_m10_hearWord_163 M else gI M r0 20 12 (fun v1 => cl (has M r1 19) (s_m9_dequeue r1 x2 v1 M) (fun _ M2 => s_m10_hearWord_163 M2))) else cl (has M r1 19) (s_m9_goesTo r1 x6 M) (fun v3 M4 => (if v3 = 0 then s_m10_hearWord_143 (s_m10_hearWord_59 n) r0 r1 x2 x3 r4 x5 x6 M4 else gR M4 r0 20 3 (fun v5 => gI M4 r0 20 12 (fun v6 => cl (has M4 v5 16) (s_m6_bar v5 r4 x6 v6 M4) (fun v7 M8 => (if ¬ v7 = 0 then s_m10_hearWord_143 (s_m10_hearWord_59 n) r0 r1 x2 x3 r4 x5 x6 M8 else gR M8 r0 20 2 (fun v9 => aR M8 v9 2 x6 (fun v10 => gI M8 v10 12 1 (fun v11 => gR M8 r0 20 3 (fun v12 => gI M8 r0 20 12 (fun v13 => cl (has M8 v12 16) (s_m6_costOf v12 r4 x6 v13 M8) (fun v14 M15 => pI M15 v10 12 1 (v11 + v14) (fun M16 => (if x5 = 0 then s_m10_hearWord_143 (s_m10_hearWord_59 n) r0 r1 x2 x3 r4 x5 x6 M16 else gR M16 r0 20 2 (fun v17 => aR M16 v17 2 x6 (fun v18 => gI M16 r0 20 12 (fun v19 => cl (has M16 v18 12) (s_m2_receive v18 x3 v19 M16) (fun _ M20 => s_m10_hearWord_143 (s_m10_hearWord_59 n) r0 r1 x2 x3 r4 x5 x6 M20)))))))))))))))))))
def s_m10_hearWord_54  (r0 : Nat) (r1 : Nat) (x2 : Int32) (x3 : Int32) (r4 : Nat) (t0 : Int32) (M : Mm) : Option (Unit × Mm) := s_m10_hearWord_59 FU r0 r1 x2 x3 r4 t0 (0 : Int32) M
def s_m10_hearWord (r0 : Nat) (r1 : Nat) (a2 : Int32) (M : Mm) : Option (Unit × Mm) := gR M r1 19 0 (fun v1 => aI M v1 0 a2 (fun v2 => gR M r0 20 1 (fun v3 => aR M v3 3 v2 (fun v4 => gI M r0 20 14 (fun v5 => pI M r0 20 14 (v5 + (1 : Int32)) (fun M6 => gR M6 r1 19 1 (fun v7 => aI M6 v7 0 v2 (fun v8 => sI M6 v7 0 v2 (v8 + (1 : Int32)) (fun M9 => gR M9 r1 19 1 (fun v10 => aI M9 v10 0 v2 (fun v11 => gI M9 v4 13 5 (fun v12 => (if v11 < v12 then s_m10_hearWord_54 r0 r1 a2 v2 v4 (0 : Int32) M9 else s_m10_hearWord_54 r0 r1 a2 v2 v4 (1 : Int32) M9)))))))))))))
set_option maxRecDepth 100000 in
set_option maxHeartbeats 4000000 in
theorem w_m10_hearWord_163 {V : Ev} {C : Cx} {n0 : Nat} (hC : Cok V C y_m10_hearWord.cls b_m10_hearWord 7 n0 none y_m10_hearWord.name) (hR : cR C = rm_m10_hearWord)  : ∀  (M : Mm), Sm V C 7 n0 n0 (qV V C) 163 [] [] M (s_m10_hearWord_163 M) := by
  intro M
  unfold s_m10_hearWord_163
  exact Sm.vret hC d_m10_hearWord_163 rfl (Nat.sub_self _)
set_option maxRecDepth 100000 in
set_option maxHeartbeats 4000000 in
theorem w_m10_hearWord_143 {V : Ev} {C : Cx} {n0 : Nat} (hC : Cok V C y_m10_hearWord.cls b_m10_hearWord 7 n0 none y_m10_hearWord.name) (hR : cR C = rm_m10_hearWord) (k59 : Nat → Nat → Int32 → Int32 → Nat → Int32 → Int32 → Mm → Option (Unit × Mm)) (hk59 : ∀ (r0 : Nat) (r1 : Nat) (x2 : Int32) (x3 : Int32) (r4 : Nat) (x5 : Int32) (x6 : Int32) (M : Mm), Sm V C 7 n0 n0 (qV V C) 59 [(0, rv V.1 r0), (1, rv V.1 r1), (2, .int x2), (3, .int x3), (4, rv V.1 r4), (5, .int x5), (6, .int x6)] [] M (k59 r0 r1 x2 x3 r4 x5 x6 M)) : ∀ (r0 : Nat) (r1 : Nat) (x2 : Int32) (x3 : Int32) (r4 : Nat) (x5 : Int32) (x6 : Int32) (M : Mm), Sm V C 7 n0 n0 (qV V C) 143 [(0, rv V.1 r0), (1, rv V.1 r1), (2, .int x2), (3, .int x3), (4, rv V.1 r4), (5, .int x5), (6, .int x6)] [] M (s_m10_hearWord_143 k59 r0 r1 x2 x3 r4 x5 x6 M) := by
  intro r0 r1 x2 x3 r4 x5 x6 M
  unfold s_m10_hearWord_143
  refine Sm.iinc (v := x6 + 1) (lv' := [(6, .int (x6 + 1)), (0, rv V.1 r0), (1, rv V.1 r1), (2, .int x2), (3, .int x3), (4, rv V.1 r4), (5, .int x5)]) hC d_m10_hearWord_143 6 rfl rfl (by decide) rfl ?_
  refine Sm.goto (tgt := 59) hC d_m10_hearWord_146 (by decide) ?_
  refine Sm.sub [1, 2, 3, 4, 5, 6, 0] rfl ?_
  exact hk59 r0 r1 x2 x3 r4 x5 (x6 + 1) M
set_option maxRecDepth 100000 in
set_option maxHeartbeats 4000000 in
theorem w_m10_hearWord_59 {V : Ev} {C : Cx} {n0 : Nat} (hC : Cok V C y_m10_hearWord.cls b_m10_hearWord 7 n0 none y_m10_hearWord.name) (hR : cR C = rm_m10_hearWord)  : ∀ (n : Nat) (r0 : Nat) (r1 : Nat) (x2 : Int32) (x3 : Int32) (r4 : Nat) (x5 : Int32) (x6 : Int32) (M : Mm), Sm V C 7 n0 n0 (qV V C) 59 [(0, rv V.1 r0), (1, rv V.1 r1), (2, .int x2), (3, .int x3), (4, rv V.1 r4), (5, .int x5), (6, .int x6)] [] M (s_m10_hearWord_59 n r0 r1 x2 x3 r4 x5 x6 M) := by
  intro n
  induction n with
  | zero => exact fun r0 r1 x2 x3 r4 x5 x6 M => Sm.none_
  | succ n ih =>
    intro r0 r1 x2 x3 r4 x5 x6 M
    unfold s_m10_hearWord_59
    refine Sm.iload hC d_m10_hearWord_59 6 rfl ?_
    refine Sm.bipush (v := 8) hC d_m10_hearWord_61 (by decide) ?_
    refine Sm.icmp_ge (tgt := 149) hC d_m10_hearWord_63 (by decide) ?_ ?_
    · refine Sm.iload hC d_m10_hearWord_149 5 rfl ?_
      refine Sm.if_eq (tgt := 163) hC d_m10_hearWord_151 (by decide) ?_ ?_
      · refine Sm.sub [] rfl ?_
        exact w_m10_hearWord_163 hC hR M
      · refine Sm.aload_n hC d_m10_hearWord_154 rfl 1 rfl ?_
        refine Sm.iload_n hC d_m10_hearWord_155 rfl 2 rfl ?_
        refine Sm.aload_n hC d_m10_hearWord_156 rfl 0 rfl ?_
        refine Sm.getI hC fl_m10_195 rfl d_m10_hearWord_157 (fun v1 => ?_)
        refine Sm.callVv 9 (As := [.int x2, .int v1]) (st := []) hC hR cw_m9_dequeue (tw_i 685 (by decide +kernel)) (tw_i 686 (by decide +kernel)) (tw_i 687 (by decide +kernel)) ⟨_, rfl, rfl⟩ (fun r9 M9 h9 => ok_m9_dequeue h9) rfl rfl (RW.of ⟨rfl, rfl, by decide, by decide⟩) (by simp) d_m10_hearWord_160 (fun _ M2 => ?_)
        refine Sm.sub [] rfl ?_
        exact w_m10_hearWord_163 hC hR M2
    · refine Sm.aload_n hC d_m10_hearWord_66 rfl 1 rfl ?_
      refine Sm.iload hC d_m10_hearWord_67 6 rfl ?_
      refine Sm.callVi 9 (As := [.int x6]) (st := []) hC hR cw_m9_goesTo (tw_i 673 (by decide +kernel)) (tw_i 674 (by decide +kernel)) (tw_i 675 (by decide +kernel)) ⟨_, rfl, rfl⟩ (fun r9 M9 h9 => ok_m9_goesTo h9) rfl rfl (RW.of ⟨rfl, rfl, by decide, by decide⟩) (by simp) d_m10_hearWord_69 (fun v3 M4 => ?_)
      refine Sm.if_eq (tgt := 143) hC d_m10_hearWord_72 (by decide) ?_ ?_
      · exact w_m10_hearWord_143 hC hR (s_m10_hearWord_59 n) ih r0 r1 x2 x3 r4 x5 x6 M4
      · refine Sm.aload_n hC d_m10_hearWord_75 rfl 0 rfl ?_
        refine Sm.getR hC fl_m10_30 rfl d_m10_hearWord_76 (fun v5 => ?_)
        refine Sm.aload hC d_m10_hearWord_79 4 rfl ?_
        refine Sm.iload hC d_m10_hearWord_81 6 rfl ?_
        refine Sm.aload_n hC d_m10_hearWord_83 rfl 0 rfl ?_
        refine Sm.getI hC fl_m10_195 rfl d_m10_hearWord_84 (fun v6 => ?_)
        refine Sm.callVi 6 (As := [rv V.1 r4, .int x6, .int v6]) (st := []) hC hR cw_m6_bar (tw_i 621 (by decide +kernel)) (tw_i 622 (by decide +kernel)) (tw_i 623 (by decide +kernel)) ⟨_, rfl, rfl⟩ (fun r9 M9 h9 => ok_m6_bar h9) rfl rfl (RW.of ⟨rfl, rfl, by decide, by decide⟩) (by simp) d_m10_hearWord_87 (fun v7 M8 => ?_)
        refine Sm.if_ne (tgt := 143) hC d_m10_hearWord_90 (by decide) ?_ ?_
        · exact w_m10_hearWord_143 hC hR (s_m10_hearWord_59 n) ih r0 r1 x2 x3 r4 x5 x6 M8
        · refine Sm.aload_n hC d_m10_hearWord_93 rfl 0 rfl ?_
          refine Sm.getR hC fl_m10_23 rfl d_m10_hearWord_94 (fun v9 => ?_)
          refine Sm.iload hC d_m10_hearWord_97 6 rfl ?_
          refine Sm.aald (Cn := n_c2) hC ⟨by decide, by decide⟩ rfl d_m10_hearWord_99 (fun v10 => ?_)
          refine Sm.dup hC d_m10_hearWord_100 (cat_rv _ _) ?_
          refine Sm.getI hC fl_m10_255 rfl d_m10_hearWord_101 (fun v11 => ?_)
          refine Sm.aload_n hC d_m10_hearWord_104 rfl 0 rfl ?_
          refine Sm.getR hC fl_m10_30 rfl d_m10_hearWord_105 (fun v12 => ?_)
          refine Sm.aload hC d_m10_hearWord_108 4 rfl ?_
          refine Sm.iload hC d_m10_hearWord_110 6 rfl ?_
          refine Sm.aload_n hC d_m10_hearWord_112 rfl 0 rfl ?_
          refine Sm.getI hC fl_m10_195 rfl d_m10_hearWord_113 (fun v13 => ?_)
          refine Sm.callVi 6 (As := [rv V.1 r4, .int x6, .int v13]) (st := [.int v11, rv V.1 v10]) hC hR cw_m6_costOf (tw_i 677 (by decide +kernel)) (tw_i 678 (by decide +kernel)) (tw_i 679 (by decide +kernel)) ⟨_, rfl, rfl⟩ (fun r9 M9 h9 => ok_m6_costOf h9) rfl rfl (RW.of ⟨rfl, rfl, by decide, by decide⟩) (by simp) d_m10_hearWord_116 (fun v14 M15 => ?_)
          refine Sm.iadd hC d_m10_hearWord_119 ?_
          refine Sm.putI hC fl_m10_255 rfl d_m10_hearWord_120 (fun M16 => ?_)
          refine Sm.iload hC d_m10_hearWord_123 5 rfl ?_
          refine Sm.if_eq (tgt := 143) hC d_m10_hearWord_125 (by decide) ?_ ?_
          · exact w_m10_hearWord_143 hC hR (s_m10_hearWord_59 n) ih r0 r1 x2 x3 r4 x5 x6 M16
          · refine Sm.aload_n hC d_m10_hearWord_128 rfl 0 rfl ?_
            refine Sm.getR hC fl_m10_23 rfl d_m10_hearWord_129 (fun v17 => ?_)
            refine Sm.iload hC d_m10_hearWord_132 6 rfl ?_
            refine Sm.aald (Cn := n_c2) hC ⟨by decide, by decide⟩ rfl d_m10_hearWord_134 (fun v18 => ?_)
            refine Sm.iload_n hC d_m10_hearWord_135 rfl 3 rfl ?_
            refine Sm.aload_n hC d_m10_hearWord_136 rfl 0 rfl ?_
            refine Sm.getI hC fl_m10_195 rfl d_m10_hearWord_137 (fun v19 => ?_)
            refine Sm.callVv 2 (As := [.int x3, .int v19]) (st := []) hC hR cw_m2_receive (tw_i 681 (by decide +kernel)) (tw_i 682 (by decide +kernel)) (tw_i 683 (by decide +kernel)) ⟨_, rfl, rfl⟩ (fun r9 M9 h9 => ok_m2_receive h9) rfl rfl (RW.of ⟨rfl, rfl, by decide, by decide⟩) (by simp) d_m10_hearWord_140 (fun _ M20 => ?_)
            exact w_m10_hearWord_143 hC hR (s_m10_hearWord_59 n) ih r0 r1 x2 x3 r4 x5 x6 M20
set_option maxRecDepth 100000 in
set_option maxHeartbeats 4000000 in
theorem w_m10_hearWord_54 {V : Ev} {C : Cx} {n0 : Nat} (hC : Cok V C y_m10_hearWord.cls b_m10_hearWord 7 n0 none y_m10_hearWord.name) (hR : cR C = rm_m10_hearWord)  : ∀ (r0 : Nat) (r1 : Nat) (x2 : Int32) (x3 : Int32) (r4 : Nat) (t0 : Int32) (M : Mm), Sm V C 7 n0 n0 (qV V C) 54 [(0, rv V.1 r0), (1, rv V.1 r1), (2, .int x2), (3, .int x3), (4, rv V.1 r4)] [.int t0] M (s_m10_hearWord_54 r0 r1 x2 x3 r4 t0 M) := by
  intro r0 r1 x2 x3 r4 t0 M
  unfold s_m10_hearWord_54
  refine Sm.istore (lv' := [(5, .int t0), (0, rv V.1 r0), (1, rv V.1 r1), (2, .int x2), (3, .int x3), (4, rv V.1 r4)]) hC d_m10_hearWord_54 (by decide) (by simp [cat_rv, cat_i, cat_l, cat_f]) ?_
  refine Sm.iconst (v := 0) hC d_m10_hearWord_56 (by decide) ?_
  refine Sm.istore (lv' := [(6, .int (0 : Int32)), (5, .int t0), (0, rv V.1 r0), (1, rv V.1 r1), (2, .int x2), (3, .int x3), (4, rv V.1 r4)]) hC d_m10_hearWord_57 (by decide) rfl ?_
  refine Sm.sub [2, 3, 4, 5, 6, 1, 0] rfl ?_
  exact w_m10_hearWord_59 hC hR FU r0 r1 x2 x3 r4 t0 (0 : Int32) M
set_option maxRecDepth 100000 in
set_option maxHeartbeats 4000000 in
theorem ok_m10_hearWord {l : Launch} {V : Ev} {M M' : Mm} {r : Unit} {r0 : Nat} {r1 : Nat} {a2 : Int32} (h : s_m10_hearWord r0 r1 a2 M = some (r, M')) : Met l y_m10_hearWord (Cond.code y_m10_hearWord b_m10_hearWord 7 none :: TW) rm_m10_hearWord (va_Pc [rv V.1 r0, rv V.1 r1, .int a2] (Wd V M)) (QC V none M' 0) 0 0 (Af V) := by
  refine met_of (fun _ : Unit => none) (lv0 := [(0, rv V.1 r0), (1, rv V.1 r1), (2, .int a2)]) (by decide) (by simp [lg_sl, cat_rv, cat_i, cat_l, cat_f]) (by simp [lv_args, cat_rv, cat_i, cat_l, cat_f]) (fun C hl hR hC => ?_) h
  subst hl
  generalize mN M = n0 at hC ⊢
  unfold s_m10_hearWord
  refine Sm.aload_n hC d_m10_hearWord_0 rfl 1 rfl ?_
  refine Sm.getR hC fl_m10_272 rfl d_m10_hearWord_1 (fun v1 => ?_)
  refine Sm.iload_n hC d_m10_hearWord_4 rfl 2 rfl ?_
  refine Sm.iald hC d_m10_hearWord_5 (fun v2 => ?_)
  refine Sm.istore_n (lv' := [(3, .int v2), (0, rv V.1 r0), (1, rv V.1 r1), (2, .int a2)]) hC d_m10_hearWord_6 rfl (by decide) rfl ?_
  refine Sm.aload_n hC d_m10_hearWord_7 rfl 1 rfl ?_
  refine Sm.getR hC fl_m10_17 rfl d_m10_hearWord_8 (fun v3 => ?_)
  refine Sm.iload_n hC d_m10_hearWord_11 rfl 0 rfl ?_
  refine Sm.aald (Cn := n_c3) hC ⟨by decide, by decide⟩ rfl d_m10_hearWord_12 (fun v4 => ?_)
  refine Sm.astore (lv' := [(4, rv V.1 v4), (3, .int v2), (0, rv V.1 r0), (1, rv V.1 r1), (2, .int a2)]) hC d_m10_hearWord_13 (by decide) rfl ?_
  refine Sm.aload_n hC d_m10_hearWord_15 rfl 2 rfl ?_
  refine Sm.dup hC d_m10_hearWord_16 (cat_rv _ _) ?_
  refine Sm.getI hC fl_m10_231 rfl d_m10_hearWord_17 (fun v5 => ?_)
  refine Sm.iconst (v := 1) hC d_m10_hearWord_20 (by decide) ?_
  refine Sm.iadd hC d_m10_hearWord_21 ?_
  refine Sm.putI hC fl_m10_231 rfl d_m10_hearWord_22 (fun M6 => ?_)
  refine Sm.aload_n hC d_m10_hearWord_25 rfl 3 rfl ?_
  refine Sm.getR hC fl_m10_243 rfl d_m10_hearWord_26 (fun v7 => ?_)
  refine Sm.iload_n hC d_m10_hearWord_29 rfl 1 rfl ?_
  refine Sm.dup2 hC d_m10_hearWord_30 rfl (cat_rv _ _) ?_
  refine Sm.iald hC d_m10_hearWord_31 (fun v8 => ?_)
  refine Sm.iconst (v := 1) hC d_m10_hearWord_32 (by decide) ?_
  refine Sm.iadd hC d_m10_hearWord_33 ?_
  refine Sm.iast hC d_m10_hearWord_34 (fun M9 => ?_)
  refine Sm.aload_n hC d_m10_hearWord_35 rfl 3 rfl ?_
  refine Sm.getR hC fl_m10_243 rfl d_m10_hearWord_36 (fun v10 => ?_)
  refine Sm.iload_n hC d_m10_hearWord_39 rfl 1 rfl ?_
  refine Sm.iald hC d_m10_hearWord_40 (fun v11 => ?_)
  refine Sm.aload hC d_m10_hearWord_41 0 rfl ?_
  refine Sm.getI hC fl_m10_120 rfl d_m10_hearWord_43 (fun v12 => ?_)
  refine Sm.icmp_lt (tgt := 53) hC d_m10_hearWord_46 (by decide) ?_ ?_
  · refine Sm.iconst (v := 0) hC d_m10_hearWord_53 (by decide) ?_
    refine Sm.sub [2, 3, 4, 1, 0] rfl ?_
    exact w_m10_hearWord_54 hC hR r0 r1 a2 v2 v4 (0 : Int32) M9
  · refine Sm.iconst (v := 1) hC d_m10_hearWord_49 (by decide) ?_
    refine Sm.goto (tgt := 54) hC d_m10_hearWord_50 (by decide) ?_
    refine Sm.sub [2, 3, 4, 1, 0] rfl ?_
    exact w_m10_hearWord_54 hC hR r0 r1 a2 v2 v4 (1 : Int32) M9
/-! NewsWire.sendOneTick(I)V -/
theorem fl_m10_258 : FL "NewsWire" 258 9 6 0 false .int := ⟨_, _, _, _, rfl, in_c9, ty_c9, nm_c9, by decide, rfl, tw_i 275 (by decide +kernel), rfl, rfl, rfl, rfl⟩
theorem fl_m10_261 : FL "NewsWire" 261 10 13 0 false .int := ⟨_, _, _, _, rfl, in_c10, ty_c10, nm_c10, by decide, rfl, tw_i 370 (by decide +kernel), rfl, rfl, rfl, rfl⟩
abbrev b_m10_sendOneTick : ByteArray := prog_1_method_30_code
def y_m10_sendOneTick : MethodName := ⟨"NewsWire", "sendOneTick", "(I)V"⟩
def rm_m10_sendOneTick : Room := { frames := 6, cells := 0, slots := 0, locals := 182 }
theorem cw_m10_sendOneTick : CW y_m10_sendOneTick b_m10_sendOneTick 5 none 1 := ⟨tw_i 55 (by decide +kernel), tw_i 664 (by decide +kernel), by decide, by decide, by decide +kernel⟩
theorem d_m10_sendOneTick_0 : decode b_m10_sendOneTick 0 = .ok (.aload_n 0, 1) := by decide +kernel
theorem d_m10_sendOneTick_1 : decode b_m10_sendOneTick 1 = .ok (.getfield 11, 3) := by decide +kernel
theorem d_m10_sendOneTick_4 : decode b_m10_sendOneTick 4 = .ok (.iload_n 1, 1) := by decide +kernel
theorem d_m10_sendOneTick_5 : decode b_m10_sendOneTick 5 = .ok (.aaload, 1) := by decide +kernel
theorem d_m10_sendOneTick_6 : decode b_m10_sendOneTick 6 = .ok (.astore_n 2, 1) := by decide +kernel
theorem d_m10_sendOneTick_7 : decode b_m10_sendOneTick 7 = .ok (.aload_n 2, 1) := by decide +kernel
theorem d_m10_sendOneTick_8 : decode b_m10_sendOneTick 8 = .ok (.getfield 216, 3) := by decide +kernel
theorem d_m10_sendOneTick_11 : decode b_m10_sendOneTick 11 = .ok (.ifCond .ne 4, 3) := by decide +kernel
theorem d_m10_sendOneTick_14 : decode b_m10_sendOneTick 14 = .ok (.return_, 1) := by decide +kernel
theorem d_m10_sendOneTick_15 : decode b_m10_sendOneTick 15 = .ok (.aload_n 0, 1) := by decide +kernel
theorem d_m10_sendOneTick_16 : decode b_m10_sendOneTick 16 = .ok (.getfield 37, 3) := by decide +kernel
theorem d_m10_sendOneTick_19 : decode b_m10_sendOneTick 19 = .ok (.iload_n 1, 1) := by decide +kernel
theorem d_m10_sendOneTick_20 : decode b_m10_sendOneTick 20 = .ok (.aload_n 0, 1) := by decide +kernel
theorem d_m10_sendOneTick_21 : decode b_m10_sendOneTick 21 = .ok (.getfield 195, 3) := by decide +kernel
theorem d_m10_sendOneTick_24 : decode b_m10_sendOneTick 24 = .ok (.invokevirtual 223, 3) := by decide +kernel
theorem d_m10_sendOneTick_27 : decode b_m10_sendOneTick 27 = .ok (.istore_n 3, 1) := by decide +kernel
theorem d_m10_sendOneTick_28 : decode b_m10_sendOneTick 28 = .ok (.iconst 0, 1) := by decide +kernel
theorem d_m10_sendOneTick_29 : decode b_m10_sendOneTick 29 = .ok (.istore 4, 2) := by decide +kernel
theorem d_m10_sendOneTick_31 : decode b_m10_sendOneTick 31 = .ok (.iload 4, 2) := by decide +kernel
theorem d_m10_sendOneTick_33 : decode b_m10_sendOneTick 33 = .ok (.aload_n 2, 1) := by decide +kernel
theorem d_m10_sendOneTick_34 : decode b_m10_sendOneTick 34 = .ok (.getfield 258, 3) := by decide +kernel
theorem d_m10_sendOneTick_37 : decode b_m10_sendOneTick 37 = .ok (.if_icmp .ge 40, 3) := by decide +kernel
theorem d_m10_sendOneTick_40 : decode b_m10_sendOneTick 40 = .ok (.aload_n 2, 1) := by decide +kernel
theorem d_m10_sendOneTick_41 : decode b_m10_sendOneTick 41 = .ok (.getfield 216, 3) := by decide +kernel
theorem d_m10_sendOneTick_44 : decode b_m10_sendOneTick 44 = .ok (.ifCond .le 33, 3) := by decide +kernel
theorem d_m10_sendOneTick_47 : decode b_m10_sendOneTick 47 = .ok (.aload_n 0, 1) := by decide +kernel
theorem d_m10_sendOneTick_48 : decode b_m10_sendOneTick 48 = .ok (.dup, 1) := by decide +kernel
theorem d_m10_sendOneTick_49 : decode b_m10_sendOneTick 49 = .ok (.getfield 261, 3) := by decide +kernel
theorem d_m10_sendOneTick_52 : decode b_m10_sendOneTick 52 = .ok (.iconst 1, 1) := by decide +kernel
theorem d_m10_sendOneTick_53 : decode b_m10_sendOneTick 53 = .ok (.iadd, 1) := by decide +kernel
theorem d_m10_sendOneTick_54 : decode b_m10_sendOneTick 54 = .ok (.putfield 261, 3) := by decide +kernel
theorem d_m10_sendOneTick_57 : decode b_m10_sendOneTick 57 = .ok (.iload_n 3, 1) := by decide +kernel
theorem d_m10_sendOneTick_58 : decode b_m10_sendOneTick 58 = .ok (.ifCond .ne 13, 3) := by decide +kernel
theorem d_m10_sendOneTick_61 : decode b_m10_sendOneTick 61 = .ok (.aload_n 0, 1) := by decide +kernel
theorem d_m10_sendOneTick_62 : decode b_m10_sendOneTick 62 = .ok (.aload_n 2, 1) := by decide +kernel
theorem d_m10_sendOneTick_63 : decode b_m10_sendOneTick 63 = .ok (.aload_n 0, 1) := by decide +kernel
theorem d_m10_sendOneTick_64 : decode b_m10_sendOneTick 64 = .ok (.aload_n 2, 1) := by decide +kernel
theorem d_m10_sendOneTick_65 : decode b_m10_sendOneTick 65 = .ok (.invokevirtual 264, 3) := by decide +kernel
theorem d_m10_sendOneTick_68 : decode b_m10_sendOneTick 68 = .ok (.invokevirtual 268, 3) := by decide +kernel
theorem d_m10_sendOneTick_71 : decode b_m10_sendOneTick 71 = .ok (.iinc 4 1, 3) := by decide +kernel
theorem d_m10_sendOneTick_74 : decode b_m10_sendOneTick 74 = .ok (.goto (-43), 3) := by decide +kernel
theorem d_m10_sendOneTick_77 : decode b_m10_sendOneTick 77 = .ok (.return_, 1) := by decide +kernel
def s_m10_sendOneTick_77   (M : Mm) : Option (Unit × Mm) := some ((), M)
def s_m10_sendOneTick_71 (k31 : Nat → Nat → Int32 → Int32 → Mm → Option (Unit × Mm)) (r0 : Nat) (r2 : Nat) (x3 : Int32) (x4 : Int32) (M : Mm) : Option (Unit × Mm) := k31 r0 r2 x3 (x4 + 1) M
def s_m10_sendOneTick_31  : Nat → Nat → Nat → Int32 → Int32 → Mm → Option (Unit × Mm)
  | 0, _, _, _, _, _ => none
  | n + 1, r0, r2, x3, x4, M => gI M r2 19 6 (fun v1 => (if v1 ≤ x4 then s_m10_sendOneTick_77 M else gI M r2 19 3 (fun v2 => (if v2 ≤ 0 then s_m10_sendOneTick_77 M else gI M r0 20 13 (fun v3 => pI M r0 20 13 (v3 + (1 : Int32)) (fun M4 => (if ¬ x3 = 0 then s_m10_sendOneTick_71 (s_m10_sendOneTick_31 n) r0 r2 x3 x4 M4 else cl (has M4 r0 20) (s_m10_placeOfGreatest r0 r2 M4) (fun v5 M6 => cl (has M6 r0 20) (s_m10_hearWord r0 r2 v5 M6) (fun _ M7 => s_m10_sendOneTick_71 (s_m10_sendOneTick_31 n) r0 r2 x3 x4 M7)))))))))
def s_m10_sendOneTick (r0 : Nat) (a1 : Int32) (M : Mm) : Option (Unit × Mm) := gR M r0 20 0 (fun v1 => aR M v1 5 a1 (fun v2 => gI M v2 19 3 (fun v3 => (if ¬ v3 = 0 then gR M r0 20 4 (fun v4 => gI M r0 20 12 (fun v5 => cl (has M v4 11) (s_m1_include v4 a1 v5 M) (fun v6 M7 => s_m10_sendOneTick_31 FU r0 v2 v6 (0 : Int32) M7))) else some ((), M)))))
set_option maxRecDepth 100000 in
set_option maxHeartbeats 4000000 in
theorem w_m10_sendOneTick_77 {V : Ev} {C : Cx} {n0 : Nat} (hC : Cok V C y_m10_sendOneTick.cls b_m10_sendOneTick 5 n0 none y_m10_sendOneTick.name) (hR : cR C = rm_m10_sendOneTick)  : ∀  (M : Mm), Sm V C 5 n0 n0 (qV V C) 77 [] [] M (s_m10_sendOneTick_77 M) := by
  intro M
  unfold s_m10_sendOneTick_77
  exact Sm.vret hC d_m10_sendOneTick_77 rfl (Nat.sub_self _)
set_option maxRecDepth 100000 in
set_option maxHeartbeats 4000000 in
theorem w_m10_sendOneTick_71 {V : Ev} {C : Cx} {n0 : Nat} (hC : Cok V C y_m10_sendOneTick.cls b_m10_sendOneTick 5 n0 none y_m10_sendOneTick.name) (hR : cR C = rm_m10_sendOneTick) (k31 : Nat → Nat → Int32 → Int32 → Mm → Option (Unit × Mm)) (hk31 : ∀ (r0 : Nat) (r2 : Nat) (x3 : Int32) (x4 : Int32) (M : Mm), Sm V C 5 n0 n0 (qV V C) 31 [(0, rv V.1 r0), (2, rv V.1 r2), (3, .int x3), (4, .int x4)] [] M (k31 r0 r2 x3 x4 M)) : ∀ (r0 : Nat) (r2 : Nat) (x3 : Int32) (x4 : Int32) (M : Mm), Sm V C 5 n0 n0 (qV V C) 71 [(0, rv V.1 r0), (2, rv V.1 r2), (3, .int x3), (4, .int x4)] [] M (s_m10_sendOneTick_71 k31 r0 r2 x3 x4 M) := by
  intro r0 r2 x3 x4 M
  unfold s_m10_sendOneTick_71
  refine Sm.iinc (v := x4 + 1) (lv' := [(4, .int (x4 + 1)), (0, rv V.1 r0), (2, rv V.1 r2), (3, .int x3)]) hC d_m10_sendOneTick_71 3 rfl rfl (by decide) rfl ?_
  refine Sm.goto (tgt := 31) hC d_m10_sendOneTick_74 (by decide) ?_
  refine Sm.sub [1, 2, 3, 0] rfl ?_
  exact hk31 r0 r2 x3 (x4 + 1) M
set_option maxRecDepth 100000 in
set_option maxHeartbeats 4000000 in
theorem w_m10_sendOneTick_31 {V : Ev} {C : Cx} {n0 : Nat} (hC : Cok V C y_m10_sendOneTick.cls b_m10_sendOneTick 5 n0 none y_m10_sendOneTick.name) (hR : cR C = rm_m10_sendOneTick)  : ∀ (n : Nat) (r0 : Nat) (r2 : Nat) (x3 : Int32) (x4 : Int32) (M : Mm), Sm V C 5 n0 n0 (qV V C) 31 [(0, rv V.1 r0), (2, rv V.1 r2), (3, .int x3), (4, .int x4)] [] M (s_m10_sendOneTick_31 n r0 r2 x3 x4 M) := by
  intro n
  induction n with
  | zero => exact fun r0 r2 x3 x4 M => Sm.none_
  | succ n ih =>
    intro r0 r2 x3 x4 M
    unfold s_m10_sendOneTick_31
    refine Sm.iload hC d_m10_sendOneTick_31 3 rfl ?_
    refine Sm.aload_n hC d_m10_sendOneTick_33 rfl 1 rfl ?_
    refine Sm.getI hC fl_m10_258 rfl d_m10_sendOneTick_34 (fun v1 => ?_)
    refine Sm.icmp_ge (tgt := 77) hC d_m10_sendOneTick_37 (by decide) ?_ ?_
    · refine Sm.sub [] rfl ?_
      exact w_m10_sendOneTick_77 hC hR M
    · refine Sm.aload_n hC d_m10_sendOneTick_40 rfl 1 rfl ?_
      refine Sm.getI hC fl_m10_216 rfl d_m10_sendOneTick_41 (fun v2 => ?_)
      refine Sm.if_le (tgt := 77) hC d_m10_sendOneTick_44 (by decide) ?_ ?_
      · refine Sm.sub [] rfl ?_
        exact w_m10_sendOneTick_77 hC hR M
      · refine Sm.aload_n hC d_m10_sendOneTick_47 rfl 0 rfl ?_
        refine Sm.dup hC d_m10_sendOneTick_48 (cat_rv _ _) ?_
        refine Sm.getI hC fl_m10_261 rfl d_m10_sendOneTick_49 (fun v3 => ?_)
        refine Sm.iconst (v := 1) hC d_m10_sendOneTick_52 (by decide) ?_
        refine Sm.iadd hC d_m10_sendOneTick_53 ?_
        refine Sm.putI hC fl_m10_261 rfl d_m10_sendOneTick_54 (fun M4 => ?_)
        refine Sm.iload_n hC d_m10_sendOneTick_57 rfl 2 rfl ?_
        refine Sm.if_ne (tgt := 71) hC d_m10_sendOneTick_58 (by decide) ?_ ?_
        · exact w_m10_sendOneTick_71 hC hR (s_m10_sendOneTick_31 n) ih r0 r2 x3 x4 M4
        · refine Sm.aload_n hC d_m10_sendOneTick_61 rfl 0 rfl ?_
          refine Sm.aload_n hC d_m10_sendOneTick_62 rfl 1 rfl ?_
          refine Sm.aload_n hC d_m10_sendOneTick_63 rfl 0 rfl ?_
          refine Sm.aload_n hC d_m10_sendOneTick_64 rfl 1 rfl ?_
          refine Sm.callVi 10 (As := [rv V.1 r2]) (st := [rv V.1 r2, rv V.1 r0]) hC hR cw_m10_placeOfGreatest (tw_i 665 (by decide +kernel)) (tw_i 667 (by decide +kernel)) (tw_i 8 (by decide +kernel)) ⟨_, rfl, rfl⟩ (fun r9 M9 h9 => ok_m10_placeOfGreatest h9) rfl rfl (RW.of ⟨rfl, rfl, by decide, by decide⟩) (by simp) d_m10_sendOneTick_65 (fun v5 M6 => ?_)
          refine Sm.callVv 10 (As := [rv V.1 r2, .int v5]) (st := []) hC hR cw_m10_hearWord (tw_i 669 (by decide +kernel)) (tw_i 671 (by decide +kernel)) (tw_i 9 (by decide +kernel)) ⟨_, rfl, rfl⟩ (fun r9 M9 h9 => ok_m10_hearWord h9) rfl rfl (RW.of ⟨rfl, rfl, by decide, by decide⟩) (by simp) d_m10_sendOneTick_68 (fun _ M7 => ?_)
          exact w_m10_sendOneTick_71 hC hR (s_m10_sendOneTick_31 n) ih r0 r2 x3 x4 M7
set_option maxRecDepth 100000 in
set_option maxHeartbeats 4000000 in
theorem ok_m10_sendOneTick {l : Launch} {V : Ev} {M M' : Mm} {r : Unit} {r0 : Nat} {a1 : Int32} (h : s_m10_sendOneTick r0 a1 M = some (r, M')) : Met l y_m10_sendOneTick (Cond.code y_m10_sendOneTick b_m10_sendOneTick 5 none :: TW) rm_m10_sendOneTick (va_Pc [rv V.1 r0, .int a1] (Wd V M)) (QC V none M' 0) 0 0 (Af V) := by
  refine met_of (fun _ : Unit => none) (lv0 := [(0, rv V.1 r0), (1, .int a1)]) (by decide) (by simp [lg_sl, cat_rv, cat_i, cat_l, cat_f]) (by simp [lv_args, cat_rv, cat_i, cat_l, cat_f]) (fun C hl hR hC => ?_) h
  subst hl
  generalize mN M = n0 at hC ⊢
  unfold s_m10_sendOneTick
  refine Sm.aload_n hC d_m10_sendOneTick_0 rfl 0 rfl ?_
  refine Sm.getR hC fl_m10_11 rfl d_m10_sendOneTick_1 (fun v1 => ?_)
  refine Sm.iload_n hC d_m10_sendOneTick_4 rfl 1 rfl ?_
  refine Sm.aald (Cn := n_c9) hC ⟨by decide, by decide⟩ rfl d_m10_sendOneTick_5 (fun v2 => ?_)
  refine Sm.astore_n (lv' := [(2, rv V.1 v2), (0, rv V.1 r0), (1, .int a1)]) hC d_m10_sendOneTick_6 rfl (by decide) rfl ?_
  refine Sm.aload_n hC d_m10_sendOneTick_7 rfl 0 rfl ?_
  refine Sm.getI hC fl_m10_216 rfl d_m10_sendOneTick_8 (fun v3 => ?_)
  refine Sm.if_ne (tgt := 15) hC d_m10_sendOneTick_11 (by decide) ?_ ?_
  · refine Sm.aload_n hC d_m10_sendOneTick_15 rfl 1 rfl ?_
    refine Sm.getR hC fl_m10_37 rfl d_m10_sendOneTick_16 (fun v4 => ?_)
    refine Sm.iload_n hC d_m10_sendOneTick_19 rfl 2 rfl ?_
    refine Sm.aload_n hC d_m10_sendOneTick_20 rfl 1 rfl ?_
    refine Sm.getI hC fl_m10_195 rfl d_m10_sendOneTick_21 (fun v5 => ?_)
    refine Sm.callVi 1 (As := [.int a1, .int v5]) (st := []) hC hR cw_m1_include (tw_i 645 (by decide +kernel)) (tw_i 646 (by decide +kernel)) (tw_i 647 (by decide +kernel)) ⟨_, rfl, rfl⟩ (fun r9 M9 h9 => ok_m1_include h9) rfl rfl (RW.of ⟨rfl, rfl, by decide, by decide⟩) (by simp) d_m10_sendOneTick_24 (fun v6 M7 => ?_)
    refine Sm.istore_n (i := 3) (lv' := [(3, .int v6), (2, rv V.1 v2), (0, rv V.1 r0), (1, .int a1)]) hC d_m10_sendOneTick_27 rfl (by decide) (by simp [cat_rv, cat_i, cat_l, cat_f]) ?_
    refine Sm.iconst (v := 0) hC d_m10_sendOneTick_28 (by decide) ?_
    refine Sm.istore (lv' := [(4, .int (0 : Int32)), (3, .int v6), (2, rv V.1 v2), (0, rv V.1 r0), (1, .int a1)]) hC d_m10_sendOneTick_29 (by decide) rfl ?_
    refine Sm.sub [3, 2, 1, 0] rfl ?_
    exact w_m10_sendOneTick_31 hC hR FU r0 v2 v6 (0 : Int32) M7
  · exact Sm.vret hC d_m10_sendOneTick_14 rfl (Nat.sub_self _)
/-! NewsWire.run(I)I -/
abbrev b_m10_run : ByteArray := prog_1_method_24_code
def y_m10_run : MethodName := ⟨"NewsWire", "run", "(I)I"⟩
def rm_m10_run : Room := { frames := 7, cells := 0, slots := 0, locals := 206 }
theorem cw_m10_run : CW y_m10_run b_m10_run 6 (some .int) 1 := ⟨tw_i 55 (by decide +kernel), tw_i 656 (by decide +kernel), by decide, by decide, by decide +kernel⟩
theorem d_m10_run_0 : decode b_m10_run 0 = .ok (.iload_n 1, 1) := by decide +kernel
theorem d_m10_run_1 : decode b_m10_run 1 = .ok (.ifCond .ge 10, 3) := by decide +kernel
theorem d_m10_run_4 : decode b_m10_run 4 = .ok (.aload_n 0, 1) := by decide +kernel
theorem d_m10_run_5 : decode b_m10_run 5 = .ok (.bipush (-4), 2) := by decide +kernel
theorem d_m10_run_7 : decode b_m10_run 7 = .ok (.invokevirtual 76, 3) := by decide +kernel
theorem d_m10_run_10 : decode b_m10_run 10 = .ok (.ireturn, 1) := by decide +kernel
theorem d_m10_run_11 : decode b_m10_run 11 = .ok (.iload_n 1, 1) := by decide +kernel
theorem d_m10_run_12 : decode b_m10_run 12 = .ok (.iconst 1, 1) := by decide +kernel
theorem d_m10_run_13 : decode b_m10_run 13 = .ok (.if_icmp .lt 10, 3) := by decide +kernel
theorem d_m10_run_16 : decode b_m10_run 16 = .ok (.iload_n 1, 1) := by decide +kernel
theorem d_m10_run_17 : decode b_m10_run 17 = .ok (.sipush 500, 3) := by decide +kernel
theorem d_m10_run_20 : decode b_m10_run 20 = .ok (.if_icmp .le 10, 3) := by decide +kernel
theorem d_m10_run_23 : decode b_m10_run 23 = .ok (.aload_n 0, 1) := by decide +kernel
theorem d_m10_run_24 : decode b_m10_run 24 = .ok (.bipush (-7), 2) := by decide +kernel
theorem d_m10_run_26 : decode b_m10_run 26 = .ok (.invokevirtual 76, 3) := by decide +kernel
theorem d_m10_run_29 : decode b_m10_run 29 = .ok (.ireturn, 1) := by decide +kernel
theorem d_m10_run_30 : decode b_m10_run 30 = .ok (.aload_n 0, 1) := by decide +kernel
theorem d_m10_run_31 : decode b_m10_run 31 = .ok (.getfield 231, 3) := by decide +kernel
theorem d_m10_run_34 : decode b_m10_run 34 = .ok (.istore_n 2, 1) := by decide +kernel
theorem d_m10_run_35 : decode b_m10_run 35 = .ok (.aload_n 0, 1) := by decide +kernel
theorem d_m10_run_36 : decode b_m10_run 36 = .ok (.getfield 195, 3) := by decide +kernel
theorem d_m10_run_39 : decode b_m10_run 39 = .ok (.iload_n 1, 1) := by decide +kernel
theorem d_m10_run_40 : decode b_m10_run 40 = .ok (.iadd, 1) := by decide +kernel
theorem d_m10_run_41 : decode b_m10_run 41 = .ok (.istore_n 3, 1) := by decide +kernel
theorem d_m10_run_42 : decode b_m10_run 42 = .ok (.iconst 0, 1) := by decide +kernel
theorem d_m10_run_43 : decode b_m10_run 43 = .ok (.istore 4, 2) := by decide +kernel
theorem d_m10_run_45 : decode b_m10_run 45 = .ok (.iload 4, 2) := by decide +kernel
theorem d_m10_run_47 : decode b_m10_run 47 = .ok (.iload_n 1, 1) := by decide +kernel
theorem d_m10_run_48 : decode b_m10_run 48 = .ok (.if_icmp .ge 50, 3) := by decide +kernel
theorem d_m10_run_51 : decode b_m10_run 51 = .ok (.aload_n 0, 1) := by decide +kernel
theorem d_m10_run_52 : decode b_m10_run 52 = .ok (.invokevirtual 234, 3) := by decide +kernel
theorem d_m10_run_55 : decode b_m10_run 55 = .ok (.ifCond .eq 43, 3) := by decide +kernel
theorem d_m10_run_58 : decode b_m10_run 58 = .ok (.iconst 0, 1) := by decide +kernel
theorem d_m10_run_59 : decode b_m10_run 59 = .ok (.istore 5, 2) := by decide +kernel
theorem d_m10_run_61 : decode b_m10_run 61 = .ok (.iload 5, 2) := by decide +kernel
theorem d_m10_run_63 : decode b_m10_run 63 = .ok (.aload_n 0, 1) := by decide +kernel
theorem d_m10_run_64 : decode b_m10_run 64 = .ok (.getfield 80, 3) := by decide +kernel
theorem d_m10_run_67 : decode b_m10_run 67 = .ok (.if_icmp .ge 15, 3) := by decide +kernel
theorem d_m10_run_70 : decode b_m10_run 70 = .ok (.aload_n 0, 1) := by decide +kernel
theorem d_m10_run_71 : decode b_m10_run 71 = .ok (.iload 5, 2) := by decide +kernel
theorem d_m10_run_73 : decode b_m10_run 73 = .ok (.invokevirtual 237, 3) := by decide +kernel
theorem d_m10_run_76 : decode b_m10_run 76 = .ok (.iinc 5 1, 3) := by decide +kernel
theorem d_m10_run_79 : decode b_m10_run 79 = .ok (.goto (-18), 3) := by decide +kernel
theorem d_m10_run_82 : decode b_m10_run 82 = .ok (.aload_n 0, 1) := by decide +kernel
theorem d_m10_run_83 : decode b_m10_run 83 = .ok (.dup, 1) := by decide +kernel
theorem d_m10_run_84 : decode b_m10_run 84 = .ok (.getfield 195, 3) := by decide +kernel
theorem d_m10_run_87 : decode b_m10_run 87 = .ok (.iconst 1, 1) := by decide +kernel
theorem d_m10_run_88 : decode b_m10_run 88 = .ok (.iadd, 1) := by decide +kernel
theorem d_m10_run_89 : decode b_m10_run 89 = .ok (.putfield 195, 3) := by decide +kernel
theorem d_m10_run_92 : decode b_m10_run 92 = .ok (.iinc 4 1, 3) := by decide +kernel
theorem d_m10_run_95 : decode b_m10_run 95 = .ok (.goto (-50), 3) := by decide +kernel
theorem d_m10_run_98 : decode b_m10_run 98 = .ok (.aload_n 0, 1) := by decide +kernel
theorem d_m10_run_99 : decode b_m10_run 99 = .ok (.iload_n 3, 1) := by decide +kernel
theorem d_m10_run_100 : decode b_m10_run 100 = .ok (.putfield 195, 3) := by decide +kernel
theorem d_m10_run_103 : decode b_m10_run 103 = .ok (.aload_n 0, 1) := by decide +kernel
theorem d_m10_run_104 : decode b_m10_run 104 = .ok (.getfield 37, 3) := by decide +kernel
theorem d_m10_run_107 : decode b_m10_run 107 = .ok (.aload_n 0, 1) := by decide +kernel
theorem d_m10_run_108 : decode b_m10_run 108 = .ok (.getfield 195, 3) := by decide +kernel
theorem d_m10_run_111 : decode b_m10_run 111 = .ok (.invokevirtual 240, 3) := by decide +kernel
theorem d_m10_run_114 : decode b_m10_run 114 = .ok (.aload_n 0, 1) := by decide +kernel
theorem d_m10_run_115 : decode b_m10_run 115 = .ok (.getfield 231, 3) := by decide +kernel
theorem d_m10_run_118 : decode b_m10_run 118 = .ok (.iload_n 2, 1) := by decide +kernel
theorem d_m10_run_119 : decode b_m10_run 119 = .ok (.isub, 1) := by decide +kernel
theorem d_m10_run_120 : decode b_m10_run 120 = .ok (.ireturn, 1) := by decide +kernel
def s_m10_run_23  (r0 : Nat) (M : Mm) : Option (Int32 × Mm) := cl (has M r0 20) (s_m10_refuse r0 (-7 : Int32) M) (fun v1 M2 => some (v1, M2))
def s_m10_run_98  (r0 : Nat) (x2 : Int32) (x3 : Int32) (M : Mm) : Option (Int32 × Mm) := pI M r0 20 12 x3 (fun M1 => gR M1 r0 20 4 (fun v2 => gI M1 r0 20 12 (fun v3 => cl (has M1 v2 11) (s_m1_dropAheadOf v2 v3 M1) (fun _ M4 => gI M4 r0 20 14 (fun v5 => some (v5 - x2, M4))))))
def s_m10_run_61 (k45 : Nat → Int32 → Int32 → Int32 → Int32 → Mm → Option (Int32 × Mm)) : Nat → Nat → Int32 → Int32 → Int32 → Int32 → Int32 → Mm → Option (Int32 × Mm)
  | 0, _, _, _, _, _, _, _ => none
  | n + 1, r0, x1, x2, x3, x4, x5, M => gI M r0 20 10 (fun v1 => (if v1 ≤ x5 then gI M r0 20 12 (fun v2 => pI M r0 20 12 (v2 + (1 : Int32)) (fun M3 => k45 r0 x1 x2 x3 (x4 + 1) M3)) else cl (has M r0 20) (s_m10_sendOneTick r0 x5 M) (fun _ M4 => (s_m10_run_61 k45 n) r0 x1 x2 x3 x4 (x5 + 1) M4)))
def s_m10_run_45  : Nat → Nat → Int32 → Int32 → Int32 → Int32 → Mm → Option (Int32 × Mm)
  | 0, _, _, _, _, _, _ => none
  | n + 1, r0, x1, x2, x3, x4, M => (if x1 ≤ x4 then s_m10_run_98 r0 x2 x3 M else cl (has M r0 20) (s_m10_isAnyWaiting r0 M) (fun v1 M2 => (if v1 = 0 then s_m10_run_98 r0 x2 x3 M2 else s_m10_run_61 (s_m10_run_45 n) FU r0 x1 x2 x3 x4 (0 : Int32) M2)))
def s_m10_run (r0 : Nat) (a1 : Int32) (M : Mm) : Option (Int32 × Mm) := (if 0 ≤ a1 then (if a1 < (1 : Int32) then s_m10_run_23 r0 M else (if a1 ≤ (500 : Int32) then gI M r0 20 14 (fun v1 => gI M r0 20 12 (fun v2 => s_m10_run_45 FU r0 a1 v1 (v2 + a1) (0 : Int32) M)) else s_m10_run_23 r0 M)) else cl (has M r0 20) (s_m10_refuse r0 (-4 : Int32) M) (fun v3 M4 => some (v3, M4)))
set_option maxRecDepth 100000 in
set_option maxHeartbeats 4000000 in
theorem w_m10_run_23 {V : Ev} {C : Cx} {n0 : Nat} (hC : Cok V C y_m10_run.cls b_m10_run 6 n0 (some .int) y_m10_run.name) (hR : cR C = rm_m10_run)  : ∀ (r0 : Nat) (M : Mm), Sm V C 6 n0 n0 (qI V C) 23 [(0, rv V.1 r0)] [] M (s_m10_run_23 r0 M) := by
  intro r0 M
  unfold s_m10_run_23
  refine Sm.aload_n hC d_m10_run_23 rfl 0 rfl ?_
  refine Sm.bipush (v := -7) hC d_m10_run_24 (by decide) ?_
  refine Sm.callVi 10 (As := [.int (-7 : Int32)]) (st := []) hC hR cw_m10_refuse (tw_i 410 (by decide +kernel)) (tw_i 412 (by decide +kernel)) (tw_i 0 (by decide +kernel)) ⟨_, rfl, rfl⟩ (fun r9 M9 h9 => ok_m10_refuse h9) rfl rfl (RW.of ⟨rfl, rfl, by decide, by decide⟩) (by simp) d_m10_run_26 (fun v1 M2 => ?_)
  exact Sm.iret hC d_m10_run_29 rfl (Nat.sub_self _)
set_option maxRecDepth 100000 in
set_option maxHeartbeats 4000000 in
theorem w_m10_run_98 {V : Ev} {C : Cx} {n0 : Nat} (hC : Cok V C y_m10_run.cls b_m10_run 6 n0 (some .int) y_m10_run.name) (hR : cR C = rm_m10_run)  : ∀ (r0 : Nat) (x2 : Int32) (x3 : Int32) (M : Mm), Sm V C 6 n0 n0 (qI V C) 98 [(0, rv V.1 r0), (2, .int x2), (3, .int x3)] [] M (s_m10_run_98 r0 x2 x3 M) := by
  intro r0 x2 x3 M
  unfold s_m10_run_98
  refine Sm.aload_n hC d_m10_run_98 rfl 0 rfl ?_
  refine Sm.iload_n hC d_m10_run_99 rfl 2 rfl ?_
  refine Sm.putI hC fl_m10_195 rfl d_m10_run_100 (fun M1 => ?_)
  refine Sm.aload_n hC d_m10_run_103 rfl 0 rfl ?_
  refine Sm.getR hC fl_m10_37 rfl d_m10_run_104 (fun v2 => ?_)
  refine Sm.aload_n hC d_m10_run_107 rfl 0 rfl ?_
  refine Sm.getI hC fl_m10_195 rfl d_m10_run_108 (fun v3 => ?_)
  refine Sm.callVv 1 (As := [.int v3]) (st := []) hC hR cw_m1_dropAheadOf (tw_i 689 (by decide +kernel)) (tw_i 690 (by decide +kernel)) (tw_i 691 (by decide +kernel)) ⟨_, rfl, rfl⟩ (fun r9 M9 h9 => ok_m1_dropAheadOf h9) rfl rfl (RW.of ⟨rfl, rfl, by decide, by decide⟩) (by simp) d_m10_run_111 (fun _ M4 => ?_)
  refine Sm.aload_n hC d_m10_run_114 rfl 0 rfl ?_
  refine Sm.getI hC fl_m10_231 rfl d_m10_run_115 (fun v5 => ?_)
  refine Sm.iload_n hC d_m10_run_118 rfl 1 rfl ?_
  refine Sm.isub hC d_m10_run_119 ?_
  exact Sm.iret hC d_m10_run_120 rfl (Nat.sub_self _)
set_option maxRecDepth 100000 in
set_option maxHeartbeats 4000000 in
theorem w_m10_run_61 {V : Ev} {C : Cx} {n0 : Nat} (hC : Cok V C y_m10_run.cls b_m10_run 6 n0 (some .int) y_m10_run.name) (hR : cR C = rm_m10_run) (k45 : Nat → Int32 → Int32 → Int32 → Int32 → Mm → Option (Int32 × Mm)) (hk45 : ∀ (r0 : Nat) (x1 : Int32) (x2 : Int32) (x3 : Int32) (x4 : Int32) (M : Mm), Sm V C 6 n0 n0 (qI V C) 45 [(0, rv V.1 r0), (1, .int x1), (2, .int x2), (3, .int x3), (4, .int x4)] [] M (k45 r0 x1 x2 x3 x4 M)) : ∀ (n : Nat) (r0 : Nat) (x1 : Int32) (x2 : Int32) (x3 : Int32) (x4 : Int32) (x5 : Int32) (M : Mm), Sm V C 6 n0 n0 (qI V C) 61 [(0, rv V.1 r0), (1, .int x1), (2, .int x2), (3, .int x3), (4, .int x4), (5, .int x5)] [] M (s_m10_run_61 k45 n r0 x1 x2 x3 x4 x5 M) := by
  intro n
  induction n with
  | zero => exact fun r0 x1 x2 x3 x4 x5 M => Sm.none_
  | succ n ih =>
    intro r0 x1 x2 x3 x4 x5 M
    unfold s_m10_run_61
    refine Sm.iload hC d_m10_run_61 5 rfl ?_
    refine Sm.aload_n hC d_m10_run_63 rfl 0 rfl ?_
    refine Sm.getI hC fl_m10_80 rfl d_m10_run_64 (fun v1 => ?_)
    refine Sm.icmp_ge (tgt := 82) hC d_m10_run_67 (by decide) ?_ ?_
    · refine Sm.aload_n hC d_m10_run_82 rfl 0 rfl ?_
      refine Sm.dup hC d_m10_run_83 (cat_rv _ _) ?_
      refine Sm.getI hC fl_m10_195 rfl d_m10_run_84 (fun v2 => ?_)
      refine Sm.iconst (v := 1) hC d_m10_run_87 (by decide) ?_
      refine Sm.iadd hC d_m10_run_88 ?_
      refine Sm.putI hC fl_m10_195 rfl d_m10_run_89 (fun M3 => ?_)
      refine Sm.iinc (v := x4 + 1) (lv' := [(4, .int (x4 + 1)), (0, rv V.1 r0), (1, .int x1), (2, .int x2), (3, .int x3), (5, .int x5)]) hC d_m10_run_92 4 rfl rfl (by decide) rfl ?_
      refine Sm.goto (tgt := 45) hC d_m10_run_95 (by decide) ?_
      refine Sm.sub [1, 2, 3, 4, 0] rfl ?_
      exact hk45 r0 x1 x2 x3 (x4 + 1) M3
    · refine Sm.aload_n hC d_m10_run_70 rfl 0 rfl ?_
      refine Sm.iload hC d_m10_run_71 5 rfl ?_
      refine Sm.callVv 10 (As := [.int x5]) (st := []) hC hR cw_m10_sendOneTick (tw_i 661 (by decide +kernel)) (tw_i 663 (by decide +kernel)) (tw_i 7 (by decide +kernel)) ⟨_, rfl, rfl⟩ (fun r9 M9 h9 => ok_m10_sendOneTick h9) rfl rfl (RW.of ⟨rfl, rfl, by decide, by decide⟩) (by simp) d_m10_run_73 (fun _ M4 => ?_)
      refine Sm.iinc (v := x5 + 1) (lv' := [(5, .int (x5 + 1)), (0, rv V.1 r0), (1, .int x1), (2, .int x2), (3, .int x3), (4, .int x4)]) hC d_m10_run_76 5 rfl rfl (by decide) rfl ?_
      refine Sm.goto (tgt := 61) hC d_m10_run_79 (by decide) ?_
      refine Sm.sub [1, 2, 3, 4, 5, 0] rfl ?_
      exact ih r0 x1 x2 x3 x4 (x5 + 1) M4
set_option maxRecDepth 100000 in
set_option maxHeartbeats 4000000 in
theorem w_m10_run_45 {V : Ev} {C : Cx} {n0 : Nat} (hC : Cok V C y_m10_run.cls b_m10_run 6 n0 (some .int) y_m10_run.name) (hR : cR C = rm_m10_run)  : ∀ (n : Nat) (r0 : Nat) (x1 : Int32) (x2 : Int32) (x3 : Int32) (x4 : Int32) (M : Mm), Sm V C 6 n0 n0 (qI V C) 45 [(0, rv V.1 r0), (1, .int x1), (2, .int x2), (3, .int x3), (4, .int x4)] [] M (s_m10_run_45 n r0 x1 x2 x3 x4 M) := by
  intro n
  induction n with
  | zero => exact fun r0 x1 x2 x3 x4 M => Sm.none_
  | succ n ih =>
    intro r0 x1 x2 x3 x4 M
    unfold s_m10_run_45
    refine Sm.iload hC d_m10_run_45 4 rfl ?_
    refine Sm.iload_n hC d_m10_run_47 rfl 1 rfl ?_
    refine Sm.icmp_ge (tgt := 98) hC d_m10_run_48 (by decide) ?_ ?_
    · refine Sm.sub [0, 2, 3] rfl ?_
      exact w_m10_run_98 hC hR r0 x2 x3 M
    · refine Sm.aload_n hC d_m10_run_51 rfl 0 rfl ?_
      refine Sm.callVi 10 (As := []) (st := []) hC hR cw_m10_isAnyWaiting (tw_i 657 (by decide +kernel)) (tw_i 659 (by decide +kernel)) (tw_i 6 (by decide +kernel)) ⟨_, rfl, rfl⟩ (fun r9 M9 h9 => ok_m10_isAnyWaiting h9) rfl rfl (RW.of ⟨rfl, rfl, by decide, by decide⟩) (by simp) d_m10_run_52 (fun v1 M2 => ?_)
      refine Sm.if_eq (tgt := 98) hC d_m10_run_55 (by decide) ?_ ?_
      · refine Sm.sub [0, 2, 3] rfl ?_
        exact w_m10_run_98 hC hR r0 x2 x3 M2
      · refine Sm.iconst (v := 0) hC d_m10_run_58 (by decide) ?_
        refine Sm.istore (lv' := [(5, .int (0 : Int32)), (0, rv V.1 r0), (1, .int x1), (2, .int x2), (3, .int x3), (4, .int x4)]) hC d_m10_run_59 (by decide) rfl ?_
        refine Sm.sub [1, 2, 3, 4, 5, 0] rfl ?_
        exact w_m10_run_61 hC hR (s_m10_run_45 n) ih FU r0 x1 x2 x3 x4 (0 : Int32) M2
set_option maxRecDepth 100000 in
set_option maxHeartbeats 4000000 in
theorem ok_m10_run {l : Launch} {V : Ev} {M M' : Mm} {r : Int32} {r0 : Nat} {a1 : Int32} (h : s_m10_run r0 a1 M = some (r, M')) : Met l y_m10_run (Cond.code y_m10_run b_m10_run 6 (some .int) :: TW) rm_m10_run (va_Pc [rv V.1 r0, .int a1] (Wd V M)) (QC V (some (.int r)) M' 0) 0 0 (Af V) := by
  refine met_of (fun x : Int32 => some (.int x)) (lv0 := [(0, rv V.1 r0), (1, .int a1)]) (by decide) (by simp [lg_sl, cat_rv, cat_i, cat_l, cat_f]) (by simp [lv_args, cat_rv, cat_i, cat_l, cat_f]) (fun C hl hR hC => ?_) h
  subst hl
  generalize mN M = n0 at hC ⊢
  unfold s_m10_run
  refine Sm.iload_n hC d_m10_run_0 rfl 1 rfl ?_
  refine Sm.if_ge (tgt := 11) hC d_m10_run_1 (by decide) ?_ ?_
  · refine Sm.iload_n hC d_m10_run_11 rfl 1 rfl ?_
    refine Sm.iconst (v := 1) hC d_m10_run_12 (by decide) ?_
    refine Sm.icmp_lt (tgt := 23) hC d_m10_run_13 (by decide) ?_ ?_
    · refine Sm.sub [0] rfl ?_
      exact w_m10_run_23 hC hR r0 M
    · refine Sm.iload_n hC d_m10_run_16 rfl 1 rfl ?_
      refine Sm.sipush (v := 500) hC d_m10_run_17 (by decide) ?_
      refine Sm.icmp_le (tgt := 30) hC d_m10_run_20 (by decide) ?_ ?_
      · refine Sm.aload_n hC d_m10_run_30 rfl 0 rfl ?_
        refine Sm.getI hC fl_m10_231 rfl d_m10_run_31 (fun v1 => ?_)
        refine Sm.istore_n (lv' := [(2, .int v1), (0, rv V.1 r0), (1, .int a1)]) hC d_m10_run_34 rfl (by decide) rfl ?_
        refine Sm.aload_n hC d_m10_run_35 rfl 1 rfl ?_
        refine Sm.getI hC fl_m10_195 rfl d_m10_run_36 (fun v2 => ?_)
        refine Sm.iload_n hC d_m10_run_39 rfl 2 rfl ?_
        refine Sm.iadd hC d_m10_run_40 ?_
        refine Sm.istore_n (lv' := [(3, .int (v2 + a1)), (2, .int v1), (0, rv V.1 r0), (1, .int a1)]) hC d_m10_run_41 rfl (by decide) rfl ?_
        refine Sm.iconst (v := 0) hC d_m10_run_42 (by decide) ?_
        refine Sm.istore (lv' := [(4, .int (0 : Int32)), (3, .int (v2 + a1)), (2, .int v1), (0, rv V.1 r0), (1, .int a1)]) hC d_m10_run_43 (by decide) rfl ?_
        refine Sm.sub [3, 4, 2, 1, 0] rfl ?_
        exact w_m10_run_45 hC hR FU r0 a1 v1 (v2 + a1) (0 : Int32) M
      · refine Sm.sub [0] rfl ?_
        exact w_m10_run_23 hC hR r0 M
  · refine Sm.aload_n hC d_m10_run_4 rfl 0 rfl ?_
    refine Sm.bipush (v := -4) hC d_m10_run_5 (by decide) ?_
    refine Sm.callVi 10 (As := [.int (-4 : Int32)]) (st := []) hC hR cw_m10_refuse (tw_i 410 (by decide +kernel)) (tw_i 412 (by decide +kernel)) (tw_i 0 (by decide +kernel)) ⟨_, rfl, rfl⟩ (fun r9 M9 h9 => ok_m10_refuse h9) rfl rfl (RW.of ⟨rfl, rfl, by decide, by decide⟩) (by simp) d_m10_run_7 (fun v3 M4 => ?_)
    exact Sm.iret hC d_m10_run_10 rfl (Nat.sub_self _)
/-! NewsWire.sent(III)I -/
theorem fl_m10_246 : FL "NewsWire" 246 9 2 2 true (.array .int) := ⟨_, _, _, _, rfl, in_c9, ty_c9, nm_c9, by decide, rfl, tw_i 268 (by decide +kernel), rfl, rfl, rfl, rfl⟩
abbrev b_m10_sent : ByteArray := prog_1_method_25_code
def y_m10_sent : MethodName := ⟨"NewsWire", "sent", "(III)I"⟩
def rm_m10_sent : Room := { frames := 2, cells := 0, slots := 0, locals := 82 }
theorem cw_m10_sent : CW y_m10_sent b_m10_sent 5 (some .int) 3 := ⟨tw_i 55 (by decide +kernel), tw_i 696 (by decide +kernel), by decide, by decide, by decide +kernel⟩
theorem d_m10_sent_0 : decode b_m10_sent 0 = .ok (.aload_n 0, 1) := by decide +kernel
theorem d_m10_sent_1 : decode b_m10_sent 1 = .ok (.iload_n 1, 1) := by decide +kernel
theorem d_m10_sent_2 : decode b_m10_sent 2 = .ok (.invokevirtual 135, 3) := by decide +kernel
theorem d_m10_sent_5 : decode b_m10_sent 5 = .ok (.ifCond .eq 11, 3) := by decide +kernel
theorem d_m10_sent_8 : decode b_m10_sent 8 = .ok (.aload_n 0, 1) := by decide +kernel
theorem d_m10_sent_9 : decode b_m10_sent 9 = .ok (.iload_n 2, 1) := by decide +kernel
theorem d_m10_sent_10 : decode b_m10_sent 10 = .ok (.invokevirtual 209, 3) := by decide +kernel
theorem d_m10_sent_13 : decode b_m10_sent 13 = .ok (.ifCond .ne 10, 3) := by decide +kernel
theorem d_m10_sent_16 : decode b_m10_sent 16 = .ok (.aload_n 0, 1) := by decide +kernel
theorem d_m10_sent_17 : decode b_m10_sent 17 = .ok (.bipush (-3), 2) := by decide +kernel
theorem d_m10_sent_19 : decode b_m10_sent 19 = .ok (.invokevirtual 76, 3) := by decide +kernel
theorem d_m10_sent_22 : decode b_m10_sent 22 = .ok (.ireturn, 1) := by decide +kernel
theorem d_m10_sent_23 : decode b_m10_sent 23 = .ok (.aload_n 0, 1) := by decide +kernel
theorem d_m10_sent_24 : decode b_m10_sent 24 = .ok (.getfield 11, 3) := by decide +kernel
theorem d_m10_sent_27 : decode b_m10_sent 27 = .ok (.iload_n 2, 1) := by decide +kernel
theorem d_m10_sent_28 : decode b_m10_sent 28 = .ok (.aaload, 1) := by decide +kernel
theorem d_m10_sent_29 : decode b_m10_sent 29 = .ok (.astore 4, 2) := by decide +kernel
theorem d_m10_sent_31 : decode b_m10_sent 31 = .ok (.aload 4, 2) := by decide +kernel
theorem d_m10_sent_33 : decode b_m10_sent 33 = .ok (.iload_n 1, 1) := by decide +kernel
theorem d_m10_sent_34 : decode b_m10_sent 34 = .ok (.invokevirtual 213, 3) := by decide +kernel
theorem d_m10_sent_37 : decode b_m10_sent 37 = .ok (.ifCond .ne 10, 3) := by decide +kernel
theorem d_m10_sent_40 : decode b_m10_sent 40 = .ok (.aload_n 0, 1) := by decide +kernel
theorem d_m10_sent_41 : decode b_m10_sent 41 = .ok (.bipush (-2), 2) := by decide +kernel
theorem d_m10_sent_43 : decode b_m10_sent 43 = .ok (.invokevirtual 76, 3) := by decide +kernel
theorem d_m10_sent_46 : decode b_m10_sent 46 = .ok (.ireturn, 1) := by decide +kernel
theorem d_m10_sent_47 : decode b_m10_sent 47 = .ok (.iload_n 3, 1) := by decide +kernel
theorem d_m10_sent_48 : decode b_m10_sent 48 = .ok (.tableswitch 51 0 2 #[28, 36, 44], 28) := by decide +kernel
theorem d_m10_sent_76 : decode b_m10_sent 76 = .ok (.aload 4, 2) := by decide +kernel
theorem d_m10_sent_78 : decode b_m10_sent 78 = .ok (.getfield 243, 3) := by decide +kernel
theorem d_m10_sent_81 : decode b_m10_sent 81 = .ok (.iload_n 1, 1) := by decide +kernel
theorem d_m10_sent_82 : decode b_m10_sent 82 = .ok (.iaload, 1) := by decide +kernel
theorem d_m10_sent_83 : decode b_m10_sent 83 = .ok (.ireturn, 1) := by decide +kernel
theorem d_m10_sent_84 : decode b_m10_sent 84 = .ok (.aload 4, 2) := by decide +kernel
theorem d_m10_sent_86 : decode b_m10_sent 86 = .ok (.getfield 246, 3) := by decide +kernel
theorem d_m10_sent_89 : decode b_m10_sent 89 = .ok (.iload_n 1, 1) := by decide +kernel
theorem d_m10_sent_90 : decode b_m10_sent 90 = .ok (.iaload, 1) := by decide +kernel
theorem d_m10_sent_91 : decode b_m10_sent 91 = .ok (.ireturn, 1) := by decide +kernel
theorem d_m10_sent_92 : decode b_m10_sent 92 = .ok (.aload 4, 2) := by decide +kernel
theorem d_m10_sent_94 : decode b_m10_sent 94 = .ok (.iload_n 1, 1) := by decide +kernel
theorem d_m10_sent_95 : decode b_m10_sent 95 = .ok (.invokevirtual 249, 3) := by decide +kernel
theorem d_m10_sent_98 : decode b_m10_sent 98 = .ok (.ireturn, 1) := by decide +kernel
theorem d_m10_sent_99 : decode b_m10_sent 99 = .ok (.aload_n 0, 1) := by decide +kernel
theorem d_m10_sent_100 : decode b_m10_sent 100 = .ok (.bipush (-7), 2) := by decide +kernel
theorem d_m10_sent_102 : decode b_m10_sent 102 = .ok (.invokevirtual 76, 3) := by decide +kernel
theorem d_m10_sent_105 : decode b_m10_sent 105 = .ok (.ireturn, 1) := by decide +kernel
def s_m10_sent_16  (r0 : Nat) (M : Mm) : Option (Int32 × Mm) := cl (has M r0 20) (s_m10_refuse r0 (-3 : Int32) M) (fun v1 M2 => some (v1, M2))
def s_m10_sent (r0 : Nat) (a1 : Int32) (a2 : Int32) (a3 : Int32) (M : Mm) : Option (Int32 × Mm) := cl (has M r0 20) (s_m10_isPiece r0 a1 M) (fun v1 M2 => (if v1 = 0 then s_m10_sent_16 r0 M2 else cl (has M2 r0 20) (s_m10_isWire r0 a2 M2) (fun v3 M4 => (if ¬ v3 = 0 then gR M4 r0 20 0 (fun v5 => aR M4 v5 5 a2 (fun v6 => cl (has M4 v6 19) (s_m9_wasFiled v6 a1 M4) (fun v7 M8 => (if ¬ v7 = 0 then (if a3 = 0 then gR M8 v6 19 1 (fun v9 => aI M8 v9 0 a1 (fun v10 => some (v10, M8))) else if a3 = 1 then gR M8 v6 19 2 (fun v11 => aI M8 v11 0 a1 (fun v12 => some (v12, M8))) else if a3 = 2 then cl (has M8 v6 19) (s_m9_placeOf v6 a1 M8) (fun v13 M14 => some (v13, M14)) else cl (has M8 r0 20) (s_m10_refuse r0 (-7 : Int32) M8) (fun v15 M16 => some (v15, M16))) else cl (has M8 r0 20) (s_m10_refuse r0 (-2 : Int32) M8) (fun v17 M18 => some (v17, M18)))))) else s_m10_sent_16 r0 M4))))
set_option maxRecDepth 100000 in
set_option maxHeartbeats 4000000 in
theorem w_m10_sent_16 {V : Ev} {C : Cx} {n0 : Nat} (hC : Cok V C y_m10_sent.cls b_m10_sent 5 n0 (some .int) y_m10_sent.name) (hR : cR C = rm_m10_sent)  : ∀ (r0 : Nat) (M : Mm), Sm V C 5 n0 n0 (qI V C) 16 [(0, rv V.1 r0)] [] M (s_m10_sent_16 r0 M) := by
  intro r0 M
  unfold s_m10_sent_16
  refine Sm.aload_n hC d_m10_sent_16 rfl 0 rfl ?_
  refine Sm.bipush (v := -3) hC d_m10_sent_17 (by decide) ?_
  refine Sm.callVi 10 (As := [.int (-3 : Int32)]) (st := []) hC hR cw_m10_refuse (tw_i 410 (by decide +kernel)) (tw_i 412 (by decide +kernel)) (tw_i 0 (by decide +kernel)) ⟨_, rfl, rfl⟩ (fun r9 M9 h9 => ok_m10_refuse h9) rfl rfl (RW.of ⟨rfl, rfl, by decide, by decide⟩) (by simp) d_m10_sent_19 (fun v1 M2 => ?_)
  exact Sm.iret hC d_m10_sent_22 rfl (Nat.sub_self _)
set_option maxRecDepth 100000 in
set_option maxHeartbeats 4000000 in
theorem ok_m10_sent {l : Launch} {V : Ev} {M M' : Mm} {r : Int32} {r0 : Nat} {a1 : Int32} {a2 : Int32} {a3 : Int32} (h : s_m10_sent r0 a1 a2 a3 M = some (r, M')) : Met l y_m10_sent (Cond.code y_m10_sent b_m10_sent 5 (some .int) :: TW) rm_m10_sent (va_Pc [rv V.1 r0, .int a1, .int a2, .int a3] (Wd V M)) (QC V (some (.int r)) M' 0) 0 0 (Af V) := by
  refine met_of (fun x : Int32 => some (.int x)) (lv0 := [(0, rv V.1 r0), (1, .int a1), (2, .int a2), (3, .int a3)]) (by decide) (by simp [lg_sl, cat_rv, cat_i, cat_l, cat_f]) (by simp [lv_args, cat_rv, cat_i, cat_l, cat_f]) (fun C hl hR hC => ?_) h
  subst hl
  generalize mN M = n0 at hC ⊢
  unfold s_m10_sent
  refine Sm.aload_n hC d_m10_sent_0 rfl 0 rfl ?_
  refine Sm.iload_n hC d_m10_sent_1 rfl 1 rfl ?_
  refine Sm.callVi 10 (As := [.int a1]) (st := []) hC hR cw_m10_isPiece (tw_i 436 (by decide +kernel)) (tw_i 438 (by decide +kernel)) (tw_i 2 (by decide +kernel)) ⟨_, rfl, rfl⟩ (fun r9 M9 h9 => ok_m10_isPiece h9) rfl rfl (RW.of ⟨rfl, rfl, by decide, by decide⟩) (by simp) d_m10_sent_2 (fun v1 M2 => ?_)
  refine Sm.if_eq (tgt := 16) hC d_m10_sent_5 (by decide) ?_ ?_
  · refine Sm.sub [0] rfl ?_
    exact w_m10_sent_16 hC hR r0 M2
  · refine Sm.aload_n hC d_m10_sent_8 rfl 0 rfl ?_
    refine Sm.iload_n hC d_m10_sent_9 rfl 2 rfl ?_
    refine Sm.callVi 10 (As := [.int a2]) (st := []) hC hR cw_m10_isWire (tw_i 629 (by decide +kernel)) (tw_i 631 (by decide +kernel)) (tw_i 5 (by decide +kernel)) ⟨_, rfl, rfl⟩ (fun r9 M9 h9 => ok_m10_isWire h9) rfl rfl (RW.of ⟨rfl, rfl, by decide, by decide⟩) (by simp) d_m10_sent_10 (fun v3 M4 => ?_)
    refine Sm.if_ne (tgt := 23) hC d_m10_sent_13 (by decide) ?_ ?_
    · refine Sm.aload_n hC d_m10_sent_23 rfl 0 rfl ?_
      refine Sm.getR hC fl_m10_11 rfl d_m10_sent_24 (fun v5 => ?_)
      refine Sm.iload_n hC d_m10_sent_27 rfl 2 rfl ?_
      refine Sm.aald (Cn := n_c9) hC ⟨by decide, by decide⟩ rfl d_m10_sent_28 (fun v6 => ?_)
      refine Sm.astore (lv' := [(4, rv V.1 v6), (0, rv V.1 r0), (1, .int a1), (2, .int a2), (3, .int a3)]) hC d_m10_sent_29 (by decide) rfl ?_
      refine Sm.aload hC d_m10_sent_31 0 rfl ?_
      refine Sm.iload_n hC d_m10_sent_33 rfl 2 rfl ?_
      refine Sm.callVi 9 (As := [.int a1]) (st := []) hC hR cw_m9_wasFiled (tw_i 633 (by decide +kernel)) (tw_i 634 (by decide +kernel)) (tw_i 635 (by decide +kernel)) ⟨_, rfl, rfl⟩ (fun r9 M9 h9 => ok_m9_wasFiled h9) rfl rfl (RW.of ⟨rfl, rfl, by decide, by decide⟩) (by simp) d_m10_sent_34 (fun v7 M8 => ?_)
      refine Sm.if_ne (tgt := 47) hC d_m10_sent_37 (by decide) ?_ ?_
      · refine Sm.iload_n hC d_m10_sent_47 rfl 4 rfl ?_
        refine Sm.if_ (fun h9 => ?_) (fun h48_0 => ?_)
        · refine Sm.tswIn (tgt := 76) hC d_m10_sent_48 (by rw [h9]; decide) (by rw [h9]; decide) (by rw [h9] <;> rfl) (by decide) ?_
          refine Sm.aload hC d_m10_sent_76 0 rfl ?_
          refine Sm.getR hC fl_m10_243 rfl d_m10_sent_78 (fun v9 => ?_)
          refine Sm.iload_n hC d_m10_sent_81 rfl 2 rfl ?_
          refine Sm.iald hC d_m10_sent_82 (fun v10 => ?_)
          exact Sm.iret hC d_m10_sent_83 rfl (Nat.sub_self _)
        refine Sm.if_ (fun h9 => ?_) (fun h48_1 => ?_)
        · refine Sm.tswIn (tgt := 84) hC d_m10_sent_48 (by rw [h9]; decide) (by rw [h9]; decide) (by rw [h9] <;> rfl) (by decide) ?_
          refine Sm.aload hC d_m10_sent_84 0 rfl ?_
          refine Sm.getR hC fl_m10_246 rfl d_m10_sent_86 (fun v11 => ?_)
          refine Sm.iload_n hC d_m10_sent_89 rfl 2 rfl ?_
          refine Sm.iald hC d_m10_sent_90 (fun v12 => ?_)
          exact Sm.iret hC d_m10_sent_91 rfl (Nat.sub_self _)
        refine Sm.if_ (fun h9 => ?_) (fun h48_2 => ?_)
        · refine Sm.tswIn (tgt := 92) hC d_m10_sent_48 (by rw [h9]; decide) (by rw [h9]; decide) (by rw [h9] <;> rfl) (by decide) ?_
          refine Sm.aload hC d_m10_sent_92 0 rfl ?_
          refine Sm.iload_n hC d_m10_sent_94 rfl 2 rfl ?_
          refine Sm.callVi 9 (As := [.int a1]) (st := []) hC hR cw_m9_placeOf (tw_i 697 (by decide +kernel)) (tw_i 698 (by decide +kernel)) (tw_i 699 (by decide +kernel)) ⟨_, rfl, rfl⟩ (fun r9 M9 h9 => ok_m9_placeOf h9) rfl rfl (RW.of ⟨rfl, rfl, by decide, by decide⟩) (by simp) d_m10_sent_95 (fun v13 M14 => ?_)
          exact Sm.iret hC d_m10_sent_98 rfl (Nat.sub_self _)
        refine Sm.tswOut (tgt := 99) hC d_m10_sent_48 (out_of (n := 3) (by decide) (fun i hi => by
            match i, hi with
            | 0, _ => exact h48_0
            | 1, _ => exact h48_1
            | 2, _ => exact h48_2)) (by decide) ?_
        refine Sm.aload_n hC d_m10_sent_99 rfl 1 rfl ?_
        refine Sm.bipush (v := -7) hC d_m10_sent_100 (by decide) ?_
        refine Sm.callVi 10 (As := [.int (-7 : Int32)]) (st := []) hC hR cw_m10_refuse (tw_i 410 (by decide +kernel)) (tw_i 412 (by decide +kernel)) (tw_i 0 (by decide +kernel)) ⟨_, rfl, rfl⟩ (fun r9 M9 h9 => ok_m10_refuse h9) rfl rfl (RW.of ⟨rfl, rfl, by decide, by decide⟩) (by simp) d_m10_sent_102 (fun v15 M16 => ?_)
        exact Sm.iret hC d_m10_sent_105 rfl (Nat.sub_self _)
      · refine Sm.aload_n hC d_m10_sent_40 rfl 1 rfl ?_
        refine Sm.bipush (v := -2) hC d_m10_sent_41 (by decide) ?_
        refine Sm.callVi 10 (As := [.int (-2 : Int32)]) (st := []) hC hR cw_m10_refuse (tw_i 410 (by decide +kernel)) (tw_i 412 (by decide +kernel)) (tw_i 0 (by decide +kernel)) ⟨_, rfl, rfl⟩ (fun r9 M9 h9 => ok_m10_refuse h9) rfl rfl (RW.of ⟨rfl, rfl, by decide, by decide⟩) (by simp) d_m10_sent_43 (fun v17 M18 => ?_)
        exact Sm.iret hC d_m10_sent_46 rfl (Nat.sub_self _)
    · refine Sm.sub [0] rfl ?_
      exact w_m10_sent_16 hC hR r0 M4
/-! NewsWire.since(II)I -/
theorem fl_m10_252 : FL "NewsWire" 252 2 0 2 true (.array .int) := ⟨_, _, _, _, rfl, in_c2, ty_c2, nm_c2, by decide, rfl, tw_i 340 (by decide +kernel), rfl, rfl, rfl, rfl⟩
abbrev b_m10_since : ByteArray := prog_1_method_26_code
def y_m10_since : MethodName := ⟨"NewsWire", "since", "(II)I"⟩
def rm_m10_since : Room := { frames := 2, cells := 0, slots := 0, locals := 81 }
theorem cw_m10_since : CW y_m10_since b_m10_since 3 (some .int) 2 := ⟨tw_i 55 (by decide +kernel), tw_i 704 (by decide +kernel), by decide, by decide, by decide +kernel⟩
theorem d_m10_since_0 : decode b_m10_since 0 = .ok (.aload_n 0, 1) := by decide +kernel
theorem d_m10_since_1 : decode b_m10_since 1 = .ok (.iload_n 1, 1) := by decide +kernel
theorem d_m10_since_2 : decode b_m10_since 2 = .ok (.invokevirtual 135, 3) := by decide +kernel
theorem d_m10_since_5 : decode b_m10_since 5 = .ok (.ifCond .eq 10, 3) := by decide +kernel
theorem d_m10_since_8 : decode b_m10_since 8 = .ok (.iload_n 2, 1) := by decide +kernel
theorem d_m10_since_9 : decode b_m10_since 9 = .ok (.invokestatic 192, 3) := by decide +kernel
theorem d_m10_since_12 : decode b_m10_since 12 = .ok (.ifCond .ne 10, 3) := by decide +kernel
theorem d_m10_since_15 : decode b_m10_since 15 = .ok (.aload_n 0, 1) := by decide +kernel
theorem d_m10_since_16 : decode b_m10_since 16 = .ok (.bipush (-3), 2) := by decide +kernel
theorem d_m10_since_18 : decode b_m10_since 18 = .ok (.invokevirtual 76, 3) := by decide +kernel
theorem d_m10_since_21 : decode b_m10_since 21 = .ok (.ireturn, 1) := by decide +kernel
theorem d_m10_since_22 : decode b_m10_since 22 = .ok (.aload_n 0, 1) := by decide +kernel
theorem d_m10_since_23 : decode b_m10_since 23 = .ok (.getfield 23, 3) := by decide +kernel
theorem d_m10_since_26 : decode b_m10_since 26 = .ok (.iload_n 2, 1) := by decide +kernel
theorem d_m10_since_27 : decode b_m10_since 27 = .ok (.aaload, 1) := by decide +kernel
theorem d_m10_since_28 : decode b_m10_since 28 = .ok (.getfield 252, 3) := by decide +kernel
theorem d_m10_since_31 : decode b_m10_since 31 = .ok (.iload_n 1, 1) := by decide +kernel
theorem d_m10_since_32 : decode b_m10_since 32 = .ok (.iaload, 1) := by decide +kernel
theorem d_m10_since_33 : decode b_m10_since 33 = .ok (.ireturn, 1) := by decide +kernel
def s_m10_since_15  (r0 : Nat) (M : Mm) : Option (Int32 × Mm) := cl (has M r0 20) (s_m10_refuse r0 (-3 : Int32) M) (fun v1 M2 => some (v1, M2))
def s_m10_since (r0 : Nat) (a1 : Int32) (a2 : Int32) (M : Mm) : Option (Int32 × Mm) := cl (has M r0 20) (s_m10_isPiece r0 a1 M) (fun v1 M2 => (if v1 = 0 then s_m10_since_15 r0 M2 else cl true (s_m10_isPaper a2 M2) (fun v3 M4 => (if ¬ v3 = 0 then gR M4 r0 20 2 (fun v5 => aR M4 v5 2 a2 (fun v6 => gR M4 v6 12 0 (fun v7 => aI M4 v7 0 a1 (fun v8 => some (v8, M4))))) else s_m10_since_15 r0 M4))))
set_option maxRecDepth 100000 in
set_option maxHeartbeats 4000000 in
theorem w_m10_since_15 {V : Ev} {C : Cx} {n0 : Nat} (hC : Cok V C y_m10_since.cls b_m10_since 3 n0 (some .int) y_m10_since.name) (hR : cR C = rm_m10_since)  : ∀ (r0 : Nat) (M : Mm), Sm V C 3 n0 n0 (qI V C) 15 [(0, rv V.1 r0)] [] M (s_m10_since_15 r0 M) := by
  intro r0 M
  unfold s_m10_since_15
  refine Sm.aload_n hC d_m10_since_15 rfl 0 rfl ?_
  refine Sm.bipush (v := -3) hC d_m10_since_16 (by decide) ?_
  refine Sm.callVi 10 (As := [.int (-3 : Int32)]) (st := []) hC hR cw_m10_refuse (tw_i 410 (by decide +kernel)) (tw_i 412 (by decide +kernel)) (tw_i 0 (by decide +kernel)) ⟨_, rfl, rfl⟩ (fun r9 M9 h9 => ok_m10_refuse h9) rfl rfl (RW.of ⟨rfl, rfl, by decide, by decide⟩) (by simp) d_m10_since_18 (fun v1 M2 => ?_)
  exact Sm.iret hC d_m10_since_21 rfl (Nat.sub_self _)
set_option maxRecDepth 100000 in
set_option maxHeartbeats 4000000 in
theorem ok_m10_since {l : Launch} {V : Ev} {M M' : Mm} {r : Int32} {r0 : Nat} {a1 : Int32} {a2 : Int32} (h : s_m10_since r0 a1 a2 M = some (r, M')) : Met l y_m10_since (Cond.code y_m10_since b_m10_since 3 (some .int) :: TW) rm_m10_since (va_Pc [rv V.1 r0, .int a1, .int a2] (Wd V M)) (QC V (some (.int r)) M' 0) 0 0 (Af V) := by
  refine met_of (fun x : Int32 => some (.int x)) (lv0 := [(0, rv V.1 r0), (1, .int a1), (2, .int a2)]) (by decide) (by simp [lg_sl, cat_rv, cat_i, cat_l, cat_f]) (by simp [lv_args, cat_rv, cat_i, cat_l, cat_f]) (fun C hl hR hC => ?_) h
  subst hl
  generalize mN M = n0 at hC ⊢
  unfold s_m10_since
  refine Sm.aload_n hC d_m10_since_0 rfl 0 rfl ?_
  refine Sm.iload_n hC d_m10_since_1 rfl 1 rfl ?_
  refine Sm.callVi 10 (As := [.int a1]) (st := []) hC hR cw_m10_isPiece (tw_i 436 (by decide +kernel)) (tw_i 438 (by decide +kernel)) (tw_i 2 (by decide +kernel)) ⟨_, rfl, rfl⟩ (fun r9 M9 h9 => ok_m10_isPiece h9) rfl rfl (RW.of ⟨rfl, rfl, by decide, by decide⟩) (by simp) d_m10_since_2 (fun v1 M2 => ?_)
  refine Sm.if_eq (tgt := 15) hC d_m10_since_5 (by decide) ?_ ?_
  · refine Sm.sub [0] rfl ?_
    exact w_m10_since_15 hC hR r0 M2
  · refine Sm.iload_n hC d_m10_since_8 rfl 2 rfl ?_
    refine Sm.callSi (As := [.int a2]) (st := []) hC hR cw_m10_isPaper (tw_i 590 (by decide +kernel)) (tw_i 591 (by decide +kernel)) (fun r9 M9 h9 => ok_m10_isPaper h9) rfl rfl (RW.of ⟨rfl, rfl, by decide, by decide⟩) (by simp) d_m10_since_9 (fun v3 M4 => ?_)
    refine Sm.if_ne (tgt := 22) hC d_m10_since_12 (by decide) ?_ ?_
    · refine Sm.aload_n hC d_m10_since_22 rfl 0 rfl ?_
      refine Sm.getR hC fl_m10_23 rfl d_m10_since_23 (fun v5 => ?_)
      refine Sm.iload_n hC d_m10_since_26 rfl 2 rfl ?_
      refine Sm.aald (Cn := n_c2) hC ⟨by decide, by decide⟩ rfl d_m10_since_27 (fun v6 => ?_)
      refine Sm.getR hC fl_m10_252 rfl d_m10_since_28 (fun v7 => ?_)
      refine Sm.iload_n hC d_m10_since_31 rfl 1 rfl ?_
      refine Sm.iald hC d_m10_since_32 (fun v8 => ?_)
      exact Sm.iret hC d_m10_since_33 rfl (Nat.sub_self _)
    · refine Sm.sub [0] rfl ?_
      exact w_m10_since_15 hC hR r0 M4
/-! NewsWire.cost(I)I -/
abbrev b_m10_cost : ByteArray := prog_1_method_27_code
def y_m10_cost : MethodName := ⟨"NewsWire", "cost", "(I)I"⟩
def rm_m10_cost : Room := { frames := 2, cells := 0, slots := 0, locals := 81 }
theorem cw_m10_cost : CW y_m10_cost b_m10_cost 2 (some .int) 1 := ⟨tw_i 55 (by decide +kernel), tw_i 708 (by decide +kernel), by decide, by decide, by decide +kernel⟩
theorem d_m10_cost_0 : decode b_m10_cost 0 = .ok (.iload_n 1, 1) := by decide +kernel
theorem d_m10_cost_1 : decode b_m10_cost 1 = .ok (.invokestatic 192, 3) := by decide +kernel
theorem d_m10_cost_4 : decode b_m10_cost 4 = .ok (.ifCond .ne 10, 3) := by decide +kernel
theorem d_m10_cost_7 : decode b_m10_cost 7 = .ok (.aload_n 0, 1) := by decide +kernel
theorem d_m10_cost_8 : decode b_m10_cost 8 = .ok (.bipush (-3), 2) := by decide +kernel
theorem d_m10_cost_10 : decode b_m10_cost 10 = .ok (.invokevirtual 76, 3) := by decide +kernel
theorem d_m10_cost_13 : decode b_m10_cost 13 = .ok (.ireturn, 1) := by decide +kernel
theorem d_m10_cost_14 : decode b_m10_cost 14 = .ok (.aload_n 0, 1) := by decide +kernel
theorem d_m10_cost_15 : decode b_m10_cost 15 = .ok (.getfield 23, 3) := by decide +kernel
theorem d_m10_cost_18 : decode b_m10_cost 18 = .ok (.iload_n 1, 1) := by decide +kernel
theorem d_m10_cost_19 : decode b_m10_cost 19 = .ok (.aaload, 1) := by decide +kernel
theorem d_m10_cost_20 : decode b_m10_cost 20 = .ok (.getfield 255, 3) := by decide +kernel
theorem d_m10_cost_23 : decode b_m10_cost 23 = .ok (.ireturn, 1) := by decide +kernel
def s_m10_cost (r0 : Nat) (a1 : Int32) (M : Mm) : Option (Int32 × Mm) := cl true (s_m10_isPaper a1 M) (fun v1 M2 => (if ¬ v1 = 0 then gR M2 r0 20 2 (fun v3 => aR M2 v3 2 a1 (fun v4 => gI M2 v4 12 1 (fun v5 => some (v5, M2)))) else cl (has M2 r0 20) (s_m10_refuse r0 (-3 : Int32) M2) (fun v6 M7 => some (v6, M7))))
set_option maxRecDepth 100000 in
set_option maxHeartbeats 4000000 in
theorem ok_m10_cost {l : Launch} {V : Ev} {M M' : Mm} {r : Int32} {r0 : Nat} {a1 : Int32} (h : s_m10_cost r0 a1 M = some (r, M')) : Met l y_m10_cost (Cond.code y_m10_cost b_m10_cost 2 (some .int) :: TW) rm_m10_cost (va_Pc [rv V.1 r0, .int a1] (Wd V M)) (QC V (some (.int r)) M' 0) 0 0 (Af V) := by
  refine met_of (fun x : Int32 => some (.int x)) (lv0 := [(0, rv V.1 r0), (1, .int a1)]) (by decide) (by simp [lg_sl, cat_rv, cat_i, cat_l, cat_f]) (by simp [lv_args, cat_rv, cat_i, cat_l, cat_f]) (fun C hl hR hC => ?_) h
  subst hl
  generalize mN M = n0 at hC ⊢
  unfold s_m10_cost
  refine Sm.iload_n hC d_m10_cost_0 rfl 1 rfl ?_
  refine Sm.callSi (As := [.int a1]) (st := []) hC hR cw_m10_isPaper (tw_i 590 (by decide +kernel)) (tw_i 591 (by decide +kernel)) (fun r9 M9 h9 => ok_m10_isPaper h9) rfl rfl (RW.of ⟨rfl, rfl, by decide, by decide⟩) (by simp) d_m10_cost_1 (fun v1 M2 => ?_)
  refine Sm.if_ne (tgt := 14) hC d_m10_cost_4 (by decide) ?_ ?_
  · refine Sm.aload_n hC d_m10_cost_14 rfl 0 rfl ?_
    refine Sm.getR hC fl_m10_23 rfl d_m10_cost_15 (fun v3 => ?_)
    refine Sm.iload_n hC d_m10_cost_18 rfl 1 rfl ?_
    refine Sm.aald (Cn := n_c2) hC ⟨by decide, by decide⟩ rfl d_m10_cost_19 (fun v4 => ?_)
    refine Sm.getI hC fl_m10_255 rfl d_m10_cost_20 (fun v5 => ?_)
    exact Sm.iret hC d_m10_cost_23 rfl (Nat.sub_self _)
  · refine Sm.aload_n hC d_m10_cost_7 rfl 0 rfl ?_
    refine Sm.bipush (v := -3) hC d_m10_cost_8 (by decide) ?_
    refine Sm.callVi 10 (As := [.int (-3 : Int32)]) (st := []) hC hR cw_m10_refuse (tw_i 410 (by decide +kernel)) (tw_i 412 (by decide +kernel)) (tw_i 0 (by decide +kernel)) ⟨_, rfl, rfl⟩ (fun r9 M9 h9 => ok_m10_refuse h9) rfl rfl (RW.of ⟨rfl, rfl, by decide, by decide⟩) (by simp) d_m10_cost_10 (fun v6 M7 => ?_)
    exact Sm.iret hC d_m10_cost_13 rfl (Nat.sub_self _)
/-! NewsWire.first(II)I -/
abbrev b_m10_first : ByteArray := prog_1_method_28_code
def y_m10_first : MethodName := ⟨"NewsWire", "first", "(II)I"⟩
def rm_m10_first : Room := { frames := 2, cells := 0, slots := 0, locals := 81 }
theorem cw_m10_first : CW y_m10_first b_m10_first 7 (some .int) 2 := ⟨tw_i 55 (by decide +kernel), tw_i 712 (by decide +kernel), by decide, by decide, by decide +kernel⟩
theorem d_m10_first_0 : decode b_m10_first 0 = .ok (.iload_n 1, 1) := by decide +kernel
theorem d_m10_first_1 : decode b_m10_first 1 = .ok (.ifCond .lt 16, 3) := by decide +kernel
theorem d_m10_first_4 : decode b_m10_first 4 = .ok (.iload_n 1, 1) := by decide +kernel
theorem d_m10_first_5 : decode b_m10_first 5 = .ok (.bipush 8, 2) := by decide +kernel
theorem d_m10_first_7 : decode b_m10_first 7 = .ok (.if_icmp .ge 10, 3) := by decide +kernel
theorem d_m10_first_10 : decode b_m10_first 10 = .ok (.iload_n 2, 1) := by decide +kernel
theorem d_m10_first_11 : decode b_m10_first 11 = .ok (.invokestatic 192, 3) := by decide +kernel
theorem d_m10_first_14 : decode b_m10_first 14 = .ok (.ifCond .ne 10, 3) := by decide +kernel
theorem d_m10_first_17 : decode b_m10_first 17 = .ok (.aload_n 0, 1) := by decide +kernel
theorem d_m10_first_18 : decode b_m10_first 18 = .ok (.bipush (-3), 2) := by decide +kernel
theorem d_m10_first_20 : decode b_m10_first 20 = .ok (.invokevirtual 76, 3) := by decide +kernel
theorem d_m10_first_23 : decode b_m10_first 23 = .ok (.ireturn, 1) := by decide +kernel
theorem d_m10_first_24 : decode b_m10_first 24 = .ok (.aload_n 0, 1) := by decide +kernel
theorem d_m10_first_25 : decode b_m10_first 25 = .ok (.getfield 23, 3) := by decide +kernel
theorem d_m10_first_28 : decode b_m10_first 28 = .ok (.iload_n 2, 1) := by decide +kernel
theorem d_m10_first_29 : decode b_m10_first 29 = .ok (.aaload, 1) := by decide +kernel
theorem d_m10_first_30 : decode b_m10_first 30 = .ok (.getfield 252, 3) := by decide +kernel
theorem d_m10_first_33 : decode b_m10_first 33 = .ok (.astore_n 3, 1) := by decide +kernel
theorem d_m10_first_34 : decode b_m10_first 34 = .ok (.iconst (-1), 1) := by decide +kernel
theorem d_m10_first_35 : decode b_m10_first 35 = .ok (.istore 4, 2) := by decide +kernel
theorem d_m10_first_37 : decode b_m10_first 37 = .ok (.iconst 0, 1) := by decide +kernel
theorem d_m10_first_38 : decode b_m10_first 38 = .ok (.istore 5, 2) := by decide +kernel
theorem d_m10_first_40 : decode b_m10_first 40 = .ok (.iload 5, 2) := by decide +kernel
theorem d_m10_first_42 : decode b_m10_first 42 = .ok (.aload_n 0, 1) := by decide +kernel
theorem d_m10_first_43 : decode b_m10_first 43 = .ok (.getfield 92, 3) := by decide +kernel
theorem d_m10_first_46 : decode b_m10_first 46 = .ok (.if_icmp .ge 64, 3) := by decide +kernel
theorem d_m10_first_49 : decode b_m10_first 49 = .ok (.aload_n 0, 1) := by decide +kernel
theorem d_m10_first_50 : decode b_m10_first 50 = .ok (.getfield 17, 3) := by decide +kernel
theorem d_m10_first_53 : decode b_m10_first 53 = .ok (.iload 5, 2) := by decide +kernel
theorem d_m10_first_55 : decode b_m10_first 55 = .ok (.aaload, 1) := by decide +kernel
theorem d_m10_first_56 : decode b_m10_first 56 = .ok (.getfield 101, 3) := by decide +kernel
theorem d_m10_first_59 : decode b_m10_first 59 = .ok (.iload_n 1, 1) := by decide +kernel
theorem d_m10_first_60 : decode b_m10_first 60 = .ok (.if_icmp .ne 15, 3) := by decide +kernel
theorem d_m10_first_63 : decode b_m10_first 63 = .ok (.aload_n 3, 1) := by decide +kernel
theorem d_m10_first_64 : decode b_m10_first 64 = .ok (.iload 5, 2) := by decide +kernel
theorem d_m10_first_66 : decode b_m10_first 66 = .ok (.iaload, 1) := by decide +kernel
theorem d_m10_first_67 : decode b_m10_first 67 = .ok (.iconst (-1), 1) := by decide +kernel
theorem d_m10_first_68 : decode b_m10_first 68 = .ok (.if_icmp .eq 7, 3) := by decide +kernel
theorem d_m10_first_71 : decode b_m10_first 71 = .ok (.iconst 1, 1) := by decide +kernel
theorem d_m10_first_72 : decode b_m10_first 72 = .ok (.goto 4, 3) := by decide +kernel
theorem d_m10_first_75 : decode b_m10_first 75 = .ok (.iconst 0, 1) := by decide +kernel
theorem d_m10_first_76 : decode b_m10_first 76 = .ok (.istore 6, 2) := by decide +kernel
theorem d_m10_first_78 : decode b_m10_first 78 = .ok (.iload 6, 2) := by decide +kernel
theorem d_m10_first_80 : decode b_m10_first 80 = .ok (.ifCond .eq 24, 3) := by decide +kernel
theorem d_m10_first_83 : decode b_m10_first 83 = .ok (.iload 4, 2) := by decide +kernel
theorem d_m10_first_85 : decode b_m10_first 85 = .ok (.iconst (-1), 1) := by decide +kernel
theorem d_m10_first_86 : decode b_m10_first 86 = .ok (.if_icmp .eq 12, 3) := by decide +kernel
theorem d_m10_first_89 : decode b_m10_first 89 = .ok (.aload_n 3, 1) := by decide +kernel
theorem d_m10_first_90 : decode b_m10_first 90 = .ok (.iload 5, 2) := by decide +kernel
theorem d_m10_first_92 : decode b_m10_first 92 = .ok (.iaload, 1) := by decide +kernel
theorem d_m10_first_93 : decode b_m10_first 93 = .ok (.iload 4, 2) := by decide +kernel
theorem d_m10_first_95 : decode b_m10_first 95 = .ok (.if_icmp .ge 9, 3) := by decide +kernel
theorem d_m10_first_98 : decode b_m10_first 98 = .ok (.aload_n 3, 1) := by decide +kernel
theorem d_m10_first_99 : decode b_m10_first 99 = .ok (.iload 5, 2) := by decide +kernel
theorem d_m10_first_101 : decode b_m10_first 101 = .ok (.iaload, 1) := by decide +kernel
theorem d_m10_first_102 : decode b_m10_first 102 = .ok (.istore 4, 2) := by decide +kernel
theorem d_m10_first_104 : decode b_m10_first 104 = .ok (.iinc 5 1, 3) := by decide +kernel
theorem d_m10_first_107 : decode b_m10_first 107 = .ok (.goto (-67), 3) := by decide +kernel
theorem d_m10_first_110 : decode b_m10_first 110 = .ok (.iload 4, 2) := by decide +kernel
theorem d_m10_first_112 : decode b_m10_first 112 = .ok (.ireturn, 1) := by decide +kernel
def s_m10_first_17  (r0 : Nat) (M : Mm) : Option (Int32 × Mm) := cl (has M r0 20) (s_m10_refuse r0 (-3 : Int32) M) (fun v1 M2 => some (v1, M2))
def s_m10_first_104 (k40 : Nat → Int32 → Nat → Int32 → Int32 → Mm → Option (Int32 × Mm)) (r0 : Nat) (x1 : Int32) (r3 : Nat) (x4 : Int32) (x5 : Int32) (M : Mm) : Option (Int32 × Mm) := k40 r0 x1 r3 x4 (x5 + 1) M
def s_m10_first_98 (k40 : Nat → Int32 → Nat → Int32 → Int32 → Mm → Option (Int32 × Mm)) (r0 : Nat) (x1 : Int32) (r3 : Nat) (x5 : Int32) (M : Mm) : Option (Int32 × Mm) := aI M r3 0 x5 (fun v1 => s_m10_first_104 k40 r0 x1 r3 v1 x5 M)
def s_m10_first_76 (k40 : Nat → Int32 → Nat → Int32 → Int32 → Mm → Option (Int32 × Mm)) (r0 : Nat) (x1 : Int32) (r3 : Nat) (x4 : Int32) (x5 : Int32) (t0 : Int32) (M : Mm) : Option (Int32 × Mm) := (if t0 = 0 then s_m10_first_104 k40 r0 x1 r3 x4 x5 M else (if x4 = (-1 : Int32) then s_m10_first_98 k40 r0 x1 r3 x5 M else aI M r3 0 x5 (fun v1 => (if x4 ≤ v1 then s_m10_first_104 k40 r0 x1 r3 x4 x5 M else s_m10_first_98 k40 r0 x1 r3 x5 M))))
def s_m10_first_75 (k40 : Nat → Int32 → Nat → Int32 → Int32 → Mm → Option (Int32 × Mm)) (r0 : Nat) (x1 : Int32) (r3 : Nat) (x4 : Int32) (x5 : Int32) (M : Mm) : Option (Int32 × Mm) := s_m10_first_76 k40 r0 x1 r3 x4 x5 (0 : Int32) M
def s_m10_first_40  : Nat → Nat → Int32 → Nat → Int32 → Int32 → Mm → Option (Int32 × Mm)
  | 0, _, _, _, _, _, _ => none
  | n + 1, r0, x1, r3, x4, x5, M => gI M r0 20 11 (fun v1 => (if v1 ≤ x5 then some (x4, M) else gR M r0 20 1 (fun v2 => aR M v2 3 x5 (fun v3 => gI M v3 13 2 (fun v4 => (if ¬ v4 = x1 then s_m10_first_75 (s_m10_first_40 n) r0 x1 r3 x4 x5 M else aI M r3 0 x5 (fun v5 => (if v5 = (-1 : Int32) then s_m10_first_75 (s_m10_first_40 n) r0 x1 r3 x4 x5 M else s_m10_first_76 (s_m10_first_40 n) r0 x1 r3 x4 x5 (1 : Int32) M))))))))
def s_m10_first (r0 : Nat) (a1 : Int32) (a2 : Int32) (M : Mm) : Option (Int32 × Mm) := (if a1 < 0 then s_m10_first_17 r0 M else (if (8 : Int32) ≤ a1 then s_m10_first_17 r0 M else cl true (s_m10_isPaper a2 M) (fun v1 M2 => (if ¬ v1 = 0 then gR M2 r0 20 2 (fun v3 => aR M2 v3 2 a2 (fun v4 => gR M2 v4 12 0 (fun v5 => s_m10_first_40 FU r0 a1 v5 (-1 : Int32) (0 : Int32) M2))) else s_m10_first_17 r0 M2))))
set_option maxRecDepth 100000 in
set_option maxHeartbeats 4000000 in
theorem w_m10_first_17 {V : Ev} {C : Cx} {n0 : Nat} (hC : Cok V C y_m10_first.cls b_m10_first 7 n0 (some .int) y_m10_first.name) (hR : cR C = rm_m10_first)  : ∀ (r0 : Nat) (M : Mm), Sm V C 7 n0 n0 (qI V C) 17 [(0, rv V.1 r0)] [] M (s_m10_first_17 r0 M) := by
  intro r0 M
  unfold s_m10_first_17
  refine Sm.aload_n hC d_m10_first_17 rfl 0 rfl ?_
  refine Sm.bipush (v := -3) hC d_m10_first_18 (by decide) ?_
  refine Sm.callVi 10 (As := [.int (-3 : Int32)]) (st := []) hC hR cw_m10_refuse (tw_i 410 (by decide +kernel)) (tw_i 412 (by decide +kernel)) (tw_i 0 (by decide +kernel)) ⟨_, rfl, rfl⟩ (fun r9 M9 h9 => ok_m10_refuse h9) rfl rfl (RW.of ⟨rfl, rfl, by decide, by decide⟩) (by simp) d_m10_first_20 (fun v1 M2 => ?_)
  exact Sm.iret hC d_m10_first_23 rfl (Nat.sub_self _)
set_option maxRecDepth 100000 in
set_option maxHeartbeats 4000000 in
theorem w_m10_first_104 {V : Ev} {C : Cx} {n0 : Nat} (hC : Cok V C y_m10_first.cls b_m10_first 7 n0 (some .int) y_m10_first.name) (hR : cR C = rm_m10_first) (k40 : Nat → Int32 → Nat → Int32 → Int32 → Mm → Option (Int32 × Mm)) (hk40 : ∀ (r0 : Nat) (x1 : Int32) (r3 : Nat) (x4 : Int32) (x5 : Int32) (M : Mm), Sm V C 7 n0 n0 (qI V C) 40 [(0, rv V.1 r0), (1, .int x1), (3, rv V.1 r3), (4, .int x4), (5, .int x5)] [] M (k40 r0 x1 r3 x4 x5 M)) : ∀ (r0 : Nat) (x1 : Int32) (r3 : Nat) (x4 : Int32) (x5 : Int32) (M : Mm), Sm V C 7 n0 n0 (qI V C) 104 [(0, rv V.1 r0), (1, .int x1), (3, rv V.1 r3), (4, .int x4), (5, .int x5)] [] M (s_m10_first_104 k40 r0 x1 r3 x4 x5 M) := by
  intro r0 x1 r3 x4 x5 M
  unfold s_m10_first_104
  refine Sm.iinc (v := x5 + 1) (lv' := [(5, .int (x5 + 1)), (0, rv V.1 r0), (1, .int x1), (3, rv V.1 r3), (4, .int x4)]) hC d_m10_first_104 4 rfl rfl (by decide) rfl ?_
  refine Sm.goto (tgt := 40) hC d_m10_first_107 (by decide) ?_
  refine Sm.sub [1, 2, 3, 4, 0] rfl ?_
  exact hk40 r0 x1 r3 x4 (x5 + 1) M
set_option maxRecDepth 100000 in
set_option maxHeartbeats 4000000 in
theorem w_m10_first_98 {V : Ev} {C : Cx} {n0 : Nat} (hC : Cok V C y_m10_first.cls b_m10_first 7 n0 (some .int) y_m10_first.name) (hR : cR C = rm_m10_first) (k40 : Nat → Int32 → Nat → Int32 → Int32 → Mm → Option (Int32 × Mm)) (hk40 : ∀ (r0 : Nat) (x1 : Int32) (r3 : Nat) (x4 : Int32) (x5 : Int32) (M : Mm), Sm V C 7 n0 n0 (qI V C) 40 [(0, rv V.1 r0), (1, .int x1), (3, rv V.1 r3), (4, .int x4), (5, .int x5)] [] M (k40 r0 x1 r3 x4 x5 M)) : ∀ (r0 : Nat) (x1 : Int32) (r3 : Nat) (x5 : Int32) (M : Mm), Sm V C 7 n0 n0 (qI V C) 98 [(0, rv V.1 r0), (1, .int x1), (3, rv V.1 r3), (5, .int x5)] [] M (s_m10_first_98 k40 r0 x1 r3 x5 M) := by
  intro r0 x1 r3 x5 M
  unfold s_m10_first_98
  refine Sm.aload_n hC d_m10_first_98 rfl 2 rfl ?_
  refine Sm.iload hC d_m10_first_99 3 rfl ?_
  refine Sm.iald hC d_m10_first_101 (fun v1 => ?_)
  refine Sm.istore (lv' := [(4, .int v1), (0, rv V.1 r0), (1, .int x1), (3, rv V.1 r3), (5, .int x5)]) hC d_m10_first_102 (by decide) (by simp [cat_rv, cat_i, cat_l, cat_f]) ?_
  refine Sm.sub [1, 2, 3, 0, 4] rfl ?_
  exact w_m10_first_104 hC hR k40 hk40 r0 x1 r3 v1 x5 M
set_option maxRecDepth 100000 in
set_option maxHeartbeats 4000000 in
theorem w_m10_first_76 {V : Ev} {C : Cx} {n0 : Nat} (hC : Cok V C y_m10_first.cls b_m10_first 7 n0 (some .int) y_m10_first.name) (hR : cR C = rm_m10_first) (k40 : Nat → Int32 → Nat → Int32 → Int32 → Mm → Option (Int32 × Mm)) (hk40 : ∀ (r0 : Nat) (x1 : Int32) (r3 : Nat) (x4 : Int32) (x5 : Int32) (M : Mm), Sm V C 7 n0 n0 (qI V C) 40 [(0, rv V.1 r0), (1, .int x1), (3, rv V.1 r3), (4, .int x4), (5, .int x5)] [] M (k40 r0 x1 r3 x4 x5 M)) : ∀ (r0 : Nat) (x1 : Int32) (r3 : Nat) (x4 : Int32) (x5 : Int32) (t0 : Int32) (M : Mm), Sm V C 7 n0 n0 (qI V C) 76 [(0, rv V.1 r0), (1, .int x1), (3, rv V.1 r3), (4, .int x4), (5, .int x5)] [.int t0] M (s_m10_first_76 k40 r0 x1 r3 x4 x5 t0 M) := by
  intro r0 x1 r3 x4 x5 t0 M
  unfold s_m10_first_76
  refine Sm.istore (lv' := [(6, .int t0), (0, rv V.1 r0), (1, .int x1), (3, rv V.1 r3), (4, .int x4), (5, .int x5)]) hC d_m10_first_76 (by decide) rfl ?_
  refine Sm.iload hC d_m10_first_78 0 rfl ?_
  refine Sm.if_eq (tgt := 104) hC d_m10_first_80 (by decide) ?_ ?_
  · refine Sm.sub [1, 2, 3, 4, 5] rfl ?_
    exact w_m10_first_104 hC hR k40 hk40 r0 x1 r3 x4 x5 M
  · refine Sm.iload hC d_m10_first_83 4 rfl ?_
    refine Sm.iconst (v := -1) hC d_m10_first_85 (by decide) ?_
    refine Sm.icmp_eq (tgt := 98) hC d_m10_first_86 (by decide) ?_ ?_
    · refine Sm.sub [1, 2, 3, 5] rfl ?_
      exact w_m10_first_98 hC hR k40 hk40 r0 x1 r3 x5 M
    · refine Sm.aload_n hC d_m10_first_89 rfl 3 rfl ?_
      refine Sm.iload hC d_m10_first_90 5 rfl ?_
      refine Sm.iald hC d_m10_first_92 (fun v1 => ?_)
      refine Sm.iload hC d_m10_first_93 4 rfl ?_
      refine Sm.icmp_ge (tgt := 104) hC d_m10_first_95 (by decide) ?_ ?_
      · refine Sm.sub [1, 2, 3, 4, 5] rfl ?_
        exact w_m10_first_104 hC hR k40 hk40 r0 x1 r3 x4 x5 M
      · refine Sm.sub [1, 2, 3, 5] rfl ?_
        exact w_m10_first_98 hC hR k40 hk40 r0 x1 r3 x5 M
set_option maxRecDepth 100000 in
set_option maxHeartbeats 4000000 in
theorem w_m10_first_75 {V : Ev} {C : Cx} {n0 : Nat} (hC : Cok V C y_m10_first.cls b_m10_first 7 n0 (some .int) y_m10_first.name) (hR : cR C = rm_m10_first) (k40 : Nat → Int32 → Nat → Int32 → Int32 → Mm → Option (Int32 × Mm)) (hk40 : ∀ (r0 : Nat) (x1 : Int32) (r3 : Nat) (x4 : Int32) (x5 : Int32) (M : Mm), Sm V C 7 n0 n0 (qI V C) 40 [(0, rv V.1 r0), (1, .int x1), (3, rv V.1 r3), (4, .int x4), (5, .int x5)] [] M (k40 r0 x1 r3 x4 x5 M)) : ∀ (r0 : Nat) (x1 : Int32) (r3 : Nat) (x4 : Int32) (x5 : Int32) (M : Mm), Sm V C 7 n0 n0 (qI V C) 75 [(0, rv V.1 r0), (1, .int x1), (3, rv V.1 r3), (4, .int x4), (5, .int x5)] [] M (s_m10_first_75 k40 r0 x1 r3 x4 x5 M) := by
  intro r0 x1 r3 x4 x5 M
  unfold s_m10_first_75
  refine Sm.iconst (v := 0) hC d_m10_first_75 (by decide) ?_
  exact w_m10_first_76 hC hR k40 hk40 r0 x1 r3 x4 x5 (0 : Int32) M
set_option maxRecDepth 100000 in
set_option maxHeartbeats 4000000 in
theorem w_m10_first_40 {V : Ev} {C : Cx} {n0 : Nat} (hC : Cok V C y_m10_first.cls b_m10_first 7 n0 (some .int) y_m10_first.name) (hR : cR C = rm_m10_first)  : ∀ (n : Nat) (r0 : Nat) (x1 : Int32) (r3 : Nat) (x4 : Int32) (x5 : Int32) (M : Mm), Sm V C 7 n0 n0 (qI V C) 40 [(0, rv V.1 r0), (1, .int x1), (3, rv V.1 r3), (4, .int x4), (5, .int x5)] [] M (s_m10_first_40 n r0 x1 r3 x4 x5 M) := by
  intro n
  induction n with
  | zero => exact fun r0 x1 r3 x4 x5 M => Sm.none_
  | succ n ih =>
    intro r0 x1 r3 x4 x5 M
    unfold s_m10_first_40
    refine Sm.iload hC d_m10_first_40 4 rfl ?_
    refine Sm.aload_n hC d_m10_first_42 rfl 0 rfl ?_
    refine Sm.getI hC fl_m10_92 rfl d_m10_first_43 (fun v1 => ?_)
    refine Sm.icmp_ge (tgt := 110) hC d_m10_first_46 (by decide) ?_ ?_
    · refine Sm.iload hC d_m10_first_110 3 rfl ?_
      exact Sm.iret hC d_m10_first_112 rfl (Nat.sub_self _)
    · refine Sm.aload_n hC d_m10_first_49 rfl 0 rfl ?_
      refine Sm.getR hC fl_m10_17 rfl d_m10_first_50 (fun v2 => ?_)
      refine Sm.iload hC d_m10_first_53 4 rfl ?_
      refine Sm.aald (Cn := n_c3) hC ⟨by decide, by decide⟩ rfl d_m10_first_55 (fun v3 => ?_)
      refine Sm.getI hC fl_m10_101 rfl d_m10_first_56 (fun v4 => ?_)
      refine Sm.iload_n hC d_m10_first_59 rfl 1 rfl ?_
      refine Sm.icmp_ne (tgt := 75) hC d_m10_first_60 (by decide) ?_ ?_
      · exact w_m10_first_75 hC hR (s_m10_first_40 n) ih r0 x1 r3 x4 x5 M
      · refine Sm.aload_n hC d_m10_first_63 rfl 2 rfl ?_
        refine Sm.iload hC d_m10_first_64 4 rfl ?_
        refine Sm.iald hC d_m10_first_66 (fun v5 => ?_)
        refine Sm.iconst (v := -1) hC d_m10_first_67 (by decide) ?_
        refine Sm.icmp_eq (tgt := 75) hC d_m10_first_68 (by decide) ?_ ?_
        · exact w_m10_first_75 hC hR (s_m10_first_40 n) ih r0 x1 r3 x4 x5 M
        · refine Sm.iconst (v := 1) hC d_m10_first_71 (by decide) ?_
          refine Sm.goto (tgt := 76) hC d_m10_first_72 (by decide) ?_
          exact w_m10_first_76 hC hR (s_m10_first_40 n) ih r0 x1 r3 x4 x5 (1 : Int32) M
set_option maxRecDepth 100000 in
set_option maxHeartbeats 4000000 in
theorem ok_m10_first {l : Launch} {V : Ev} {M M' : Mm} {r : Int32} {r0 : Nat} {a1 : Int32} {a2 : Int32} (h : s_m10_first r0 a1 a2 M = some (r, M')) : Met l y_m10_first (Cond.code y_m10_first b_m10_first 7 (some .int) :: TW) rm_m10_first (va_Pc [rv V.1 r0, .int a1, .int a2] (Wd V M)) (QC V (some (.int r)) M' 0) 0 0 (Af V) := by
  refine met_of (fun x : Int32 => some (.int x)) (lv0 := [(0, rv V.1 r0), (1, .int a1), (2, .int a2)]) (by decide) (by simp [lg_sl, cat_rv, cat_i, cat_l, cat_f]) (by simp [lv_args, cat_rv, cat_i, cat_l, cat_f]) (fun C hl hR hC => ?_) h
  subst hl
  generalize mN M = n0 at hC ⊢
  unfold s_m10_first
  refine Sm.iload_n hC d_m10_first_0 rfl 1 rfl ?_
  refine Sm.if_lt (tgt := 17) hC d_m10_first_1 (by decide) ?_ ?_
  · refine Sm.sub [0] rfl ?_
    exact w_m10_first_17 hC hR r0 M
  · refine Sm.iload_n hC d_m10_first_4 rfl 1 rfl ?_
    refine Sm.bipush (v := 8) hC d_m10_first_5 (by decide) ?_
    refine Sm.icmp_ge (tgt := 17) hC d_m10_first_7 (by decide) ?_ ?_
    · refine Sm.sub [0] rfl ?_
      exact w_m10_first_17 hC hR r0 M
    · refine Sm.iload_n hC d_m10_first_10 rfl 2 rfl ?_
      refine Sm.callSi (As := [.int a2]) (st := []) hC hR cw_m10_isPaper (tw_i 590 (by decide +kernel)) (tw_i 591 (by decide +kernel)) (fun r9 M9 h9 => ok_m10_isPaper h9) rfl rfl (RW.of ⟨rfl, rfl, by decide, by decide⟩) (by simp) d_m10_first_11 (fun v1 M2 => ?_)
      refine Sm.if_ne (tgt := 24) hC d_m10_first_14 (by decide) ?_ ?_
      · refine Sm.aload_n hC d_m10_first_24 rfl 0 rfl ?_
        refine Sm.getR hC fl_m10_23 rfl d_m10_first_25 (fun v3 => ?_)
        refine Sm.iload_n hC d_m10_first_28 rfl 2 rfl ?_
        refine Sm.aald (Cn := n_c2) hC ⟨by decide, by decide⟩ rfl d_m10_first_29 (fun v4 => ?_)
        refine Sm.getR hC fl_m10_252 rfl d_m10_first_30 (fun v5 => ?_)
        refine Sm.astore_n (lv' := [(3, rv V.1 v5), (0, rv V.1 r0), (1, .int a1), (2, .int a2)]) hC d_m10_first_33 rfl (by decide) rfl ?_
        refine Sm.iconst (v := -1) hC d_m10_first_34 (by decide) ?_
        refine Sm.istore (lv' := [(4, .int (-1 : Int32)), (3, rv V.1 v5), (0, rv V.1 r0), (1, .int a1), (2, .int a2)]) hC d_m10_first_35 (by decide) (by simp [cat_rv, cat_i, cat_l, cat_f]) ?_
        refine Sm.iconst (v := 0) hC d_m10_first_37 (by decide) ?_
        refine Sm.istore (lv' := [(5, .int (0 : Int32)), (4, .int (-1 : Int32)), (3, rv V.1 v5), (0, rv V.1 r0), (1, .int a1), (2, .int a2)]) hC d_m10_first_38 (by decide) rfl ?_
        refine Sm.sub [3, 4, 2, 1, 0] rfl ?_
        exact w_m10_first_40 hC hR FU r0 a1 v5 (-1 : Int32) (0 : Int32) M2
      · refine Sm.sub [0] rfl ?_
        exact w_m10_first_17 hC hR r0 M2
/-! NewsWire.isText(II)Z -/
abbrev b_m10_isText : ByteArray := prog_1_method_41_code
def y_m10_isText : MethodName := ⟨"NewsWire", "isText", "(II)Z"⟩
def rm_m10_isText : Room := { frames := 1, cells := 0, slots := 0, locals := 60 }
theorem cw_m10_isText : CW y_m10_isText b_m10_isText 3 (some .boolean) 2 := ⟨tw_i 55 (by decide +kernel), tw_i 720 (by decide +kernel), by decide, by decide, by decide +kernel⟩
theorem d_m10_isText_0 : decode b_m10_isText 0 = .ok (.iload_n 1, 1) := by decide +kernel
theorem d_m10_isText_1 : decode b_m10_isText 1 = .ok (.ifCond .lt 37, 3) := by decide +kernel
theorem d_m10_isText_4 : decode b_m10_isText 4 = .ok (.iload_n 1, 1) := by decide +kernel
theorem d_m10_isText_5 : decode b_m10_isText 5 = .ok (.bipush 10, 2) := by decide +kernel
theorem d_m10_isText_7 : decode b_m10_isText 7 = .ok (.idiv, 1) := by decide +kernel
theorem d_m10_isText_8 : decode b_m10_isText 8 = .ok (.bipush 8, 2) := by decide +kernel
theorem d_m10_isText_10 : decode b_m10_isText 10 = .ok (.if_icmp .ge 28, 3) := by decide +kernel
theorem d_m10_isText_13 : decode b_m10_isText 13 = .ok (.iload_n 1, 1) := by decide +kernel
theorem d_m10_isText_14 : decode b_m10_isText 14 = .ok (.bipush 10, 2) := by decide +kernel
theorem d_m10_isText_16 : decode b_m10_isText 16 = .ok (.irem, 1) := by decide +kernel
theorem d_m10_isText_17 : decode b_m10_isText 17 = .ok (.bipush 8, 2) := by decide +kernel
theorem d_m10_isText_19 : decode b_m10_isText 19 = .ok (.if_icmp .ge 19, 3) := by decide +kernel
theorem d_m10_isText_22 : decode b_m10_isText 22 = .ok (.iload_n 2, 1) := by decide +kernel
theorem d_m10_isText_23 : decode b_m10_isText 23 = .ok (.ifCond .lt 15, 3) := by decide +kernel
theorem d_m10_isText_26 : decode b_m10_isText 26 = .ok (.iload_n 2, 1) := by decide +kernel
theorem d_m10_isText_27 : decode b_m10_isText 27 = .ok (.aload_n 0, 1) := by decide +kernel
theorem d_m10_isText_28 : decode b_m10_isText 28 = .ok (.getfield 195, 3) := by decide +kernel
theorem d_m10_isText_31 : decode b_m10_isText 31 = .ok (.if_icmp .gt 7, 3) := by decide +kernel
theorem d_m10_isText_34 : decode b_m10_isText 34 = .ok (.iconst 1, 1) := by decide +kernel
theorem d_m10_isText_35 : decode b_m10_isText 35 = .ok (.goto 4, 3) := by decide +kernel
theorem d_m10_isText_38 : decode b_m10_isText 38 = .ok (.iconst 0, 1) := by decide +kernel
theorem d_m10_isText_39 : decode b_m10_isText 39 = .ok (.ireturn, 1) := by decide +kernel
def s_m10_isText_39  (t0 : Int32) (M : Mm) : Option (Int32 × Mm) := rz t0 (some (t0, M))
def s_m10_isText_38   (M : Mm) : Option (Int32 × Mm) := s_m10_isText_39 (0 : Int32) M
def s_m10_isText (r0 : Nat) (a1 : Int32) (a2 : Int32) (M : Mm) : Option (Int32 × Mm) := (if a1 < 0 then s_m10_isText_38 M else dz (10 : Int32) ((if (8 : Int32) ≤ (a1 / (10 : Int32)) then s_m10_isText_38 M else dz (10 : Int32) ((if (8 : Int32) ≤ (a1 - a1 / (10 : Int32) * (10 : Int32)) then s_m10_isText_38 M else (if a2 < 0 then s_m10_isText_38 M else gI M r0 20 12 (fun v1 => (if v1 < a2 then s_m10_isText_38 M else s_m10_isText_39 (1 : Int32) M))))))))
set_option maxRecDepth 100000 in
set_option maxHeartbeats 4000000 in
theorem w_m10_isText_39 {V : Ev} {C : Cx} {n0 : Nat} (hC : Cok V C y_m10_isText.cls b_m10_isText 3 n0 (some .boolean) y_m10_isText.name) (hR : cR C = rm_m10_isText)  : ∀ (t0 : Int32) (M : Mm), Sm V C 3 n0 n0 (qI V C) 39 [] [.int t0] M (s_m10_isText_39 t0 M) := by
  intro t0 M
  unfold s_m10_isText_39
  exact Sm.zret hC d_m10_isText_39 rfl (Nat.sub_self _)
set_option maxRecDepth 100000 in
set_option maxHeartbeats 4000000 in
theorem w_m10_isText_38 {V : Ev} {C : Cx} {n0 : Nat} (hC : Cok V C y_m10_isText.cls b_m10_isText 3 n0 (some .boolean) y_m10_isText.name) (hR : cR C = rm_m10_isText)  : ∀  (M : Mm), Sm V C 3 n0 n0 (qI V C) 38 [] [] M (s_m10_isText_38 M) := by
  intro M
  unfold s_m10_isText_38
  refine Sm.iconst (v := 0) hC d_m10_isText_38 (by decide) ?_
  exact w_m10_isText_39 hC hR (0 : Int32) M
set_option maxRecDepth 100000 in
set_option maxHeartbeats 4000000 in
theorem ok_m10_isText {l : Launch} {V : Ev} {M M' : Mm} {r : Int32} {r0 : Nat} {a1 : Int32} {a2 : Int32} (h : s_m10_isText r0 a1 a2 M = some (r, M')) : Met l y_m10_isText (Cond.code y_m10_isText b_m10_isText 3 (some .boolean) :: TW) rm_m10_isText (va_Pc [rv V.1 r0, .int a1, .int a2] (Wd V M)) (QC V (some (.int r)) M' 0) 0 0 (Af V) := by
  refine met_of (fun x : Int32 => some (.int x)) (lv0 := [(0, rv V.1 r0), (1, .int a1), (2, .int a2)]) (by decide) (by simp [lg_sl, cat_rv, cat_i, cat_l, cat_f]) (by simp [lv_args, cat_rv, cat_i, cat_l, cat_f]) (fun C hl hR hC => ?_) h
  subst hl
  generalize mN M = n0 at hC ⊢
  unfold s_m10_isText
  refine Sm.iload_n hC d_m10_isText_0 rfl 1 rfl ?_
  refine Sm.if_lt (tgt := 38) hC d_m10_isText_1 (by decide) ?_ ?_
  · refine Sm.sub [] rfl ?_
    exact w_m10_isText_38 hC hR M
  · refine Sm.iload_n hC d_m10_isText_4 rfl 1 rfl ?_
    refine Sm.bipush (v := 10) hC d_m10_isText_5 (by decide) ?_
    refine Sm.idiv hC d_m10_isText_7 ?_
    refine Sm.bipush (v := 8) hC d_m10_isText_8 (by decide) ?_
    refine Sm.icmp_ge (tgt := 38) hC d_m10_isText_10 (by decide) ?_ ?_
    · refine Sm.sub [] rfl ?_
      exact w_m10_isText_38 hC hR M
    · refine Sm.iload_n hC d_m10_isText_13 rfl 1 rfl ?_
      refine Sm.bipush (v := 10) hC d_m10_isText_14 (by decide) ?_
      refine Sm.irem hC d_m10_isText_16 ?_
      refine Sm.bipush (v := 8) hC d_m10_isText_17 (by decide) ?_
      refine Sm.icmp_ge (tgt := 38) hC d_m10_isText_19 (by decide) ?_ ?_
      · refine Sm.sub [] rfl ?_
        exact w_m10_isText_38 hC hR M
      · refine Sm.iload_n hC d_m10_isText_22 rfl 2 rfl ?_
        refine Sm.if_lt (tgt := 38) hC d_m10_isText_23 (by decide) ?_ ?_
        · refine Sm.sub [] rfl ?_
          exact w_m10_isText_38 hC hR M
        · refine Sm.iload_n hC d_m10_isText_26 rfl 2 rfl ?_
          refine Sm.aload_n hC d_m10_isText_27 rfl 0 rfl ?_
          refine Sm.getI hC fl_m10_195 rfl d_m10_isText_28 (fun v1 => ?_)
          refine Sm.icmp_gt (tgt := 38) hC d_m10_isText_31 (by decide) ?_ ?_
          · refine Sm.sub [] rfl ?_
            exact w_m10_isText_38 hC hR M
          · refine Sm.iconst (v := 1) hC d_m10_isText_34 (by decide) ?_
            refine Sm.goto (tgt := 39) hC d_m10_isText_35 (by decide) ?_
            refine Sm.sub [] rfl ?_
            exact w_m10_isText_39 hC hR (1 : Int32) M
/-! NewsWire.joinText(II)V -/
theorem fl_m10_44 : FL "NewsWire" 44 10 5 2 true (.object "NewsWire$StoryText") := ⟨_, _, _, _, rfl, in_c10, ty_c10, nm_c10, by decide, rfl, tw_i 362 (by decide +kernel), rfl, rfl, rfl, rfl⟩
abbrev b_m10_joinText : ByteArray := prog_1_method_42_code
def y_m10_joinText : MethodName := ⟨"NewsWire", "joinText", "(II)V"⟩
def rm_m10_joinText : Room := { frames := 5, cells := 0, slots := 0, locals := 155 }
theorem cw_m10_joinText : CW y_m10_joinText b_m10_joinText 3 none 2 := ⟨tw_i 55 (by decide +kernel), tw_i 724 (by decide +kernel), by decide, by decide, by decide +kernel⟩
theorem d_m10_joinText_0 : decode b_m10_joinText 0 = .ok (.aload_n 0, 1) := by decide +kernel
theorem d_m10_joinText_1 : decode b_m10_joinText 1 = .ok (.getfield 44, 3) := by decide +kernel
theorem d_m10_joinText_4 : decode b_m10_joinText 4 = .ok (.aload_n 0, 1) := by decide +kernel
theorem d_m10_joinText_5 : decode b_m10_joinText 5 = .ok (.getfield 17, 3) := by decide +kernel
theorem d_m10_joinText_8 : decode b_m10_joinText 8 = .ok (.iload_n 1, 1) := by decide +kernel
theorem d_m10_joinText_9 : decode b_m10_joinText 9 = .ok (.bipush 10, 2) := by decide +kernel
theorem d_m10_joinText_11 : decode b_m10_joinText 11 = .ok (.idiv, 1) := by decide +kernel
theorem d_m10_joinText_12 : decode b_m10_joinText 12 = .ok (.aload_n 0, 1) := by decide +kernel
theorem d_m10_joinText_13 : decode b_m10_joinText 13 = .ok (.getfield 23, 3) := by decide +kernel
theorem d_m10_joinText_16 : decode b_m10_joinText 16 = .ok (.iload_n 1, 1) := by decide +kernel
theorem d_m10_joinText_17 : decode b_m10_joinText 17 = .ok (.bipush 10, 2) := by decide +kernel
theorem d_m10_joinText_19 : decode b_m10_joinText 19 = .ok (.irem, 1) := by decide +kernel
theorem d_m10_joinText_20 : decode b_m10_joinText 20 = .ok (.aaload, 1) := by decide +kernel
theorem d_m10_joinText_21 : decode b_m10_joinText 21 = .ok (.iload_n 2, 1) := by decide +kernel
theorem d_m10_joinText_22 : decode b_m10_joinText 22 = .ok (.invokevirtual 312, 3) := by decide +kernel
theorem d_m10_joinText_25 : decode b_m10_joinText 25 = .ok (.return_, 1) := by decide +kernel
def s_m10_joinText (r0 : Nat) (a1 : Int32) (a2 : Int32) (M : Mm) : Option (Unit × Mm) := gR M r0 20 5 (fun v1 => gR M r0 20 1 (fun v2 => dz (10 : Int32) (gR M r0 20 2 (fun v3 => dz (10 : Int32) (aR M v3 2 (a1 - a1 / (10 : Int32) * (10 : Int32)) (fun v4 => cl (has M v1 17) (s_m7_join v1 v2 (a1 / (10 : Int32)) v4 a2 M) (fun _ M5 => some ((), M5))))))))
set_option maxRecDepth 100000 in
set_option maxHeartbeats 4000000 in
theorem ok_m10_joinText {l : Launch} {V : Ev} {M M' : Mm} {r : Unit} {r0 : Nat} {a1 : Int32} {a2 : Int32} (h : s_m10_joinText r0 a1 a2 M = some (r, M')) : Met l y_m10_joinText (Cond.code y_m10_joinText b_m10_joinText 3 none :: TW) rm_m10_joinText (va_Pc [rv V.1 r0, .int a1, .int a2] (Wd V M)) (QC V none M' 0) 0 0 (Af V) := by
  refine met_of (fun _ : Unit => none) (lv0 := [(0, rv V.1 r0), (1, .int a1), (2, .int a2)]) (by decide) (by simp [lg_sl, cat_rv, cat_i, cat_l, cat_f]) (by simp [lv_args, cat_rv, cat_i, cat_l, cat_f]) (fun C hl hR hC => ?_) h
  subst hl
  generalize mN M = n0 at hC ⊢
  unfold s_m10_joinText
  refine Sm.aload_n hC d_m10_joinText_0 rfl 0 rfl ?_
  refine Sm.getR hC fl_m10_44 rfl d_m10_joinText_1 (fun v1 => ?_)
  refine Sm.aload_n hC d_m10_joinText_4 rfl 0 rfl ?_
  refine Sm.getR hC fl_m10_17 rfl d_m10_joinText_5 (fun v2 => ?_)
  refine Sm.iload_n hC d_m10_joinText_8 rfl 1 rfl ?_
  refine Sm.bipush (v := 10) hC d_m10_joinText_9 (by decide) ?_
  refine Sm.idiv hC d_m10_joinText_11 ?_
  refine Sm.aload_n hC d_m10_joinText_12 rfl 0 rfl ?_
  refine Sm.getR hC fl_m10_23 rfl d_m10_joinText_13 (fun v3 => ?_)
  refine Sm.iload_n hC d_m10_joinText_16 rfl 1 rfl ?_
  refine Sm.bipush (v := 10) hC d_m10_joinText_17 (by decide) ?_
  refine Sm.irem hC d_m10_joinText_19 ?_
  refine Sm.aald (Cn := n_c2) hC ⟨by decide, by decide⟩ rfl d_m10_joinText_20 (fun v4 => ?_)
  refine Sm.iload_n hC d_m10_joinText_21 rfl 2 rfl ?_
  refine Sm.callVv 7 (As := [rv V.1 v2, .int (a1 / (10 : Int32)), rv V.1 v4, .int a2]) (st := []) hC hR cw_m7_join (tw_i 725 (by decide +kernel)) (tw_i 726 (by decide +kernel)) (tw_i 727 (by decide +kernel)) ⟨_, rfl, rfl⟩ (fun r9 M9 h9 => ok_m7_join h9) rfl rfl (RW.of ⟨rfl, rfl, by decide, by decide⟩) (by simp) d_m10_joinText_22 (fun _ M5 => ?_)
  exact Sm.vret hC d_m10_joinText_25 rfl (Nat.sub_self _)
