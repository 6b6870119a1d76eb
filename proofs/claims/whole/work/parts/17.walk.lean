/-! NewsWire.count(I)I -/
abbrev b_m10_count : ByteArray := prog_1_method_40_code
def y_m10_count : MethodName := ⟨"NewsWire", "count", "(I)I"⟩
def rm_m10_count : Room := { frames := 2, cells := 0, slots := 0, locals := 81 }
theorem cw_m10_count : CW y_m10_count b_m10_count 2 (some .int) 1 := ⟨tw_i 55 (by decide +kernel), tw_i 831 (by decide +kernel), by decide, by decide, by decide +kernel⟩
theorem d_m10_count_0 : decode b_m10_count 0 = .ok (.iload_n 1, 1) := by decide +kernel
theorem d_m10_count_1 : decode b_m10_count 1 = .ok (.tableswitch 96 0 7 #[47, 52, 57, 62, 70, 78, 83, 88], 47) := by decide +kernel
theorem d_m10_count_48 : decode b_m10_count 48 = .ok (.aload_n 0, 1) := by decide +kernel
theorem d_m10_count_49 : decode b_m10_count 49 = .ok (.getfield 195, 3) := by decide +kernel
theorem d_m10_count_52 : decode b_m10_count 52 = .ok (.ireturn, 1) := by decide +kernel
theorem d_m10_count_53 : decode b_m10_count 53 = .ok (.aload_n 0, 1) := by decide +kernel
theorem d_m10_count_54 : decode b_m10_count 54 = .ok (.getfield 80, 3) := by decide +kernel
theorem d_m10_count_57 : decode b_m10_count 57 = .ok (.ireturn, 1) := by decide +kernel
theorem d_m10_count_58 : decode b_m10_count 58 = .ok (.aload_n 0, 1) := by decide +kernel
theorem d_m10_count_59 : decode b_m10_count 59 = .ok (.getfield 92, 3) := by decide +kernel
theorem d_m10_count_62 : decode b_m10_count 62 = .ok (.ireturn, 1) := by decide +kernel
theorem d_m10_count_63 : decode b_m10_count 63 = .ok (.aload_n 0, 1) := by decide +kernel
theorem d_m10_count_64 : decode b_m10_count 64 = .ok (.getfield 30, 3) := by decide +kernel
theorem d_m10_count_67 : decode b_m10_count 67 = .ok (.getfield 164, 3) := by decide +kernel
theorem d_m10_count_70 : decode b_m10_count 70 = .ok (.ireturn, 1) := by decide +kernel
theorem d_m10_count_71 : decode b_m10_count 71 = .ok (.aload_n 0, 1) := by decide +kernel
theorem d_m10_count_72 : decode b_m10_count 72 = .ok (.getfield 58, 3) := by decide +kernel
theorem d_m10_count_75 : decode b_m10_count 75 = .ok (.getfield 157, 3) := by decide +kernel
theorem d_m10_count_78 : decode b_m10_count 78 = .ok (.ireturn, 1) := by decide +kernel
theorem d_m10_count_79 : decode b_m10_count 79 = .ok (.aload_n 0, 1) := by decide +kernel
theorem d_m10_count_80 : decode b_m10_count 80 = .ok (.getfield 261, 3) := by decide +kernel
theorem d_m10_count_83 : decode b_m10_count 83 = .ok (.ireturn, 1) := by decide +kernel
theorem d_m10_count_84 : decode b_m10_count 84 = .ok (.aload_n 0, 1) := by decide +kernel
theorem d_m10_count_85 : decode b_m10_count 85 = .ok (.getfield 231, 3) := by decide +kernel
theorem d_m10_count_88 : decode b_m10_count 88 = .ok (.ireturn, 1) := by decide +kernel
theorem d_m10_count_89 : decode b_m10_count 89 = .ok (.aload_n 0, 1) := by decide +kernel
theorem d_m10_count_90 : decode b_m10_count 90 = .ok (.getfield 37, 3) := by decide +kernel
theorem d_m10_count_93 : decode b_m10_count 93 = .ok (.getfield 227, 3) := by decide +kernel
theorem d_m10_count_96 : decode b_m10_count 96 = .ok (.ireturn, 1) := by decide +kernel
theorem d_m10_count_97 : decode b_m10_count 97 = .ok (.aload_n 0, 1) := by decide +kernel
theorem d_m10_count_98 : decode b_m10_count 98 = .ok (.bipush (-7), 2) := by decide +kernel
theorem d_m10_count_100 : decode b_m10_count 100 = .ok (.invokevirtual 76, 3) := by decide +kernel
theorem d_m10_count_103 : decode b_m10_count 103 = .ok (.ireturn, 1) := by decide +kernel
def s_m10_count (r0 : Nat) (a1 : Int32) (M : Mm) : Option (Int32 × Mm) := (if a1 = 0 then gI M r0 20 12 (fun v1 => some (v1, M)) else if a1 = 1 then gI M r0 20 10 (fun v2 => some (v2, M)) else if a1 = 2 then gI M r0 20 11 (fun v3 => some (v3, M)) else if a1 = 3 then gR M r0 20 3 (fun v4 => gI M v4 16 1 (fun v5 => some (v5, M))) else if a1 = 4 then gR M r0 20 7 (fun v6 => gI M v6 18 1 (fun v7 => some (v7, M))) else if a1 = 5 then gI M r0 20 13 (fun v8 => some (v8, M)) else if a1 = 6 then gI M r0 20 14 (fun v9 => some (v9, M)) else if a1 = 7 then gR M r0 20 4 (fun v10 => gI M v10 11 2 (fun v11 => some (v11, M))) else cl (has M r0 20) (s_m10_refuse r0 (-7 : Int32) M) (fun v12 M13 => some (v12, M13)))
set_option maxRecDepth 100000 in
set_option maxHeartbeats 4000000 in
theorem ok_m10_count {l : Launch} {V : Ev} {M M' : Mm} {r : Int32} {r0 : Nat} {a1 : Int32} (h : s_m10_count r0 a1 M = some (r, M')) : Met l y_m10_count (Cond.code y_m10_count b_m10_count 2 (some .int) :: TW) rm_m10_count (va_Pc [rv V.1 r0, .int a1] (Wd V M)) (QC V (some (.int r)) M' 0) 0 0 (Af V) := by
  refine met_of (fun x : Int32 => some (.int x)) (lv0 := [(0, rv V.1 r0), (1, .int a1)]) (by decide) (by simp [lg_sl, cat_rv, cat_i, cat_l, cat_f]) (by simp [lv_args, cat_rv, cat_i, cat_l, cat_f]) (fun C hl hR hC => ?_) h
  subst hl
  generalize mN M = n0 at hC ⊢
  unfold s_m10_count
  refine Sm.iload_n hC d_m10_count_0 rfl 1 rfl ?_
  refine Sm.if_ (fun h9 => ?_) (fun h1_0 => ?_)
  · refine Sm.tswIn (tgt := 48) hC d_m10_count_1 (by rw [h9]; decide) (by rw [h9]; decide) (by rw [h9] <;> rfl) (by decide) ?_
    refine Sm.aload_n hC d_m10_count_48 rfl 0 rfl ?_
    refine Sm.getI hC fl_m10_195 rfl d_m10_count_49 (fun v1 => ?_)
    exact Sm.iret hC d_m10_count_52 rfl (Nat.sub_self _)
  refine Sm.if_ (fun h9 => ?_) (fun h1_1 => ?_)
  · refine Sm.tswIn (tgt := 53) hC d_m10_count_1 (by rw [h9]; decide) (by rw [h9]; decide) (by rw [h9] <;> rfl) (by decide) ?_
    refine Sm.aload_n hC d_m10_count_53 rfl 0 rfl ?_
    refine Sm.getI hC fl_m10_80 rfl d_m10_count_54 (fun v2 => ?_)
    exact Sm.iret hC d_m10_count_57 rfl (Nat.sub_self _)
  refine Sm.if_ (fun h9 => ?_) (fun h1_2 => ?_)
  · refine Sm.tswIn (tgt := 58) hC d_m10_count_1 (by rw [h9]; decide) (by rw [h9]; decide) (by rw [h9] <;> rfl) (by decide) ?_
    refine Sm.aload_n hC d_m10_count_58 rfl 0 rfl ?_
    refine Sm.getI hC fl_m10_92 rfl d_m10_count_59 (fun v3 => ?_)
    exact Sm.iret hC d_m10_count_62 rfl (Nat.sub_self _)
  refine Sm.if_ (fun h9 => ?_) (fun h1_3 => ?_)
  · refine Sm.tswIn (tgt := 63) hC d_m10_count_1 (by rw [h9]; decide) (by rw [h9]; decide) (by rw [h9] <;> rfl) (by decide) ?_
    refine Sm.aload_n hC d_m10_count_63 rfl 0 rfl ?_
    refine Sm.getR hC fl_m10_30 rfl d_m10_count_64 (fun v4 => ?_)
    refine Sm.getI hC fl_m10_164 rfl d_m10_count_67 (fun v5 => ?_)
    exact Sm.iret hC d_m10_count_70 rfl (Nat.sub_self _)
  refine Sm.if_ (fun h9 => ?_) (fun h1_4 => ?_)
  · refine Sm.tswIn (tgt := 71) hC d_m10_count_1 (by rw [h9]; decide) (by rw [h9]; decide) (by rw [h9] <;> rfl) (by decide) ?_
    refine Sm.aload_n hC d_m10_count_71 rfl 0 rfl ?_
    refine Sm.getR hC fl_m10_58 rfl d_m10_count_72 (fun v6 => ?_)
    refine Sm.getI hC fl_m10_157 rfl d_m10_count_75 (fun v7 => ?_)
    exact Sm.iret hC d_m10_count_78 rfl (Nat.sub_self _)
  refine Sm.if_ (fun h9 => ?_) (fun h1_5 => ?_)
  · refine Sm.tswIn (tgt := 79) hC d_m10_count_1 (by rw [h9]; decide) (by rw [h9]; decide) (by rw [h9] <;> rfl) (by decide) ?_
    refine Sm.aload_n hC d_m10_count_79 rfl 0 rfl ?_
    refine Sm.getI hC fl_m10_261 rfl d_m10_count_80 (fun v8 => ?_)
    exact Sm.iret hC d_m10_count_83 rfl (Nat.sub_self _)
  refine Sm.if_ (fun h9 => ?_) (fun h1_6 => ?_)
  · refine Sm.tswIn (tgt := 84) hC d_m10_count_1 (by rw [h9]; decide) (by rw [h9]; decide) (by rw [h9] <;> rfl) (by decide) ?_
    refine Sm.aload_n hC d_m10_count_84 rfl 0 rfl ?_
    refine Sm.getI hC fl_m10_231 rfl d_m10_count_85 (fun v9 => ?_)
    exact Sm.iret hC d_m10_count_88 rfl (Nat.sub_self _)
  refine Sm.if_ (fun h9 => ?_) (fun h1_7 => ?_)
  · refine Sm.tswIn (tgt := 89) hC d_m10_count_1 (by rw [h9]; decide) (by rw [h9]; decide) (by rw [h9] <;> rfl) (by decide) ?_
    refine Sm.aload_n hC d_m10_count_89 rfl 0 rfl ?_
    refine Sm.getR hC fl_m10_37 rfl d_m10_count_90 (fun v10 => ?_)
    refine Sm.getI hC fl_m10_227 rfl d_m10_count_93 (fun v11 => ?_)
    exact Sm.iret hC d_m10_count_96 rfl (Nat.sub_self _)
  refine Sm.tswOut (tgt := 97) hC d_m10_count_1 (out_of (n := 8) (by decide) (fun i hi => by
      match i, hi with
      | 0, _ => exact h1_0
      | 1, _ => exact h1_1
      | 2, _ => exact h1_2
      | 3, _ => exact h1_3
      | 4, _ => exact h1_4
      | 5, _ => exact h1_5
      | 6, _ => exact h1_6
      | 7, _ => exact h1_7)) (by decide) ?_
  refine Sm.aload_n hC d_m10_count_97 rfl 0 rfl ?_
  refine Sm.bipush (v := -7) hC d_m10_count_98 (by decide) ?_
  refine Sm.callVi 10 (As := [.int (-7 : Int32)]) (st := []) hC hR cw_m10_refuse (tw_i 410 (by decide +kernel)) (tw_i 412 (by decide +kernel)) (tw_i 0 (by decide +kernel)) ⟨_, rfl, rfl⟩ (fun r9 M9 h9 => ok_m10_refuse h9) rfl rfl (RW.of ⟨rfl, rfl, by decide, by decide⟩) (by simp) d_m10_count_100 (fun v12 M13 => ?_)
  exact Sm.iret hC d_m10_count_103 rfl (Nat.sub_self _)
/-! NewsWire.tell(II)I -/
abbrev b_m10_tell : ByteArray := prog_1_method_46_code
def y_m10_tell : MethodName := ⟨"NewsWire", "tell", "(II)I"⟩
def rm_m10_tell : Room := { frames := 2, cells := 0, slots := 0, locals := 81 }
theorem cw_m10_tell : CW y_m10_tell b_m10_tell 3 (some .int) 2 := ⟨tw_i 55 (by decide +kernel), tw_i 835 (by decide +kernel), by decide, by decide, by decide +kernel⟩
theorem d_m10_tell_0 : decode b_m10_tell 0 = .ok (.iload_n 1, 1) := by decide +kernel
theorem d_m10_tell_1 : decode b_m10_tell 1 = .ok (.ifCond .lt 29, 3) := by decide +kernel
theorem d_m10_tell_4 : decode b_m10_tell 4 = .ok (.iload_n 1, 1) := by decide +kernel
theorem d_m10_tell_5 : decode b_m10_tell 5 = .ok (.aload_n 0, 1) := by decide +kernel
theorem d_m10_tell_6 : decode b_m10_tell 6 = .ok (.getfield 65, 3) := by decide +kernel
theorem d_m10_tell_9 : decode b_m10_tell 9 = .ok (.invokevirtual 138, 3) := by decide +kernel
theorem d_m10_tell_12 : decode b_m10_tell 12 = .ok (.ifCond .eq 8, 3) := by decide +kernel
theorem d_m10_tell_15 : decode b_m10_tell 15 = .ok (.bipush 16, 2) := by decide +kernel
theorem d_m10_tell_17 : decode b_m10_tell 17 = .ok (.goto 10, 3) := by decide +kernel
theorem d_m10_tell_20 : decode b_m10_tell 20 = .ok (.aload_n 0, 1) := by decide +kernel
theorem d_m10_tell_21 : decode b_m10_tell 21 = .ok (.getfield 65, 3) := by decide +kernel
theorem d_m10_tell_24 : decode b_m10_tell 24 = .ok (.getfield 145, 3) := by decide +kernel
theorem d_m10_tell_27 : decode b_m10_tell 27 = .ok (.if_icmp .lt 10, 3) := by decide +kernel
theorem d_m10_tell_30 : decode b_m10_tell 30 = .ok (.aload_n 0, 1) := by decide +kernel
theorem d_m10_tell_31 : decode b_m10_tell 31 = .ok (.bipush (-3), 2) := by decide +kernel
theorem d_m10_tell_33 : decode b_m10_tell 33 = .ok (.invokevirtual 76, 3) := by decide +kernel
theorem d_m10_tell_36 : decode b_m10_tell 36 = .ok (.ireturn, 1) := by decide +kernel
theorem d_m10_tell_37 : decode b_m10_tell 37 = .ok (.iload_n 2, 1) := by decide +kernel
theorem d_m10_tell_38 : decode b_m10_tell 38 = .ok (.ifCond .lt 10, 3) := by decide +kernel
theorem d_m10_tell_41 : decode b_m10_tell 41 = .ok (.iload_n 2, 1) := by decide +kernel
theorem d_m10_tell_42 : decode b_m10_tell 42 = .ok (.sipush 9999, 3) := by decide +kernel
theorem d_m10_tell_45 : decode b_m10_tell 45 = .ok (.if_icmp .le 10, 3) := by decide +kernel
theorem d_m10_tell_48 : decode b_m10_tell 48 = .ok (.aload_n 0, 1) := by decide +kernel
theorem d_m10_tell_49 : decode b_m10_tell 49 = .ok (.bipush (-7), 2) := by decide +kernel
theorem d_m10_tell_51 : decode b_m10_tell 51 = .ok (.invokevirtual 76, 3) := by decide +kernel
theorem d_m10_tell_54 : decode b_m10_tell 54 = .ok (.ireturn, 1) := by decide +kernel
theorem d_m10_tell_55 : decode b_m10_tell 55 = .ok (.aload_n 0, 1) := by decide +kernel
theorem d_m10_tell_56 : decode b_m10_tell 56 = .ok (.getfield 65, 3) := by decide +kernel
theorem d_m10_tell_59 : decode b_m10_tell 59 = .ok (.invokevirtual 138, 3) := by decide +kernel
theorem d_m10_tell_62 : decode b_m10_tell 62 = .ok (.ifCond .eq 10, 3) := by decide +kernel
theorem d_m10_tell_65 : decode b_m10_tell 65 = .ok (.aload_n 0, 1) := by decide +kernel
theorem d_m10_tell_66 : decode b_m10_tell 66 = .ok (.getfield 65, 3) := by decide +kernel
theorem d_m10_tell_69 : decode b_m10_tell 69 = .ok (.invokevirtual 361, 3) := by decide +kernel
theorem d_m10_tell_72 : decode b_m10_tell 72 = .ok (.aload_n 0, 1) := by decide +kernel
theorem d_m10_tell_73 : decode b_m10_tell 73 = .ok (.getfield 65, 3) := by decide +kernel
theorem d_m10_tell_76 : decode b_m10_tell 76 = .ok (.getfield 123, 3) := by decide +kernel
theorem d_m10_tell_79 : decode b_m10_tell 79 = .ok (.iload_n 1, 1) := by decide +kernel
theorem d_m10_tell_80 : decode b_m10_tell 80 = .ok (.iload_n 2, 1) := by decide +kernel
theorem d_m10_tell_81 : decode b_m10_tell 81 = .ok (.iastore, 1) := by decide +kernel
theorem d_m10_tell_82 : decode b_m10_tell 82 = .ok (.iconst 1, 1) := by decide +kernel
theorem d_m10_tell_83 : decode b_m10_tell 83 = .ok (.ireturn, 1) := by decide +kernel
def s_m10_tell_30  (r0 : Nat) (M : Mm) : Option (Int32 × Mm) := cl (has M r0 20) (s_m10_refuse r0 (-3 : Int32) M) (fun v1 M2 => some (v1, M2))
def s_m10_tell_48  (r0 : Nat) (M : Mm) : Option (Int32 × Mm) := cl (has M r0 20) (s_m10_refuse r0 (-7 : Int32) M) (fun v1 M2 => some (v1, M2))
def s_m10_tell_72  (r0 : Nat) (x1 : Int32) (x2 : Int32) (M : Mm) : Option (Int32 × Mm) := gR M r0 20 8 (fun v1 => gR M v1 14 0 (fun v2 => sI M v2 0 x1 x2 (fun M3 => some ((1 : Int32), M3))))
def s_m10_tell_27  (r0 : Nat) (x1 : Int32) (x2 : Int32) (t0 : Int32) (t1 : Int32) (M : Mm) : Option (Int32 × Mm) := (if t0 < t1 then (if x2 < 0 then s_m10_tell_48 r0 M else (if x2 ≤ (9999 : Int32) then gR M r0 20 8 (fun v1 => cl (has M v1 14) (s_m4_isMissing v1 M) (fun v2 M3 => (if v2 = 0 then s_m10_tell_72 r0 x1 x2 M3 else gR M3 r0 20 8 (fun v4 => cl (has M3 v4 14) (s_m4_layZeros v4 M3) (fun _ M5 => s_m10_tell_72 r0 x1 x2 M5))))) else s_m10_tell_48 r0 M)) else s_m10_tell_30 r0 M)
def s_m10_tell (r0 : Nat) (a1 : Int32) (a2 : Int32) (M : Mm) : Option (Int32 × Mm) := (if a1 < 0 then s_m10_tell_30 r0 M else gR M r0 20 8 (fun v1 => cl (has M v1 14) (s_m4_isMissing v1 M) (fun v2 M3 => (if v2 = 0 then gR M3 r0 20 8 (fun v4 => gI M3 v4 14 1 (fun v5 => s_m10_tell_27 r0 a1 a2 a1 v5 M3)) else s_m10_tell_27 r0 a1 a2 a1 (16 : Int32) M3))))
set_option maxRecDepth 100000 in
set_option maxHeartbeats 4000000 in
theorem w_m10_tell_30 {V : Ev} {C : Cx} {n0 : Nat} (hC : Cok V C y_m10_tell.cls b_m10_tell 3 n0 (some .int) y_m10_tell.name) (hR : cR C = rm_m10_tell)  : ∀ (r0 : Nat) (M : Mm), Sm V C 3 n0 n0 (qI V C) 30 [(0, rv V.1 r0)] [] M (s_m10_tell_30 r0 M) := by
  intro r0 M
  unfold s_m10_tell_30
  refine Sm.aload_n hC d_m10_tell_30 rfl 0 rfl ?_
  refine Sm.bipush (v := -3) hC d_m10_tell_31 (by decide) ?_
  refine Sm.callVi 10 (As := [.int (-3 : Int32)]) (st := []) hC hR cw_m10_refuse (tw_i 410 (by decide +kernel)) (tw_i 412 (by decide +kernel)) (tw_i 0 (by decide +kernel)) ⟨_, rfl, rfl⟩ (fun r9 M9 h9 => ok_m10_refuse h9) rfl rfl (RW.of ⟨rfl, rfl, by decide, by decide⟩) (by simp) d_m10_tell_33 (fun v1 M2 => ?_)
  exact Sm.iret hC d_m10_tell_36 rfl (Nat.sub_self _)
set_option maxRecDepth 100000 in
set_option maxHeartbeats 4000000 in
theorem w_m10_tell_48 {V : Ev} {C : Cx} {n0 : Nat} (hC : Cok V C y_m10_tell.cls b_m10_tell 3 n0 (some .int) y_m10_tell.name) (hR : cR C = rm_m10_tell)  : ∀ (r0 : Nat) (M : Mm), Sm V C 3 n0 n0 (qI V C) 48 [(0, rv V.1 r0)] [] M (s_m10_tell_48 r0 M) := by
  intro r0 M
  unfold s_m10_tell_48
  refine Sm.aload_n hC d_m10_tell_48 rfl 0 rfl ?_
  refine Sm.bipush (v := -7) hC d_m10_tell_49 (by decide) ?_
  refine Sm.callVi 10 (As := [.int (-7 : Int32)]) (st := []) hC hR cw_m10_refuse (tw_i 410 (by decide +kernel)) (tw_i 412 (by decide +kernel)) (tw_i 0 (by decide +kernel)) ⟨_, rfl, rfl⟩ (fun r9 M9 h9 => ok_m10_refuse h9) rfl rfl (RW.of ⟨rfl, rfl, by decide, by decide⟩) (by simp) d_m10_tell_51 (fun v1 M2 => ?_)
  exact Sm.iret hC d_m10_tell_54 rfl (Nat.sub_self _)
set_option maxRecDepth 100000 in
set_option maxHeartbeats 4000000 in
theorem w_m10_tell_72 {V : Ev} {C : Cx} {n0 : Nat} (hC : Cok V C y_m10_tell.cls b_m10_tell 3 n0 (some .int) y_m10_tell.name) (hR : cR C = rm_m10_tell)  : ∀ (r0 : Nat) (x1 : Int32) (x2 : Int32) (M : Mm), Sm V C 3 n0 n0 (qI V C) 72 [(0, rv V.1 r0), (1, .int x1), (2, .int x2)] [] M (s_m10_tell_72 r0 x1 x2 M) := by
  intro r0 x1 x2 M
  unfold s_m10_tell_72
  refine Sm.aload_n hC d_m10_tell_72 rfl 0 rfl ?_
  refine Sm.getR hC fl_m10_65 rfl d_m10_tell_73 (fun v1 => ?_)
  refine Sm.getR hC fl_m10_123 rfl d_m10_tell_76 (fun v2 => ?_)
  refine Sm.iload_n hC d_m10_tell_79 rfl 1 rfl ?_
  refine Sm.iload_n hC d_m10_tell_80 rfl 2 rfl ?_
  refine Sm.iast hC d_m10_tell_81 (fun M3 => ?_)
  refine Sm.iconst (v := 1) hC d_m10_tell_82 (by decide) ?_
  exact Sm.iret hC d_m10_tell_83 rfl (Nat.sub_self _)
set_option maxRecDepth 100000 in
set_option maxHeartbeats 4000000 in
theorem w_m10_tell_27 {V : Ev} {C : Cx} {n0 : Nat} (hC : Cok V C y_m10_tell.cls b_m10_tell 3 n0 (some .int) y_m10_tell.name) (hR : cR C = rm_m10_tell)  : ∀ (r0 : Nat) (x1 : Int32) (x2 : Int32) (t0 : Int32) (t1 : Int32) (M : Mm), Sm V C 3 n0 n0 (qI V C) 27 [(0, rv V.1 r0), (1, .int x1), (2, .int x2)] [.int t1, .int t0] M (s_m10_tell_27 r0 x1 x2 t0 t1 M) := by
  intro r0 x1 x2 t0 t1 M
  unfold s_m10_tell_27
  refine Sm.icmp_lt (tgt := 37) hC d_m10_tell_27 (by decide) ?_ ?_
  · refine Sm.iload_n hC d_m10_tell_37 rfl 2 rfl ?_
    refine Sm.if_lt (tgt := 48) hC d_m10_tell_38 (by decide) ?_ ?_
    · refine Sm.sub [0] rfl ?_
      exact w_m10_tell_48 hC hR r0 M
    · refine Sm.iload_n hC d_m10_tell_41 rfl 2 rfl ?_
      refine Sm.sipush (v := 9999) hC d_m10_tell_42 (by decide) ?_
      refine Sm.icmp_le (tgt := 55) hC d_m10_tell_45 (by decide) ?_ ?_
      · refine Sm.aload_n hC d_m10_tell_55 rfl 0 rfl ?_
        refine Sm.getR hC fl_m10_65 rfl d_m10_tell_56 (fun v1 => ?_)
        refine Sm.callVi 4 (As := []) (st := []) hC hR cw_m4_isMissing (tw_i 426 (by decide +kernel)) (tw_i 427 (by decide +kernel)) (tw_i 428 (by decide +kernel)) ⟨_, rfl, rfl⟩ (fun r9 M9 h9 => ok_m4_isMissing h9) rfl rfl (RW.of ⟨rfl, rfl, by decide, by decide⟩) (by simp) d_m10_tell_59 (fun v2 M3 => ?_)
        refine Sm.if_eq (tgt := 72) hC d_m10_tell_62 (by decide) ?_ ?_
        · exact w_m10_tell_72 hC hR r0 x1 x2 M3
        · refine Sm.aload_n hC d_m10_tell_65 rfl 0 rfl ?_
          refine Sm.getR hC fl_m10_65 rfl d_m10_tell_66 (fun v4 => ?_)
          refine Sm.callVv 4 (As := []) (st := []) hC hR cw_m4_layZeros (tw_i 836 (by decide +kernel)) (tw_i 837 (by decide +kernel)) (tw_i 838 (by decide +kernel)) ⟨_, rfl, rfl⟩ (fun r9 M9 h9 => ok_m4_layZeros h9) rfl rfl (RW.of ⟨rfl, rfl, by decide, by decide⟩) (by simp) d_m10_tell_69 (fun _ M5 => ?_)
          exact w_m10_tell_72 hC hR r0 x1 x2 M5
      · refine Sm.sub [0] rfl ?_
        exact w_m10_tell_48 hC hR r0 M
  · refine Sm.sub [0] rfl ?_
    exact w_m10_tell_30 hC hR r0 M
set_option maxRecDepth 100000 in
set_option maxHeartbeats 4000000 in
theorem ok_m10_tell {l : Launch} {V : Ev} {M M' : Mm} {r : Int32} {r0 : Nat} {a1 : Int32} {a2 : Int32} (h : s_m10_tell r0 a1 a2 M = some (r, M')) : Met l y_m10_tell (Cond.code y_m10_tell b_m10_tell 3 (some .int) :: TW) rm_m10_tell (va_Pc [rv V.1 r0, .int a1, .int a2] (Wd V M)) (QC V (some (.int r)) M' 0) 0 0 (Af V) := by
  refine met_of (fun x : Int32 => some (.int x)) (lv0 := [(0, rv V.1 r0), (1, .int a1), (2, .int a2)]) (by decide) (by simp [lg_sl, cat_rv, cat_i, cat_l, cat_f]) (by simp [lv_args, cat_rv, cat_i, cat_l, cat_f]) (fun C hl hR hC => ?_) h
  subst hl
  generalize mN M = n0 at hC ⊢
  unfold s_m10_tell
  refine Sm.iload_n hC d_m10_tell_0 rfl 1 rfl ?_
  refine Sm.if_lt (tgt := 30) hC d_m10_tell_1 (by decide) ?_ ?_
  · refine Sm.sub [0] rfl ?_
    exact w_m10_tell_30 hC hR r0 M
  · refine Sm.iload_n hC d_m10_tell_4 rfl 1 rfl ?_
    refine Sm.aload_n hC d_m10_tell_5 rfl 0 rfl ?_
    refine Sm.getR hC fl_m10_65 rfl d_m10_tell_6 (fun v1 => ?_)
    refine Sm.callVi 4 (As := []) (st := [.int a1]) hC hR cw_m4_isMissing (tw_i 426 (by decide +kernel)) (tw_i 427 (by decide +kernel)) (tw_i 428 (by decide +kernel)) ⟨_, rfl, rfl⟩ (fun r9 M9 h9 => ok_m4_isMissing h9) rfl rfl (RW.of ⟨rfl, rfl, by decide, by decide⟩) (by simp) d_m10_tell_9 (fun v2 M3 => ?_)
    refine Sm.if_eq (tgt := 20) hC d_m10_tell_12 (by decide) ?_ ?_
    · refine Sm.aload_n hC d_m10_tell_20 rfl 0 rfl ?_
      refine Sm.getR hC fl_m10_65 rfl d_m10_tell_21 (fun v4 => ?_)
      refine Sm.getI hC fl_m10_145 rfl d_m10_tell_24 (fun v5 => ?_)
      exact w_m10_tell_27 hC hR r0 a1 a2 a1 v5 M3
    · refine Sm.bipush (v := 16) hC d_m10_tell_15 (by decide) ?_
      refine Sm.goto (tgt := 27) hC d_m10_tell_17 (by decide) ?_
      exact w_m10_tell_27 hC hR r0 a1 a2 a1 (16 : Int32) M3
/-! NewsWire.lay(I)I -/
abbrev b_m10_lay : ByteArray := prog_1_method_47_code
def y_m10_lay : MethodName := ⟨"NewsWire", "lay", "(I)I"⟩
def rm_m10_lay : Room := { frames := 2, cells := 0, slots := 0, locals := 81 }
theorem cw_m10_lay : CW y_m10_lay b_m10_lay 3 (some .int) 1 := ⟨tw_i 55 (by decide +kernel), tw_i 843 (by decide +kernel), by decide, by decide, by decide +kernel⟩
theorem d_m10_lay_0 : decode b_m10_lay 0 = .ok (.aload_n 0, 1) := by decide +kernel
theorem d_m10_lay_1 : decode b_m10_lay 1 = .ok (.iload_n 1, 1) := by decide +kernel
theorem d_m10_lay_2 : decode b_m10_lay 2 = .ok (.invokevirtual 135, 3) := by decide +kernel
theorem d_m10_lay_5 : decode b_m10_lay 5 = .ok (.ifCond .ne 10, 3) := by decide +kernel
theorem d_m10_lay_8 : decode b_m10_lay 8 = .ok (.aload_n 0, 1) := by decide +kernel
theorem d_m10_lay_9 : decode b_m10_lay 9 = .ok (.bipush (-3), 2) := by decide +kernel
theorem d_m10_lay_11 : decode b_m10_lay 11 = .ok (.invokevirtual 76, 3) := by decide +kernel
theorem d_m10_lay_14 : decode b_m10_lay 14 = .ok (.ireturn, 1) := by decide +kernel
theorem d_m10_lay_15 : decode b_m10_lay 15 = .ok (.aload_n 0, 1) := by decide +kernel
theorem d_m10_lay_16 : decode b_m10_lay 16 = .ok (.getfield 17, 3) := by decide +kernel
theorem d_m10_lay_19 : decode b_m10_lay 19 = .ok (.iload_n 1, 1) := by decide +kernel
theorem d_m10_lay_20 : decode b_m10_lay 20 = .ok (.aaload, 1) := by decide +kernel
theorem d_m10_lay_21 : decode b_m10_lay 21 = .ok (.astore_n 2, 1) := by decide +kernel
theorem d_m10_lay_22 : decode b_m10_lay 22 = .ok (.aload_n 2, 1) := by decide +kernel
theorem d_m10_lay_23 : decode b_m10_lay 23 = .ok (.getfield 126, 3) := by decide +kernel
theorem d_m10_lay_26 : decode b_m10_lay 26 = .ok (.iconst 0, 1) := by decide +kernel
theorem d_m10_lay_27 : decode b_m10_lay 27 = .ok (.aload_n 0, 1) := by decide +kernel
theorem d_m10_lay_28 : decode b_m10_lay 28 = .ok (.getfield 65, 3) := by decide +kernel
theorem d_m10_lay_31 : decode b_m10_lay 31 = .ok (.getfield 123, 3) := by decide +kernel
theorem d_m10_lay_34 : decode b_m10_lay 34 = .ok (.iconst 0, 1) := by decide +kernel
theorem d_m10_lay_35 : decode b_m10_lay 35 = .ok (.aload_n 2, 1) := by decide +kernel
theorem d_m10_lay_36 : decode b_m10_lay 36 = .ok (.getfield 120, 3) := by decide +kernel
theorem d_m10_lay_39 : decode b_m10_lay 39 = .ok (.invokestatic 129, 3) := by decide +kernel
theorem d_m10_lay_42 : decode b_m10_lay 42 = .ok (.aload_n 0, 1) := by decide +kernel
theorem d_m10_lay_43 : decode b_m10_lay 43 = .ok (.getfield 65, 3) := by decide +kernel
theorem d_m10_lay_46 : decode b_m10_lay 46 = .ok (.aload_n 2, 1) := by decide +kernel
theorem d_m10_lay_47 : decode b_m10_lay 47 = .ok (.getfield 120, 3) := by decide +kernel
theorem d_m10_lay_50 : decode b_m10_lay 50 = .ok (.putfield 145, 3) := by decide +kernel
theorem d_m10_lay_53 : decode b_m10_lay 53 = .ok (.aload_n 0, 1) := by decide +kernel
theorem d_m10_lay_54 : decode b_m10_lay 54 = .ok (.getfield 65, 3) := by decide +kernel
theorem d_m10_lay_57 : decode b_m10_lay 57 = .ok (.getfield 145, 3) := by decide +kernel
theorem d_m10_lay_60 : decode b_m10_lay 60 = .ok (.ireturn, 1) := by decide +kernel
def s_m10_lay (r0 : Nat) (a1 : Int32) (M : Mm) : Option (Int32 × Mm) := cl (has M r0 20) (s_m10_isPiece r0 a1 M) (fun v1 M2 => (if ¬ v1 = 0 then gR M2 r0 20 1 (fun v3 => aR M2 v3 3 a1 (fun v4 => gR M2 v4 13 0 (fun v5 => gR M2 r0 20 8 (fun v6 => gR M2 v6 14 0 (fun v7 => gI M2 v4 13 5 (fun v8 => cp M2 v5 (0 : Int32) v7 (0 : Int32) v8 (fun M9 => gR M9 r0 20 8 (fun v10 => gI M9 v4 13 5 (fun v11 => pI M9 v10 14 1 v11 (fun M12 => gR M12 r0 20 8 (fun v13 => gI M12 v13 14 1 (fun v14 => some (v14, M12))))))))))))) else cl (has M2 r0 20) (s_m10_refuse r0 (-3 : Int32) M2) (fun v15 M16 => some (v15, M16))))
set_option maxRecDepth 100000 in
set_option maxHeartbeats 4000000 in
theorem ok_m10_lay {l : Launch} {V : Ev} {M M' : Mm} {r : Int32} {r0 : Nat} {a1 : Int32} (h : s_m10_lay r0 a1 M = some (r, M')) : Met l y_m10_lay (Cond.code y_m10_lay b_m10_lay 3 (some .int) :: TW) rm_m10_lay (va_Pc [rv V.1 r0, .int a1] (Wd V M)) (QC V (some (.int r)) M' 0) 0 0 (Af V) := by
  refine met_of (fun x : Int32 => some (.int x)) (lv0 := [(0, rv V.1 r0), (1, .int a1)]) (by decide) (by simp [lg_sl, cat_rv, cat_i, cat_l, cat_f]) (by simp [lv_args, cat_rv, cat_i, cat_l, cat_f]) (fun C hl hR hC => ?_) h
  subst hl
  generalize mN M = n0 at hC ⊢
  unfold s_m10_lay
  refine Sm.aload_n hC d_m10_lay_0 rfl 0 rfl ?_
  refine Sm.iload_n hC d_m10_lay_1 rfl 1 rfl ?_
  refine Sm.callVi 10 (As := [.int a1]) (st := []) hC hR cw_m10_isPiece (tw_i 436 (by decide +kernel)) (tw_i 438 (by decide +kernel)) (tw_i 2 (by decide +kernel)) ⟨_, rfl, rfl⟩ (fun r9 M9 h9 => ok_m10_isPiece h9) rfl rfl (RW.of ⟨rfl, rfl, by decide, by decide⟩) (by simp) d_m10_lay_2 (fun v1 M2 => ?_)
  refine Sm.if_ne (tgt := 15) hC d_m10_lay_5 (by decide) ?_ ?_
  · refine Sm.aload_n hC d_m10_lay_15 rfl 0 rfl ?_
    refine Sm.getR hC fl_m10_17 rfl d_m10_lay_16 (fun v3 => ?_)
    refine Sm.iload_n hC d_m10_lay_19 rfl 1 rfl ?_
    refine Sm.aald (Cn := n_c3) hC ⟨by decide, by decide⟩ rfl d_m10_lay_20 (fun v4 => ?_)
    refine Sm.astore_n (lv' := [(2, rv V.1 v4), (0, rv V.1 r0), (1, .int a1)]) hC d_m10_lay_21 rfl (by decide) rfl ?_
    refine Sm.aload_n hC d_m10_lay_22 rfl 0 rfl ?_
    refine Sm.getR hC fl_m10_126 rfl d_m10_lay_23 (fun v5 => ?_)
    refine Sm.iconst (v := 0) hC d_m10_lay_26 (by decide) ?_
    refine Sm.aload_n hC d_m10_lay_27 rfl 1 rfl ?_
    refine Sm.getR hC fl_m10_65 rfl d_m10_lay_28 (fun v6 => ?_)
    refine Sm.getR hC fl_m10_123 rfl d_m10_lay_31 (fun v7 => ?_)
    refine Sm.iconst (v := 0) hC d_m10_lay_34 (by decide) ?_
    refine Sm.aload_n hC d_m10_lay_35 rfl 0 rfl ?_
    refine Sm.getI hC fl_m10_120 rfl d_m10_lay_36 (fun v8 => ?_)
    refine Sm.copy hC hR (tw_i 454 (by decide +kernel)) (tw_i 456 (by decide +kernel)) (tw_i 455 (by decide +kernel)) (tw_i 67 (by decide +kernel)) (by decide) (by decide) (by decide) d_m10_lay_39 (fun M9 => ?_)
    refine Sm.aload_n hC d_m10_lay_42 rfl 1 rfl ?_
    refine Sm.getR hC fl_m10_65 rfl d_m10_lay_43 (fun v10 => ?_)
    refine Sm.aload_n hC d_m10_lay_46 rfl 0 rfl ?_
    refine Sm.getI hC fl_m10_120 rfl d_m10_lay_47 (fun v11 => ?_)
    refine Sm.putI hC fl_m10_145 rfl d_m10_lay_50 (fun M12 => ?_)
    refine Sm.aload_n hC d_m10_lay_53 rfl 1 rfl ?_
    refine Sm.getR hC fl_m10_65 rfl d_m10_lay_54 (fun v13 => ?_)
    refine Sm.getI hC fl_m10_145 rfl d_m10_lay_57 (fun v14 => ?_)
    exact Sm.iret hC d_m10_lay_60 rfl (Nat.sub_self _)
  · refine Sm.aload_n hC d_m10_lay_8 rfl 0 rfl ?_
    refine Sm.bipush (v := -3) hC d_m10_lay_9 (by decide) ?_
    refine Sm.callVi 10 (As := [.int (-3 : Int32)]) (st := []) hC hR cw_m10_refuse (tw_i 410 (by decide +kernel)) (tw_i 412 (by decide +kernel)) (tw_i 0 (by decide +kernel)) ⟨_, rfl, rfl⟩ (fun r9 M9 h9 => ok_m10_refuse h9) rfl rfl (RW.of ⟨rfl, rfl, by decide, by decide⟩) (by simp) d_m10_lay_11 (fun v15 M16 => ?_)
    exact Sm.iret hC d_m10_lay_14 rfl (Nat.sub_self _)
/-! NewsWire.tear()I -/
abbrev b_m10_tear : ByteArray := prog_1_method_48_code
def y_m10_tear : MethodName := ⟨"NewsWire", "tear", "()I"⟩
def rm_m10_tear : Room := { frames := 2, cells := 0, slots := 0, locals := 80 }
theorem cw_m10_tear : CW y_m10_tear b_m10_tear 2 (some .int) 0 := ⟨tw_i 55 (by decide +kernel), tw_i 847 (by decide +kernel), by decide, by decide, by decide +kernel⟩
theorem d_m10_tear_0 : decode b_m10_tear 0 = .ok (.aload_n 0, 1) := by decide +kernel
theorem d_m10_tear_1 : decode b_m10_tear 1 = .ok (.getfield 65, 3) := by decide +kernel
theorem d_m10_tear_4 : decode b_m10_tear 4 = .ok (.invokevirtual 138, 3) := by decide +kernel
theorem d_m10_tear_7 : decode b_m10_tear 7 = .ok (.ifCond .eq 7, 3) := by decide +kernel
theorem d_m10_tear_10 : decode b_m10_tear 10 = .ok (.iconst 0, 1) := by decide +kernel
theorem d_m10_tear_11 : decode b_m10_tear 11 = .ok (.goto 4, 3) := by decide +kernel
theorem d_m10_tear_14 : decode b_m10_tear 14 = .ok (.iconst 1, 1) := by decide +kernel
theorem d_m10_tear_15 : decode b_m10_tear 15 = .ok (.istore_n 1, 1) := by decide +kernel
theorem d_m10_tear_16 : decode b_m10_tear 16 = .ok (.aload_n 0, 1) := by decide +kernel
theorem d_m10_tear_17 : decode b_m10_tear 17 = .ok (.getfield 65, 3) := by decide +kernel
theorem d_m10_tear_20 : decode b_m10_tear 20 = .ok (.iconst 0, 1) := by decide +kernel
theorem d_m10_tear_21 : decode b_m10_tear 21 = .ok (.putfield 145, 3) := by decide +kernel
theorem d_m10_tear_24 : decode b_m10_tear 24 = .ok (.iload_n 1, 1) := by decide +kernel
theorem d_m10_tear_25 : decode b_m10_tear 25 = .ok (.ireturn, 1) := by decide +kernel
def s_m10_tear_15  (r0 : Nat) (t0 : Int32) (M : Mm) : Option (Int32 × Mm) := gR M r0 20 8 (fun v1 => pI M v1 14 1 (0 : Int32) (fun M2 => some (t0, M2)))
def s_m10_tear (r0 : Nat) (M : Mm) : Option (Int32 × Mm) := gR M r0 20 8 (fun v1 => cl (has M v1 14) (s_m4_isMissing v1 M) (fun v2 M3 => (if v2 = 0 then s_m10_tear_15 r0 (1 : Int32) M3 else s_m10_tear_15 r0 (0 : Int32) M3)))
set_option maxRecDepth 100000 in
set_option maxHeartbeats 4000000 in
theorem w_m10_tear_15 {V : Ev} {C : Cx} {n0 : Nat} (hC : Cok V C y_m10_tear.cls b_m10_tear 2 n0 (some .int) y_m10_tear.name) (hR : cR C = rm_m10_tear)  : ∀ (r0 : Nat) (t0 : Int32) (M : Mm), Sm V C 2 n0 n0 (qI V C) 15 [(0, rv V.1 r0)] [.int t0] M (s_m10_tear_15 r0 t0 M) := by
  intro r0 t0 M
  unfold s_m10_tear_15
  refine Sm.istore_n (i := 1) (lv' := [(1, .int t0), (0, rv V.1 r0)]) hC d_m10_tear_15 rfl (by decide) (by simp [cat_rv, cat_i, cat_l, cat_f]) ?_
  refine Sm.aload_n hC d_m10_tear_16 rfl 1 rfl ?_
  refine Sm.getR hC fl_m10_65 rfl d_m10_tear_17 (fun v1 => ?_)
  refine Sm.iconst (v := 0) hC d_m10_tear_20 (by decide) ?_
  refine Sm.putI hC fl_m10_145 rfl d_m10_tear_21 (fun M2 => ?_)
  refine Sm.iload_n hC d_m10_tear_24 rfl 0 rfl ?_
  exact Sm.iret hC d_m10_tear_25 rfl (Nat.sub_self _)
set_option maxRecDepth 100000 in
set_option maxHeartbeats 4000000 in
theorem ok_m10_tear {l : Launch} {V : Ev} {M M' : Mm} {r : Int32} {r0 : Nat} (h : s_m10_tear r0 M = some (r, M')) : Met l y_m10_tear (Cond.code y_m10_tear b_m10_tear 2 (some .int) :: TW) rm_m10_tear (va_Pc [rv V.1 r0] (Wd V M)) (QC V (some (.int r)) M' 0) 0 0 (Af V) := by
  refine met_of (fun x : Int32 => some (.int x)) (lv0 := [(0, rv V.1 r0)]) (by decide) (by simp [lg_sl, cat_rv, cat_i, cat_l, cat_f]) (by simp [lv_args, cat_rv, cat_i, cat_l, cat_f]) (fun C hl hR hC => ?_) h
  subst hl
  generalize mN M = n0 at hC ⊢
  unfold s_m10_tear
  refine Sm.aload_n hC d_m10_tear_0 rfl 0 rfl ?_
  refine Sm.getR hC fl_m10_65 rfl d_m10_tear_1 (fun v1 => ?_)
  refine Sm.callVi 4 (As := []) (st := []) hC hR cw_m4_isMissing (tw_i 426 (by decide +kernel)) (tw_i 427 (by decide +kernel)) (tw_i 428 (by decide +kernel)) ⟨_, rfl, rfl⟩ (fun r9 M9 h9 => ok_m4_isMissing h9) rfl rfl (RW.of ⟨rfl, rfl, by decide, by decide⟩) (by simp) d_m10_tear_4 (fun v2 M3 => ?_)
  refine Sm.if_eq (tgt := 14) hC d_m10_tear_7 (by decide) ?_ ?_
  · refine Sm.iconst (v := 1) hC d_m10_tear_14 (by decide) ?_
    exact w_m10_tear_15 hC hR r0 (1 : Int32) M3
  · refine Sm.iconst (v := 0) hC d_m10_tear_10 (by decide) ?_
    refine Sm.goto (tgt := 15) hC d_m10_tear_11 (by decide) ?_
    exact w_m10_tear_15 hC hR r0 (0 : Int32) M3
/-! NewsWire.row(I)I -/
abbrev b_m10_row : ByteArray := prog_1_method_49_code
def y_m10_row : MethodName := ⟨"NewsWire", "row", "(I)I"⟩
def rm_m10_row : Room := { frames := 2, cells := 0, slots := 0, locals := 81 }
theorem cw_m10_row : CW y_m10_row b_m10_row 2 (some .int) 1 := ⟨tw_i 55 (by decide +kernel), tw_i 851 (by decide +kernel), by decide, by decide, by decide +kernel⟩
theorem d_m10_row_0 : decode b_m10_row 0 = .ok (.aload_n 0, 1) := by decide +kernel
theorem d_m10_row_1 : decode b_m10_row 1 = .ok (.getfield 65, 3) := by decide +kernel
theorem d_m10_row_4 : decode b_m10_row 4 = .ok (.invokevirtual 138, 3) := by decide +kernel
theorem d_m10_row_7 : decode b_m10_row 7 = .ok (.ifCond .eq 10, 3) := by decide +kernel
theorem d_m10_row_10 : decode b_m10_row 10 = .ok (.aload_n 0, 1) := by decide +kernel
theorem d_m10_row_11 : decode b_m10_row 11 = .ok (.bipush (-2), 2) := by decide +kernel
theorem d_m10_row_13 : decode b_m10_row 13 = .ok (.invokevirtual 76, 3) := by decide +kernel
theorem d_m10_row_16 : decode b_m10_row 16 = .ok (.ireturn, 1) := by decide +kernel
theorem d_m10_row_17 : decode b_m10_row 17 = .ok (.iload_n 1, 1) := by decide +kernel
theorem d_m10_row_18 : decode b_m10_row 18 = .ok (.ifCond .lt 14, 3) := by decide +kernel
theorem d_m10_row_21 : decode b_m10_row 21 = .ok (.iload_n 1, 1) := by decide +kernel
theorem d_m10_row_22 : decode b_m10_row 22 = .ok (.aload_n 0, 1) := by decide +kernel
theorem d_m10_row_23 : decode b_m10_row 23 = .ok (.getfield 65, 3) := by decide +kernel
theorem d_m10_row_26 : decode b_m10_row 26 = .ok (.getfield 145, 3) := by decide +kernel
theorem d_m10_row_29 : decode b_m10_row 29 = .ok (.if_icmp .lt 10, 3) := by decide +kernel
theorem d_m10_row_32 : decode b_m10_row 32 = .ok (.aload_n 0, 1) := by decide +kernel
theorem d_m10_row_33 : decode b_m10_row 33 = .ok (.bipush (-3), 2) := by decide +kernel
theorem d_m10_row_35 : decode b_m10_row 35 = .ok (.invokevirtual 76, 3) := by decide +kernel
theorem d_m10_row_38 : decode b_m10_row 38 = .ok (.ireturn, 1) := by decide +kernel
theorem d_m10_row_39 : decode b_m10_row 39 = .ok (.aload_n 0, 1) := by decide +kernel
theorem d_m10_row_40 : decode b_m10_row 40 = .ok (.getfield 65, 3) := by decide +kernel
theorem d_m10_row_43 : decode b_m10_row 43 = .ok (.getfield 123, 3) := by decide +kernel
theorem d_m10_row_46 : decode b_m10_row 46 = .ok (.iload_n 1, 1) := by decide +kernel
theorem d_m10_row_47 : decode b_m10_row 47 = .ok (.iaload, 1) := by decide +kernel
theorem d_m10_row_48 : decode b_m10_row 48 = .ok (.ireturn, 1) := by decide +kernel
def s_m10_row_32  (r0 : Nat) (M : Mm) : Option (Int32 × Mm) := cl (has M r0 20) (s_m10_refuse r0 (-3 : Int32) M) (fun v1 M2 => some (v1, M2))
def s_m10_row (r0 : Nat) (a1 : Int32) (M : Mm) : Option (Int32 × Mm) := gR M r0 20 8 (fun v1 => cl (has M v1 14) (s_m4_isMissing v1 M) (fun v2 M3 => (if v2 = 0 then (if a1 < 0 then s_m10_row_32 r0 M3 else gR M3 r0 20 8 (fun v4 => gI M3 v4 14 1 (fun v5 => (if a1 < v5 then gR M3 r0 20 8 (fun v6 => gR M3 v6 14 0 (fun v7 => aI M3 v7 0 a1 (fun v8 => some (v8, M3)))) else s_m10_row_32 r0 M3)))) else cl (has M3 r0 20) (s_m10_refuse r0 (-2 : Int32) M3) (fun v9 M10 => some (v9, M10)))))
set_option maxRecDepth 100000 in
set_option maxHeartbeats 4000000 in
theorem w_m10_row_32 {V : Ev} {C : Cx} {n0 : Nat} (hC : Cok V C y_m10_row.cls b_m10_row 2 n0 (some .int) y_m10_row.name) (hR : cR C = rm_m10_row)  : ∀ (r0 : Nat) (M : Mm), Sm V C 2 n0 n0 (qI V C) 32 [(0, rv V.1 r0)] [] M (s_m10_row_32 r0 M) := by
  intro r0 M
  unfold s_m10_row_32
  refine Sm.aload_n hC d_m10_row_32 rfl 0 rfl ?_
  refine Sm.bipush (v := -3) hC d_m10_row_33 (by decide) ?_
  refine Sm.callVi 10 (As := [.int (-3 : Int32)]) (st := []) hC hR cw_m10_refuse (tw_i 410 (by decide +kernel)) (tw_i 412 (by decide +kernel)) (tw_i 0 (by decide +kernel)) ⟨_, rfl, rfl⟩ (fun r9 M9 h9 => ok_m10_refuse h9) rfl rfl (RW.of ⟨rfl, rfl, by decide, by decide⟩) (by simp) d_m10_row_35 (fun v1 M2 => ?_)
  exact Sm.iret hC d_m10_row_38 rfl (Nat.sub_self _)
set_option maxRecDepth 100000 in
set_option maxHeartbeats 4000000 in
theorem ok_m10_row {l : Launch} {V : Ev} {M M' : Mm} {r : Int32} {r0 : Nat} {a1 : Int32} (h : s_m10_row r0 a1 M = some (r, M')) : Met l y_m10_row (Cond.code y_m10_row b_m10_row 2 (some .int) :: TW) rm_m10_row (va_Pc [rv V.1 r0, .int a1] (Wd V M)) (QC V (some (.int r)) M' 0) 0 0 (Af V) := by
  refine met_of (fun x : Int32 => some (.int x)) (lv0 := [(0, rv V.1 r0), (1, .int a1)]) (by decide) (by simp [lg_sl, cat_rv, cat_i, cat_l, cat_f]) (by simp [lv_args, cat_rv, cat_i, cat_l, cat_f]) (fun C hl hR hC => ?_) h
  subst hl
  generalize mN M = n0 at hC ⊢
  unfold s_m10_row
  refine Sm.aload_n hC d_m10_row_0 rfl 0 rfl ?_
  refine Sm.getR hC fl_m10_65 rfl d_m10_row_1 (fun v1 => ?_)
  refine Sm.callVi 4 (As := []) (st := []) hC hR cw_m4_isMissing (tw_i 426 (by decide +kernel)) (tw_i 427 (by decide +kernel)) (tw_i 428 (by decide +kernel)) ⟨_, rfl, rfl⟩ (fun r9 M9 h9 => ok_m4_isMissing h9) rfl rfl (RW.of ⟨rfl, rfl, by decide, by decide⟩) (by simp) d_m10_row_4 (fun v2 M3 => ?_)
  refine Sm.if_eq (tgt := 17) hC d_m10_row_7 (by decide) ?_ ?_
  · refine Sm.iload_n hC d_m10_row_17 rfl 1 rfl ?_
    refine Sm.if_lt (tgt := 32) hC d_m10_row_18 (by decide) ?_ ?_
    · refine Sm.sub [0] rfl ?_
      exact w_m10_row_32 hC hR r0 M3
    · refine Sm.iload_n hC d_m10_row_21 rfl 1 rfl ?_
      refine Sm.aload_n hC d_m10_row_22 rfl 0 rfl ?_
      refine Sm.getR hC fl_m10_65 rfl d_m10_row_23 (fun v4 => ?_)
      refine Sm.getI hC fl_m10_145 rfl d_m10_row_26 (fun v5 => ?_)
      refine Sm.icmp_lt (tgt := 39) hC d_m10_row_29 (by decide) ?_ ?_
      · refine Sm.aload_n hC d_m10_row_39 rfl 0 rfl ?_
        refine Sm.getR hC fl_m10_65 rfl d_m10_row_40 (fun v6 => ?_)
        refine Sm.getR hC fl_m10_123 rfl d_m10_row_43 (fun v7 => ?_)
        refine Sm.iload_n hC d_m10_row_46 rfl 1 rfl ?_
        refine Sm.iald hC d_m10_row_47 (fun v8 => ?_)
        exact Sm.iret hC d_m10_row_48 rfl (Nat.sub_self _)
      · refine Sm.sub [0] rfl ?_
        exact w_m10_row_32 hC hR r0 M3
  · refine Sm.aload_n hC d_m10_row_10 rfl 0 rfl ?_
    refine Sm.bipush (v := -2) hC d_m10_row_11 (by decide) ?_
    refine Sm.callVi 10 (As := [.int (-2 : Int32)]) (st := []) hC hR cw_m10_refuse (tw_i 410 (by decide +kernel)) (tw_i 412 (by decide +kernel)) (tw_i 0 (by decide +kernel)) ⟨_, rfl, rfl⟩ (fun r9 M9 h9 => ok_m10_refuse h9) rfl rfl (RW.of ⟨rfl, rfl, by decide, by decide⟩) (by simp) d_m10_row_13 (fun v9 M10 => ?_)
    exact Sm.iret hC d_m10_row_16 rfl (Nat.sub_self _)
/-! NewsWire.copy(III)I -/
abbrev b_m10_copy : ByteArray := prog_1_method_50_code
def y_m10_copy : MethodName := ⟨"NewsWire", "copy", "(III)I"⟩
def rm_m10_copy : Room := { frames := 2, cells := 0, slots := 0, locals := 81 }
theorem cw_m10_copy : CW y_m10_copy b_m10_copy 4 (some .int) 3 := ⟨tw_i 55 (by decide +kernel), tw_i 855 (by decide +kernel), by decide, by decide, by decide +kernel⟩
theorem d_m10_copy_0 : decode b_m10_copy 0 = .ok (.aload_n 0, 1) := by decide +kernel
theorem d_m10_copy_1 : decode b_m10_copy 1 = .ok (.getfield 65, 3) := by decide +kernel
theorem d_m10_copy_4 : decode b_m10_copy 4 = .ok (.invokevirtual 138, 3) := by decide +kernel
theorem d_m10_copy_7 : decode b_m10_copy 7 = .ok (.ifCond .eq 10, 3) := by decide +kernel
theorem d_m10_copy_10 : decode b_m10_copy 10 = .ok (.aload_n 0, 1) := by decide +kernel
theorem d_m10_copy_11 : decode b_m10_copy 11 = .ok (.bipush (-2), 2) := by decide +kernel
theorem d_m10_copy_13 : decode b_m10_copy 13 = .ok (.invokevirtual 76, 3) := by decide +kernel
theorem d_m10_copy_16 : decode b_m10_copy 16 = .ok (.ireturn, 1) := by decide +kernel
theorem d_m10_copy_17 : decode b_m10_copy 17 = .ok (.iload_n 3, 1) := by decide +kernel
theorem d_m10_copy_18 : decode b_m10_copy 18 = .ok (.ifCond .ge 10, 3) := by decide +kernel
theorem d_m10_copy_21 : decode b_m10_copy 21 = .ok (.aload_n 0, 1) := by decide +kernel
theorem d_m10_copy_22 : decode b_m10_copy 22 = .ok (.bipush (-4), 2) := by decide +kernel
theorem d_m10_copy_24 : decode b_m10_copy 24 = .ok (.invokevirtual 76, 3) := by decide +kernel
theorem d_m10_copy_27 : decode b_m10_copy 27 = .ok (.ireturn, 1) := by decide +kernel
theorem d_m10_copy_28 : decode b_m10_copy 28 = .ok (.iload_n 1, 1) := by decide +kernel
theorem d_m10_copy_29 : decode b_m10_copy 29 = .ok (.ifCond .lt 33, 3) := by decide +kernel
theorem d_m10_copy_32 : decode b_m10_copy 32 = .ok (.iload_n 2, 1) := by decide +kernel
theorem d_m10_copy_33 : decode b_m10_copy 33 = .ok (.ifCond .lt 29, 3) := by decide +kernel
theorem d_m10_copy_36 : decode b_m10_copy 36 = .ok (.iload_n 1, 1) := by decide +kernel
theorem d_m10_copy_37 : decode b_m10_copy 37 = .ok (.aload_n 0, 1) := by decide +kernel
theorem d_m10_copy_38 : decode b_m10_copy 38 = .ok (.getfield 65, 3) := by decide +kernel
theorem d_m10_copy_41 : decode b_m10_copy 41 = .ok (.getfield 145, 3) := by decide +kernel
theorem d_m10_copy_44 : decode b_m10_copy 44 = .ok (.iload_n 3, 1) := by decide +kernel
theorem d_m10_copy_45 : decode b_m10_copy 45 = .ok (.isub, 1) := by decide +kernel
theorem d_m10_copy_46 : decode b_m10_copy 46 = .ok (.if_icmp .gt 16, 3) := by decide +kernel
theorem d_m10_copy_49 : decode b_m10_copy 49 = .ok (.iload_n 2, 1) := by decide +kernel
theorem d_m10_copy_50 : decode b_m10_copy 50 = .ok (.aload_n 0, 1) := by decide +kernel
theorem d_m10_copy_51 : decode b_m10_copy 51 = .ok (.getfield 65, 3) := by decide +kernel
theorem d_m10_copy_54 : decode b_m10_copy 54 = .ok (.getfield 145, 3) := by decide +kernel
theorem d_m10_copy_57 : decode b_m10_copy 57 = .ok (.iload_n 3, 1) := by decide +kernel
theorem d_m10_copy_58 : decode b_m10_copy 58 = .ok (.isub, 1) := by decide +kernel
theorem d_m10_copy_59 : decode b_m10_copy 59 = .ok (.if_icmp .le 10, 3) := by decide +kernel
theorem d_m10_copy_62 : decode b_m10_copy 62 = .ok (.aload_n 0, 1) := by decide +kernel
theorem d_m10_copy_63 : decode b_m10_copy 63 = .ok (.bipush (-6), 2) := by decide +kernel
theorem d_m10_copy_65 : decode b_m10_copy 65 = .ok (.invokevirtual 76, 3) := by decide +kernel
theorem d_m10_copy_68 : decode b_m10_copy 68 = .ok (.ireturn, 1) := by decide +kernel
theorem d_m10_copy_69 : decode b_m10_copy 69 = .ok (.aload_n 0, 1) := by decide +kernel
theorem d_m10_copy_70 : decode b_m10_copy 70 = .ok (.getfield 65, 3) := by decide +kernel
theorem d_m10_copy_73 : decode b_m10_copy 73 = .ok (.getfield 123, 3) := by decide +kernel
theorem d_m10_copy_76 : decode b_m10_copy 76 = .ok (.iload_n 1, 1) := by decide +kernel
theorem d_m10_copy_77 : decode b_m10_copy 77 = .ok (.aload_n 0, 1) := by decide +kernel
theorem d_m10_copy_78 : decode b_m10_copy 78 = .ok (.getfield 65, 3) := by decide +kernel
theorem d_m10_copy_81 : decode b_m10_copy 81 = .ok (.getfield 123, 3) := by decide +kernel
theorem d_m10_copy_84 : decode b_m10_copy 84 = .ok (.iload_n 2, 1) := by decide +kernel
theorem d_m10_copy_85 : decode b_m10_copy 85 = .ok (.iload_n 3, 1) := by decide +kernel
theorem d_m10_copy_86 : decode b_m10_copy 86 = .ok (.invokestatic 129, 3) := by decide +kernel
theorem d_m10_copy_89 : decode b_m10_copy 89 = .ok (.iload_n 3, 1) := by decide +kernel
theorem d_m10_copy_90 : decode b_m10_copy 90 = .ok (.ireturn, 1) := by decide +kernel
def s_m10_copy_62  (r0 : Nat) (M : Mm) : Option (Int32 × Mm) := cl (has M r0 20) (s_m10_refuse r0 (-6 : Int32) M) (fun v1 M2 => some (v1, M2))
def s_m10_copy (r0 : Nat) (a1 : Int32) (a2 : Int32) (a3 : Int32) (M : Mm) : Option (Int32 × Mm) := gR M r0 20 8 (fun v1 => cl (has M v1 14) (s_m4_isMissing v1 M) (fun v2 M3 => (if v2 = 0 then (if 0 ≤ a3 then (if a1 < 0 then s_m10_copy_62 r0 M3 else (if a2 < 0 then s_m10_copy_62 r0 M3 else gR M3 r0 20 8 (fun v4 => gI M3 v4 14 1 (fun v5 => (if (v5 - a3) < a1 then s_m10_copy_62 r0 M3 else gR M3 r0 20 8 (fun v6 => gI M3 v6 14 1 (fun v7 => (if a2 ≤ (v7 - a3) then gR M3 r0 20 8 (fun v8 => gR M3 v8 14 0 (fun v9 => gR M3 r0 20 8 (fun v10 => gR M3 v10 14 0 (fun v11 => cp M3 v9 a1 v11 a2 a3 (fun M12 => some (a3, M12)))))) else s_m10_copy_62 r0 M3)))))))) else cl (has M3 r0 20) (s_m10_refuse r0 (-4 : Int32) M3) (fun v13 M14 => some (v13, M14))) else cl (has M3 r0 20) (s_m10_refuse r0 (-2 : Int32) M3) (fun v15 M16 => some (v15, M16)))))
set_option maxRecDepth 100000 in
set_option maxHeartbeats 4000000 in
theorem w_m10_copy_62 {V : Ev} {C : Cx} {n0 : Nat} (hC : Cok V C y_m10_copy.cls b_m10_copy 4 n0 (some .int) y_m10_copy.name) (hR : cR C = rm_m10_copy)  : ∀ (r0 : Nat) (M : Mm), Sm V C 4 n0 n0 (qI V C) 62 [(0, rv V.1 r0)] [] M (s_m10_copy_62 r0 M) := by
  intro r0 M
  unfold s_m10_copy_62
  refine Sm.aload_n hC d_m10_copy_62 rfl 0 rfl ?_
  refine Sm.bipush (v := -6) hC d_m10_copy_63 (by decide) ?_
  refine Sm.callVi 10 (As := [.int (-6 : Int32)]) (st := []) hC hR cw_m10_refuse (tw_i 410 (by decide +kernel)) (tw_i 412 (by decide +kernel)) (tw_i 0 (by decide +kernel)) ⟨_, rfl, rfl⟩ (fun r9 M9 h9 => ok_m10_refuse h9) rfl rfl (RW.of ⟨rfl, rfl, by decide, by decide⟩) (by simp) d_m10_copy_65 (fun v1 M2 => ?_)
  exact Sm.iret hC d_m10_copy_68 rfl (Nat.sub_self _)
set_option maxRecDepth 100000 in
set_option maxHeartbeats 4000000 in
theorem ok_m10_copy {l : Launch} {V : Ev} {M M' : Mm} {r : Int32} {r0 : Nat} {a1 : Int32} {a2 : Int32} {a3 : Int32} (h : s_m10_copy r0 a1 a2 a3 M = some (r, M')) : Met l y_m10_copy (Cond.code y_m10_copy b_m10_copy 4 (some .int) :: TW) rm_m10_copy (va_Pc [rv V.1 r0, .int a1, .int a2, .int a3] (Wd V M)) (QC V (some (.int r)) M' 0) 0 0 (Af V) := by
  refine met_of (fun x : Int32 => some (.int x)) (lv0 := [(0, rv V.1 r0), (1, .int a1), (2, .int a2), (3, .int a3)]) (by decide) (by simp [lg_sl, cat_rv, cat_i, cat_l, cat_f]) (by simp [lv_args, cat_rv, cat_i, cat_l, cat_f]) (fun C hl hR hC => ?_) h
  subst hl
  generalize mN M = n0 at hC ⊢
  unfold s_m10_copy
  refine Sm.aload_n hC d_m10_copy_0 rfl 0 rfl ?_
  refine Sm.getR hC fl_m10_65 rfl d_m10_copy_1 (fun v1 => ?_)
  refine Sm.callVi 4 (As := []) (st := []) hC hR cw_m4_isMissing (tw_i 426 (by decide +kernel)) (tw_i 427 (by decide +kernel)) (tw_i 428 (by decide +kernel)) ⟨_, rfl, rfl⟩ (fun r9 M9 h9 => ok_m4_isMissing h9) rfl rfl (RW.of ⟨rfl, rfl, by decide, by decide⟩) (by simp) d_m10_copy_4 (fun v2 M3 => ?_)
  refine Sm.if_eq (tgt := 17) hC d_m10_copy_7 (by decide) ?_ ?_
  · refine Sm.iload_n hC d_m10_copy_17 rfl 3 rfl ?_
    refine Sm.if_ge (tgt := 28) hC d_m10_copy_18 (by decide) ?_ ?_
    · refine Sm.iload_n hC d_m10_copy_28 rfl 1 rfl ?_
      refine Sm.if_lt (tgt := 62) hC d_m10_copy_29 (by decide) ?_ ?_
      · refine Sm.sub [0] rfl ?_
        exact w_m10_copy_62 hC hR r0 M3
      · refine Sm.iload_n hC d_m10_copy_32 rfl 2 rfl ?_
        refine Sm.if_lt (tgt := 62) hC d_m10_copy_33 (by decide) ?_ ?_
        · refine Sm.sub [0] rfl ?_
          exact w_m10_copy_62 hC hR r0 M3
        · refine Sm.iload_n hC d_m10_copy_36 rfl 1 rfl ?_
          refine Sm.aload_n hC d_m10_copy_37 rfl 0 rfl ?_
          refine Sm.getR hC fl_m10_65 rfl d_m10_copy_38 (fun v4 => ?_)
          refine Sm.getI hC fl_m10_145 rfl d_m10_copy_41 (fun v5 => ?_)
          refine Sm.iload_n hC d_m10_copy_44 rfl 3 rfl ?_
          refine Sm.isub hC d_m10_copy_45 ?_
          refine Sm.icmp_gt (tgt := 62) hC d_m10_copy_46 (by decide) ?_ ?_
          · refine Sm.sub [0] rfl ?_
            exact w_m10_copy_62 hC hR r0 M3
          · refine Sm.iload_n hC d_m10_copy_49 rfl 2 rfl ?_
            refine Sm.aload_n hC d_m10_copy_50 rfl 0 rfl ?_
            refine Sm.getR hC fl_m10_65 rfl d_m10_copy_51 (fun v6 => ?_)
            refine Sm.getI hC fl_m10_145 rfl d_m10_copy_54 (fun v7 => ?_)
            refine Sm.iload_n hC d_m10_copy_57 rfl 3 rfl ?_
            refine Sm.isub hC d_m10_copy_58 ?_
            refine Sm.icmp_le (tgt := 69) hC d_m10_copy_59 (by decide) ?_ ?_
            · refine Sm.aload_n hC d_m10_copy_69 rfl 0 rfl ?_
              refine Sm.getR hC fl_m10_65 rfl d_m10_copy_70 (fun v8 => ?_)
              refine Sm.getR hC fl_m10_123 rfl d_m10_copy_73 (fun v9 => ?_)
              refine Sm.iload_n hC d_m10_copy_76 rfl 1 rfl ?_
              refine Sm.aload_n hC d_m10_copy_77 rfl 0 rfl ?_
              refine Sm.getR hC fl_m10_65 rfl d_m10_copy_78 (fun v10 => ?_)
              refine Sm.getR hC fl_m10_123 rfl d_m10_copy_81 (fun v11 => ?_)
              refine Sm.iload_n hC d_m10_copy_84 rfl 2 rfl ?_
              refine Sm.iload_n hC d_m10_copy_85 rfl 3 rfl ?_
              refine Sm.copy hC hR (tw_i 454 (by decide +kernel)) (tw_i 456 (by decide +kernel)) (tw_i 455 (by decide +kernel)) (tw_i 67 (by decide +kernel)) (by decide) (by decide) (by decide) d_m10_copy_86 (fun M12 => ?_)
              refine Sm.iload_n hC d_m10_copy_89 rfl 3 rfl ?_
              exact Sm.iret hC d_m10_copy_90 rfl (Nat.sub_self _)
            · refine Sm.sub [0] rfl ?_
              exact w_m10_copy_62 hC hR r0 M3
    · refine Sm.aload_n hC d_m10_copy_21 rfl 0 rfl ?_
      refine Sm.bipush (v := -4) hC d_m10_copy_22 (by decide) ?_
      refine Sm.callVi 10 (As := [.int (-4 : Int32)]) (st := []) hC hR cw_m10_refuse (tw_i 410 (by decide +kernel)) (tw_i 412 (by decide +kernel)) (tw_i 0 (by decide +kernel)) ⟨_, rfl, rfl⟩ (fun r9 M9 h9 => ok_m10_refuse h9) rfl rfl (RW.of ⟨rfl, rfl, by decide, by decide⟩) (by simp) d_m10_copy_24 (fun v13 M14 => ?_)
      exact Sm.iret hC d_m10_copy_27 rfl (Nat.sub_self _)
  · refine Sm.aload_n hC d_m10_copy_10 rfl 0 rfl ?_
    refine Sm.bipush (v := -2) hC d_m10_copy_11 (by decide) ?_
    refine Sm.callVi 10 (As := [.int (-2 : Int32)]) (st := []) hC hR cw_m10_refuse (tw_i 410 (by decide +kernel)) (tw_i 412 (by decide +kernel)) (tw_i 0 (by decide +kernel)) ⟨_, rfl, rfl⟩ (fun r9 M9 h9 => ok_m10_refuse h9) rfl rfl (RW.of ⟨rfl, rfl, by decide, by decide⟩) (by simp) d_m10_copy_13 (fun v15 M16 => ?_)
    exact Sm.iret hC d_m10_copy_16 rfl (Nat.sub_self _)
/-! NewsWire.status(I)I -/
abbrev b_m10_status : ByteArray := prog_1_method_51_code
def y_m10_status : MethodName := ⟨"NewsWire", "status", "(I)I"⟩
def rm_m10_status : Room := { frames := 2, cells := 0, slots := 0, locals := 81 }
theorem cw_m10_status : CW y_m10_status b_m10_status 2 (some .int) 1 := ⟨tw_i 55 (by decide +kernel), tw_i 859 (by decide +kernel), by decide, by decide, by decide +kernel⟩
theorem d_m10_status_0 : decode b_m10_status 0 = .ok (.iload_n 1, 1) := by decide +kernel
theorem d_m10_status_1 : decode b_m10_status 1 = .ok (.bipush (-8), 2) := by decide +kernel
theorem d_m10_status_3 : decode b_m10_status 3 = .ok (.if_icmp .lt 9, 3) := by decide +kernel
theorem d_m10_status_6 : decode b_m10_status 6 = .ok (.iload_n 1, 1) := by decide +kernel
theorem d_m10_status_7 : decode b_m10_status 7 = .ok (.bipush (-2), 2) := by decide +kernel
theorem d_m10_status_9 : decode b_m10_status 9 = .ok (.if_icmp .le 10, 3) := by decide +kernel
theorem d_m10_status_12 : decode b_m10_status 12 = .ok (.aload_n 0, 1) := by decide +kernel
theorem d_m10_status_13 : decode b_m10_status 13 = .ok (.bipush (-7), 2) := by decide +kernel
theorem d_m10_status_15 : decode b_m10_status 15 = .ok (.invokevirtual 76, 3) := by decide +kernel
theorem d_m10_status_18 : decode b_m10_status 18 = .ok (.ireturn, 1) := by decide +kernel
theorem d_m10_status_19 : decode b_m10_status 19 = .ok (.aload_n 0, 1) := by decide +kernel
theorem d_m10_status_20 : decode b_m10_status 20 = .ok (.getfield 69, 3) := by decide +kernel
theorem d_m10_status_23 : decode b_m10_status 23 = .ok (.bipush (-2), 2) := by decide +kernel
theorem d_m10_status_25 : decode b_m10_status 25 = .ok (.iload_n 1, 1) := by decide +kernel
theorem d_m10_status_26 : decode b_m10_status 26 = .ok (.isub, 1) := by decide +kernel
theorem d_m10_status_27 : decode b_m10_status 27 = .ok (.iaload, 1) := by decide +kernel
theorem d_m10_status_28 : decode b_m10_status 28 = .ok (.ireturn, 1) := by decide +kernel
def s_m10_status_12  (r0 : Nat) (M : Mm) : Option (Int32 × Mm) := cl (has M r0 20) (s_m10_refuse r0 (-7 : Int32) M) (fun v1 M2 => some (v1, M2))
def s_m10_status (r0 : Nat) (a1 : Int32) (M : Mm) : Option (Int32 × Mm) := (if a1 < (-8 : Int32) then s_m10_status_12 r0 M else (if a1 ≤ (-2 : Int32) then gR M r0 20 9 (fun v1 => aI M v1 0 ((-2 : Int32) - a1) (fun v2 => some (v2, M))) else s_m10_status_12 r0 M))
set_option maxRecDepth 100000 in
set_option maxHeartbeats 4000000 in
theorem w_m10_status_12 {V : Ev} {C : Cx} {n0 : Nat} (hC : Cok V C y_m10_status.cls b_m10_status 2 n0 (some .int) y_m10_status.name) (hR : cR C = rm_m10_status)  : ∀ (r0 : Nat) (M : Mm), Sm V C 2 n0 n0 (qI V C) 12 [(0, rv V.1 r0)] [] M (s_m10_status_12 r0 M) := by
  intro r0 M
  unfold s_m10_status_12
  refine Sm.aload_n hC d_m10_status_12 rfl 0 rfl ?_
  refine Sm.bipush (v := -7) hC d_m10_status_13 (by decide) ?_
  refine Sm.callVi 10 (As := [.int (-7 : Int32)]) (st := []) hC hR cw_m10_refuse (tw_i 410 (by decide +kernel)) (tw_i 412 (by decide +kernel)) (tw_i 0 (by decide +kernel)) ⟨_, rfl, rfl⟩ (fun r9 M9 h9 => ok_m10_refuse h9) rfl rfl (RW.of ⟨rfl, rfl, by decide, by decide⟩) (by simp) d_m10_status_15 (fun v1 M2 => ?_)
  exact Sm.iret hC d_m10_status_18 rfl (Nat.sub_self _)
set_option maxRecDepth 100000 in
set_option maxHeartbeats 4000000 in
theorem ok_m10_status {l : Launch} {V : Ev} {M M' : Mm} {r : Int32} {r0 : Nat} {a1 : Int32} (h : s_m10_status r0 a1 M = some (r, M')) : Met l y_m10_status (Cond.code y_m10_status b_m10_status 2 (some .int) :: TW) rm_m10_status (va_Pc [rv V.1 r0, .int a1] (Wd V M)) (QC V (some (.int r)) M' 0) 0 0 (Af V) := by
  refine met_of (fun x : Int32 => some (.int x)) (lv0 := [(0, rv V.1 r0), (1, .int a1)]) (by decide) (by simp [lg_sl, cat_rv, cat_i, cat_l, cat_f]) (by simp [lv_args, cat_rv, cat_i, cat_l, cat_f]) (fun C hl hR hC => ?_) h
  subst hl
  generalize mN M = n0 at hC ⊢
  unfold s_m10_status
  refine Sm.iload_n hC d_m10_status_0 rfl 1 rfl ?_
  refine Sm.bipush (v := -8) hC d_m10_status_1 (by decide) ?_
  refine Sm.icmp_lt (tgt := 12) hC d_m10_status_3 (by decide) ?_ ?_
  · refine Sm.sub [0] rfl ?_
    exact w_m10_status_12 hC hR r0 M
  · refine Sm.iload_n hC d_m10_status_6 rfl 1 rfl ?_
    refine Sm.bipush (v := -2) hC d_m10_status_7 (by decide) ?_
    refine Sm.icmp_le (tgt := 19) hC d_m10_status_9 (by decide) ?_ ?_
    · refine Sm.aload_n hC d_m10_status_19 rfl 0 rfl ?_
      refine Sm.getR hC fl_m10_69 rfl d_m10_status_20 (fun v1 => ?_)
      refine Sm.bipush (v := -2) hC d_m10_status_23 (by decide) ?_
      refine Sm.iload_n hC d_m10_status_25 rfl 1 rfl ?_
      refine Sm.isub hC d_m10_status_26 ?_
      refine Sm.iald hC d_m10_status_27 (fun v2 => ?_)
      exact Sm.iret hC d_m10_status_28 rfl (Nat.sub_self _)
    · refine Sm.sub [0] rfl ?_
      exact w_m10_status_12 hC hR r0 M
/-! NewsWireModel.in(III)Z -/
abbrev b_m11_in : ByteArray := prog_13_method_3_code
def y_m11_in : MethodName := ⟨"NewsWireModel", "in", "(III)Z"⟩
def rm_m11_in : Room := { frames := 1, cells := 0, slots := 0, locals := 60 }
theorem cw_m11_in : CW y_m11_in b_m11_in 3 (some .boolean) 3 := ⟨tw_i 66 (by decide +kernel), tw_i 1047 (by decide +kernel), by decide, by decide, by decide +kernel⟩
theorem d_m11_in_0 : decode b_m11_in 0 = .ok (.iload_n 0, 1) := by decide +kernel
theorem d_m11_in_1 : decode b_m11_in 1 = .ok (.iload_n 1, 1) := by decide +kernel
theorem d_m11_in_2 : decode b_m11_in 2 = .ok (.if_icmp .lt 12, 3) := by decide +kernel
theorem d_m11_in_5 : decode b_m11_in 5 = .ok (.iload_n 0, 1) := by decide +kernel
theorem d_m11_in_6 : decode b_m11_in 6 = .ok (.iload_n 2, 1) := by decide +kernel
theorem d_m11_in_7 : decode b_m11_in 7 = .ok (.if_icmp .gt 7, 3) := by decide +kernel
theorem d_m11_in_10 : decode b_m11_in 10 = .ok (.iconst 1, 1) := by decide +kernel
theorem d_m11_in_11 : decode b_m11_in 11 = .ok (.goto 4, 3) := by decide +kernel
theorem d_m11_in_14 : decode b_m11_in 14 = .ok (.iconst 0, 1) := by decide +kernel
theorem d_m11_in_15 : decode b_m11_in 15 = .ok (.ireturn, 1) := by decide +kernel
def s_m11_in_15  (t0 : Int32) (M : Mm) : Option (Int32 × Mm) := rz t0 (some (t0, M))
def s_m11_in_14   (M : Mm) : Option (Int32 × Mm) := s_m11_in_15 (0 : Int32) M
def s_m11_in (a0 : Int32) (a1 : Int32) (a2 : Int32) (M : Mm) : Option (Int32 × Mm) := (if a0 < a1 then s_m11_in_14 M else (if a2 < a0 then s_m11_in_14 M else s_m11_in_15 (1 : Int32) M))
set_option maxRecDepth 100000 in
set_option maxHeartbeats 4000000 in
theorem w_m11_in_15 {V : Ev} {C : Cx} {n0 : Nat} (hC : Cok V C y_m11_in.cls b_m11_in 3 n0 (some .boolean) y_m11_in.name) (hR : cR C = rm_m11_in)  : ∀ (t0 : Int32) (M : Mm), Sm V C 3 n0 n0 (qI V C) 15 [] [.int t0] M (s_m11_in_15 t0 M) := by
  intro t0 M
  unfold s_m11_in_15
  exact Sm.zret hC d_m11_in_15 rfl (Nat.sub_self _)
set_option maxRecDepth 100000 in
set_option maxHeartbeats 4000000 in
theorem w_m11_in_14 {V : Ev} {C : Cx} {n0 : Nat} (hC : Cok V C y_m11_in.cls b_m11_in 3 n0 (some .boolean) y_m11_in.name) (hR : cR C = rm_m11_in)  : ∀  (M : Mm), Sm V C 3 n0 n0 (qI V C) 14 [] [] M (s_m11_in_14 M) := by
  intro M
  unfold s_m11_in_14
  refine Sm.iconst (v := 0) hC d_m11_in_14 (by decide) ?_
  exact w_m11_in_15 hC hR (0 : Int32) M
set_option maxRecDepth 100000 in
set_option maxHeartbeats 4000000 in
theorem ok_m11_in {l : Launch} {V : Ev} {M M' : Mm} {r : Int32} {a0 : Int32} {a1 : Int32} {a2 : Int32} (h : s_m11_in a0 a1 a2 M = some (r, M')) : Met l y_m11_in (Cond.code y_m11_in b_m11_in 3 (some .boolean) :: TW) rm_m11_in (va_Pc [.int a0, .int a1, .int a2] (Wd V M)) (QC V (some (.int r)) M' 0) 0 0 (Af V) := by
  refine met_of (fun x : Int32 => some (.int x)) (lv0 := [(0, .int a0), (1, .int a1), (2, .int a2)]) (by decide) (by simp [lg_sl, cat_rv, cat_i, cat_l, cat_f]) (by simp [lv_args, cat_rv, cat_i, cat_l, cat_f]) (fun C hl hR hC => ?_) h
  subst hl
  generalize mN M = n0 at hC ⊢
  unfold s_m11_in
  refine Sm.iload_n hC d_m11_in_0 rfl 0 rfl ?_
  refine Sm.iload_n hC d_m11_in_1 rfl 1 rfl ?_
  refine Sm.icmp_lt (tgt := 14) hC d_m11_in_2 (by decide) ?_ ?_
  · refine Sm.sub [] rfl ?_
    exact w_m11_in_14 hC hR M
  · refine Sm.iload_n hC d_m11_in_5 rfl 0 rfl ?_
    refine Sm.iload_n hC d_m11_in_6 rfl 2 rfl ?_
    refine Sm.icmp_gt (tgt := 14) hC d_m11_in_7 (by decide) ?_ ?_
    · refine Sm.sub [] rfl ?_
      exact w_m11_in_14 hC hR M
    · refine Sm.iconst (v := 1) hC d_m11_in_10 (by decide) ?_
      refine Sm.goto (tgt := 15) hC d_m11_in_11 (by decide) ?_
      refine Sm.sub [] rfl ?_
      exact w_m11_in_15 hC hR (1 : Int32) M
/-! NewsWireModel.refused(I)I -/
theorem fl_m11_7 : FL "NewsWireModel" 7 11 1 2 true (.array .int) := ⟨_, _, _, _, rfl, in_c11, ty_c11, nm_c11, by decide, rfl, tw_i 866 (by decide +kernel), rfl, rfl, rfl, rfl⟩
abbrev b_m11_refused : ByteArray := prog_13_method_4_code
def y_m11_refused : MethodName := ⟨"NewsWireModel", "refused", "(I)I"⟩
def rm_m11_refused : Room := { frames := 1, cells := 0, slots := 0, locals := 60 }
theorem cw_m11_refused : CW y_m11_refused b_m11_refused 2 (some .int) 1 := ⟨tw_i 66 (by decide +kernel), tw_i 1051 (by decide +kernel), by decide, by decide, by decide +kernel⟩
theorem d_m11_refused_0 : decode b_m11_refused 0 = .ok (.aload_n 0, 1) := by decide +kernel
theorem d_m11_refused_1 : decode b_m11_refused 1 = .ok (.getfield 7, 3) := by decide +kernel
theorem d_m11_refused_4 : decode b_m11_refused 4 = .ok (.iload_n 1, 1) := by decide +kernel
theorem d_m11_refused_5 : decode b_m11_refused 5 = .ok (.ineg, 1) := by decide +kernel
theorem d_m11_refused_6 : decode b_m11_refused 6 = .ok (.dup2, 1) := by decide +kernel
theorem d_m11_refused_7 : decode b_m11_refused 7 = .ok (.iaload, 1) := by decide +kernel
theorem d_m11_refused_8 : decode b_m11_refused 8 = .ok (.iconst 1, 1) := by decide +kernel
theorem d_m11_refused_9 : decode b_m11_refused 9 = .ok (.iadd, 1) := by decide +kernel
theorem d_m11_refused_10 : decode b_m11_refused 10 = .ok (.iastore, 1) := by decide +kernel
theorem d_m11_refused_11 : decode b_m11_refused 11 = .ok (.iload_n 1, 1) := by decide +kernel
theorem d_m11_refused_12 : decode b_m11_refused 12 = .ok (.ireturn, 1) := by decide +kernel
def s_m11_refused (r0 : Nat) (a1 : Int32) (M : Mm) : Option (Int32 × Mm) := gR M r0 21 1 (fun v1 => aI M v1 0 (-a1) (fun v2 => sI M v1 0 (-a1) (v2 + (1 : Int32)) (fun M3 => some (a1, M3))))
set_option maxRecDepth 100000 in
set_option maxHeartbeats 4000000 in
theorem ok_m11_refused {l : Launch} {V : Ev} {M M' : Mm} {r : Int32} {r0 : Nat} {a1 : Int32} (h : s_m11_refused r0 a1 M = some (r, M')) : Met l y_m11_refused (Cond.code y_m11_refused b_m11_refused 2 (some .int) :: TW) rm_m11_refused (va_Pc [rv V.1 r0, .int a1] (Wd V M)) (QC V (some (.int r)) M' 0) 0 0 (Af V) := by
  refine met_of (fun x : Int32 => some (.int x)) (lv0 := [(0, rv V.1 r0), (1, .int a1)]) (by decide) (by simp [lg_sl, cat_rv, cat_i, cat_l, cat_f]) (by simp [lv_args, cat_rv, cat_i, cat_l, cat_f]) (fun C hl hR hC => ?_) h
  subst hl
  generalize mN M = n0 at hC ⊢
  unfold s_m11_refused
  refine Sm.aload_n hC d_m11_refused_0 rfl 0 rfl ?_
  refine Sm.getR hC fl_m11_7 rfl d_m11_refused_1 (fun v1 => ?_)
  refine Sm.iload_n hC d_m11_refused_4 rfl 1 rfl ?_
  refine Sm.ineg hC d_m11_refused_5 ?_
  refine Sm.dup2 hC d_m11_refused_6 rfl (cat_rv _ _) ?_
  refine Sm.iald hC d_m11_refused_7 (fun v2 => ?_)
  refine Sm.iconst (v := 1) hC d_m11_refused_8 (by decide) ?_
  refine Sm.iadd hC d_m11_refused_9 ?_
  refine Sm.iast hC d_m11_refused_10 (fun M3 => ?_)
  refine Sm.iload_n hC d_m11_refused_11 rfl 1 rfl ?_
  exact Sm.iret hC d_m11_refused_12 rfl (Nat.sub_self _)
/-! NewsWireModel.status(I)I -/
abbrev b_m11_status : ByteArray := prog_13_method_5_code
def y_m11_status : MethodName := ⟨"NewsWireModel", "status", "(I)I"⟩
def rm_m11_status : Room := { frames := 2, cells := 0, slots := 0, locals := 82 }
theorem cw_m11_status : CW y_m11_status b_m11_status 2 (some .int) 1 := ⟨tw_i 66 (by decide +kernel), tw_i 1044 (by decide +kernel), by decide, by decide, by decide +kernel⟩
theorem d_m11_status_0 : decode b_m11_status 0 = .ok (.iload_n 1, 1) := by decide +kernel
theorem d_m11_status_1 : decode b_m11_status 1 = .ok (.bipush (-8), 2) := by decide +kernel
theorem d_m11_status_3 : decode b_m11_status 3 = .ok (.bipush (-2), 2) := by decide +kernel
theorem d_m11_status_5 : decode b_m11_status 5 = .ok (.invokestatic 135, 3) := by decide +kernel
theorem d_m11_status_8 : decode b_m11_status 8 = .ok (.ifCond .eq 13, 3) := by decide +kernel
theorem d_m11_status_11 : decode b_m11_status 11 = .ok (.aload_n 0, 1) := by decide +kernel
theorem d_m11_status_12 : decode b_m11_status 12 = .ok (.getfield 7, 3) := by decide +kernel
theorem d_m11_status_15 : decode b_m11_status 15 = .ok (.iload_n 1, 1) := by decide +kernel
theorem d_m11_status_16 : decode b_m11_status 16 = .ok (.ineg, 1) := by decide +kernel
theorem d_m11_status_17 : decode b_m11_status 17 = .ok (.iaload, 1) := by decide +kernel
theorem d_m11_status_18 : decode b_m11_status 18 = .ok (.goto 9, 3) := by decide +kernel
theorem d_m11_status_21 : decode b_m11_status 21 = .ok (.aload_n 0, 1) := by decide +kernel
theorem d_m11_status_22 : decode b_m11_status 22 = .ok (.bipush (-7), 2) := by decide +kernel
theorem d_m11_status_24 : decode b_m11_status 24 = .ok (.invokevirtual 139, 3) := by decide +kernel
theorem d_m11_status_27 : decode b_m11_status 27 = .ok (.ireturn, 1) := by decide +kernel
def s_m11_status_27  (t0 : Int32) (M : Mm) : Option (Int32 × Mm) := some (t0, M)
def s_m11_status (r0 : Nat) (a1 : Int32) (M : Mm) : Option (Int32 × Mm) := cl true (s_m11_in a1 (-8 : Int32) (-2 : Int32) M) (fun v1 M2 => (if v1 = 0 then cl (has M2 r0 21) (s_m11_refused r0 (-7 : Int32) M2) (fun v3 M4 => s_m11_status_27 v3 M4) else gR M2 r0 21 1 (fun v5 => aI M2 v5 0 (-a1) (fun v6 => s_m11_status_27 v6 M2))))
set_option maxRecDepth 100000 in
set_option maxHeartbeats 4000000 in
theorem w_m11_status_27 {V : Ev} {C : Cx} {n0 : Nat} (hC : Cok V C y_m11_status.cls b_m11_status 2 n0 (some .int) y_m11_status.name) (hR : cR C = rm_m11_status)  : ∀ (t0 : Int32) (M : Mm), Sm V C 2 n0 n0 (qI V C) 27 [] [.int t0] M (s_m11_status_27 t0 M) := by
  intro t0 M
  unfold s_m11_status_27
  exact Sm.iret hC d_m11_status_27 rfl (Nat.sub_self _)
set_option maxRecDepth 100000 in
set_option maxHeartbeats 4000000 in
theorem ok_m11_status {l : Launch} {V : Ev} {M M' : Mm} {r : Int32} {r0 : Nat} {a1 : Int32} (h : s_m11_status r0 a1 M = some (r, M')) : Met l y_m11_status (Cond.code y_m11_status b_m11_status 2 (some .int) :: TW) rm_m11_status (va_Pc [rv V.1 r0, .int a1] (Wd V M)) (QC V (some (.int r)) M' 0) 0 0 (Af V) := by
  refine met_of (fun x : Int32 => some (.int x)) (lv0 := [(0, rv V.1 r0), (1, .int a1)]) (by decide) (by simp [lg_sl, cat_rv, cat_i, cat_l, cat_f]) (by simp [lv_args, cat_rv, cat_i, cat_l, cat_f]) (fun C hl hR hC => ?_) h
  subst hl
  generalize mN M = n0 at hC ⊢
  unfold s_m11_status
  refine Sm.iload_n hC d_m11_status_0 rfl 1 rfl ?_
  refine Sm.bipush (v := -8) hC d_m11_status_1 (by decide) ?_
  refine Sm.bipush (v := -2) hC d_m11_status_3 (by decide) ?_
  refine Sm.callSi (As := [.int a1, .int (-8 : Int32), .int (-2 : Int32)]) (st := []) hC hR cw_m11_in (tw_i 1045 (by decide +kernel)) (tw_i 1046 (by decide +kernel)) (fun r9 M9 h9 => ok_m11_in h9) rfl rfl (RW.of ⟨rfl, rfl, by decide, by decide⟩) (by simp) d_m11_status_5 (fun v1 M2 => ?_)
  refine Sm.if_eq (tgt := 21) hC d_m11_status_8 (by decide) ?_ ?_
  · refine Sm.aload_n hC d_m11_status_21 rfl 0 rfl ?_
    refine Sm.bipush (v := -7) hC d_m11_status_22 (by decide) ?_
    refine Sm.callVi 11 (As := [.int (-7 : Int32)]) (st := []) hC hR cw_m11_refused (tw_i 1048 (by decide +kernel)) (tw_i 1050 (by decide +kernel)) (tw_i 23 (by decide +kernel)) ⟨_, rfl, rfl⟩ (fun r9 M9 h9 => ok_m11_refused h9) rfl rfl (RW.of ⟨rfl, rfl, by decide, by decide⟩) (by simp) d_m11_status_24 (fun v3 M4 => ?_)
    refine Sm.sub [] rfl ?_
    exact w_m11_status_27 hC hR v3 M4
  · refine Sm.aload_n hC d_m11_status_11 rfl 0 rfl ?_
    refine Sm.getR hC fl_m11_7 rfl d_m11_status_12 (fun v5 => ?_)
    refine Sm.iload_n hC d_m11_status_15 rfl 1 rfl ?_
    refine Sm.ineg hC d_m11_status_16 ?_
    refine Sm.iald hC d_m11_status_17 (fun v6 => ?_)
    refine Sm.goto (tgt := 27) hC d_m11_status_18 (by decide) ?_
    refine Sm.sub [] rfl ?_
    exact w_m11_status_27 hC hR v6 M2
/-! NewsWireModel.isPiece(I)Z -/
theorem fl_m11_143 : FL "NewsWireModel" 143 11 6 0 false .int := ⟨_, _, _, _, rfl, in_c11, ty_c11, nm_c11, by decide, rfl, tw_i 871 (by decide +kernel), rfl, rfl, rfl, rfl⟩
abbrev b_m11_isPiece : ByteArray := prog_13_method_6_code
def y_m11_isPiece : MethodName := ⟨"NewsWireModel", "isPiece", "(I)Z"⟩
def rm_m11_isPiece : Room := { frames := 2, cells := 0, slots := 0, locals := 82 }
theorem cw_m11_isPiece : CW y_m11_isPiece b_m11_isPiece 2 (some .boolean) 1 := ⟨tw_i 66 (by decide +kernel), tw_i 1063 (by decide +kernel), by decide, by decide, by decide +kernel⟩
theorem d_m11_isPiece_0 : decode b_m11_isPiece 0 = .ok (.iload_n 1, 1) := by decide +kernel
theorem d_m11_isPiece_1 : decode b_m11_isPiece 1 = .ok (.iconst 0, 1) := by decide +kernel
theorem d_m11_isPiece_2 : decode b_m11_isPiece 2 = .ok (.aload_n 0, 1) := by decide +kernel
theorem d_m11_isPiece_3 : decode b_m11_isPiece 3 = .ok (.getfield 143, 3) := by decide +kernel
theorem d_m11_isPiece_6 : decode b_m11_isPiece 6 = .ok (.iconst 1, 1) := by decide +kernel
theorem d_m11_isPiece_7 : decode b_m11_isPiece 7 = .ok (.isub, 1) := by decide +kernel
theorem d_m11_isPiece_8 : decode b_m11_isPiece 8 = .ok (.invokestatic 135, 3) := by decide +kernel
theorem d_m11_isPiece_11 : decode b_m11_isPiece 11 = .ok (.ireturn, 1) := by decide +kernel
def s_m11_isPiece (r0 : Nat) (a1 : Int32) (M : Mm) : Option (Int32 × Mm) := gI M r0 21 6 (fun v1 => cl true (s_m11_in a1 (0 : Int32) (v1 - (1 : Int32)) M) (fun v2 M3 => rz v2 (some (v2, M3))))
set_option maxRecDepth 100000 in
set_option maxHeartbeats 4000000 in
theorem ok_m11_isPiece {l : Launch} {V : Ev} {M M' : Mm} {r : Int32} {r0 : Nat} {a1 : Int32} (h : s_m11_isPiece r0 a1 M = some (r, M')) : Met l y_m11_isPiece (Cond.code y_m11_isPiece b_m11_isPiece 2 (some .boolean) :: TW) rm_m11_isPiece (va_Pc [rv V.1 r0, .int a1] (Wd V M)) (QC V (some (.int r)) M' 0) 0 0 (Af V) := by
  refine met_of (fun x : Int32 => some (.int x)) (lv0 := [(0, rv V.1 r0), (1, .int a1)]) (by decide) (by simp [lg_sl, cat_rv, cat_i, cat_l, cat_f]) (by simp [lv_args, cat_rv, cat_i, cat_l, cat_f]) (fun C hl hR hC => ?_) h
  subst hl
  generalize mN M = n0 at hC ⊢
  unfold s_m11_isPiece
  refine Sm.iload_n hC d_m11_isPiece_0 rfl 1 rfl ?_
  refine Sm.iconst (v := 0) hC d_m11_isPiece_1 (by decide) ?_
  refine Sm.aload_n hC d_m11_isPiece_2 rfl 0 rfl ?_
  refine Sm.getI hC fl_m11_143 rfl d_m11_isPiece_3 (fun v1 => ?_)
  refine Sm.iconst (v := 1) hC d_m11_isPiece_6 (by decide) ?_
  refine Sm.isub hC d_m11_isPiece_7 ?_
  refine Sm.callSi (As := [.int a1, .int (0 : Int32), .int (v1 - (1 : Int32))]) (st := []) hC hR cw_m11_in (tw_i 1045 (by decide +kernel)) (tw_i 1046 (by decide +kernel)) (fun r9 M9 h9 => ok_m11_in h9) rfl rfl (RW.of ⟨rfl, rfl, by decide, by decide⟩) (by simp) d_m11_isPiece_8 (fun v2 M3 => ?_)
  exact Sm.zret hC d_m11_isPiece_11 rfl (Nat.sub_self _)
/-! NewsWireModel.isWire(I)Z -/
theorem fl_m11_146 : FL "NewsWireModel" 146 11 2 0 false .int := ⟨_, _, _, _, rfl, in_c11, ty_c11, nm_c11, by decide, rfl, tw_i 867 (by decide +kernel), rfl, rfl, rfl, rfl⟩
abbrev b_m11_isWire : ByteArray := prog_13_method_7_code
def y_m11_isWire : MethodName := ⟨"NewsWireModel", "isWire", "(I)Z"⟩
def rm_m11_isWire : Room := { frames := 2, cells := 0, slots := 0, locals := 82 }
theorem cw_m11_isWire : CW y_m11_isWire b_m11_isWire 2 (some .boolean) 1 := ⟨tw_i 66 (by decide +kernel), tw_i 1164 (by decide +kernel), by decide, by decide, by decide +kernel⟩
theorem d_m11_isWire_0 : decode b_m11_isWire 0 = .ok (.iload_n 1, 1) := by decide +kernel
theorem d_m11_isWire_1 : decode b_m11_isWire 1 = .ok (.iconst 0, 1) := by decide +kernel
theorem d_m11_isWire_2 : decode b_m11_isWire 2 = .ok (.aload_n 0, 1) := by decide +kernel
theorem d_m11_isWire_3 : decode b_m11_isWire 3 = .ok (.getfield 146, 3) := by decide +kernel
theorem d_m11_isWire_6 : decode b_m11_isWire 6 = .ok (.iconst 1, 1) := by decide +kernel
theorem d_m11_isWire_7 : decode b_m11_isWire 7 = .ok (.isub, 1) := by decide +kernel
theorem d_m11_isWire_8 : decode b_m11_isWire 8 = .ok (.invokestatic 135, 3) := by decide +kernel
theorem d_m11_isWire_11 : decode b_m11_isWire 11 = .ok (.ireturn, 1) := by decide +kernel
def s_m11_isWire (r0 : Nat) (a1 : Int32) (M : Mm) : Option (Int32 × Mm) := gI M r0 21 2 (fun v1 => cl true (s_m11_in a1 (0 : Int32) (v1 - (1 : Int32)) M) (fun v2 M3 => rz v2 (some (v2, M3))))
set_option maxRecDepth 100000 in
set_option maxHeartbeats 4000000 in
theorem ok_m11_isWire {l : Launch} {V : Ev} {M M' : Mm} {r : Int32} {r0 : Nat} {a1 : Int32} (h : s_m11_isWire r0 a1 M = some (r, M')) : Met l y_m11_isWire (Cond.code y_m11_isWire b_m11_isWire 2 (some .boolean) :: TW) rm_m11_isWire (va_Pc [rv V.1 r0, .int a1] (Wd V M)) (QC V (some (.int r)) M' 0) 0 0 (Af V) := by
  refine met_of (fun x : Int32 => some (.int x)) (lv0 := [(0, rv V.1 r0), (1, .int a1)]) (by decide) (by simp [lg_sl, cat_rv, cat_i, cat_l, cat_f]) (by simp [lv_args, cat_rv, cat_i, cat_l, cat_f]) (fun C hl hR hC => ?_) h
  subst hl
  generalize mN M = n0 at hC ⊢
  unfold s_m11_isWire
  refine Sm.iload_n hC d_m11_isWire_0 rfl 1 rfl ?_
  refine Sm.iconst (v := 0) hC d_m11_isWire_1 (by decide) ?_
  refine Sm.aload_n hC d_m11_isWire_2 rfl 0 rfl ?_
  refine Sm.getI hC fl_m11_146 rfl d_m11_isWire_3 (fun v1 => ?_)
  refine Sm.iconst (v := 1) hC d_m11_isWire_6 (by decide) ?_
  refine Sm.isub hC d_m11_isWire_7 ?_
  refine Sm.callSi (As := [.int a1, .int (0 : Int32), .int (v1 - (1 : Int32))]) (st := []) hC hR cw_m11_in (tw_i 1045 (by decide +kernel)) (tw_i 1046 (by decide +kernel)) (fun r9 M9 h9 => ok_m11_in h9) rfl rfl (RW.of ⟨rfl, rfl, by decide, by decide⟩) (by simp) d_m11_isWire_8 (fun v2 M3 => ?_)
  exact Sm.zret hC d_m11_isWire_11 rfl (Nat.sub_self _)
/-! NewsWireModel.isPaper(I)Z -/
abbrev b_m11_isPaper : ByteArray := prog_13_method_8_code
def y_m11_isPaper : MethodName := ⟨"NewsWireModel", "isPaper", "(I)Z"⟩
def rm_m11_isPaper : Room := { frames := 2, cells := 0, slots := 0, locals := 82 }
theorem cw_m11_isPaper : CW y_m11_isPaper b_m11_isPaper 1 (some .boolean) 1 := ⟨tw_i 66 (by decide +kernel), tw_i 1152 (by decide +kernel), by decide, by decide, by decide +kernel⟩
theorem d_m11_isPaper_0 : decode b_m11_isPaper 0 = .ok (.iload_n 0, 1) := by decide +kernel
theorem d_m11_isPaper_1 : decode b_m11_isPaper 1 = .ok (.iconst 0, 1) := by decide +kernel
theorem d_m11_isPaper_2 : decode b_m11_isPaper 2 = .ok (.bipush 7, 2) := by decide +kernel
theorem d_m11_isPaper_4 : decode b_m11_isPaper 4 = .ok (.invokestatic 135, 3) := by decide +kernel
theorem d_m11_isPaper_7 : decode b_m11_isPaper 7 = .ok (.ireturn, 1) := by decide +kernel
def s_m11_isPaper (a0 : Int32) (M : Mm) : Option (Int32 × Mm) := cl true (s_m11_in a0 (0 : Int32) (7 : Int32) M) (fun v1 M2 => rz v1 (some (v1, M2)))
set_option maxRecDepth 100000 in
set_option maxHeartbeats 4000000 in
theorem ok_m11_isPaper {l : Launch} {V : Ev} {M M' : Mm} {r : Int32} {a0 : Int32} (h : s_m11_isPaper a0 M = some (r, M')) : Met l y_m11_isPaper (Cond.code y_m11_isPaper b_m11_isPaper 1 (some .boolean) :: TW) rm_m11_isPaper (va_Pc [.int a0] (Wd V M)) (QC V (some (.int r)) M' 0) 0 0 (Af V) := by
  refine met_of (fun x : Int32 => some (.int x)) (lv0 := [(0, .int a0)]) (by decide) (by simp [lg_sl, cat_rv, cat_i, cat_l, cat_f]) (by simp [lv_args, cat_rv, cat_i, cat_l, cat_f]) (fun C hl hR hC => ?_) h
  subst hl
  generalize mN M = n0 at hC ⊢
  unfold s_m11_isPaper
  refine Sm.iload_n hC d_m11_isPaper_0 rfl 0 rfl ?_
  refine Sm.iconst (v := 0) hC d_m11_isPaper_1 (by decide) ?_
  refine Sm.bipush (v := 7) hC d_m11_isPaper_2 (by decide) ?_
  refine Sm.callSi (As := [.int a0, .int (0 : Int32), .int (7 : Int32)]) (st := []) hC hR cw_m11_in (tw_i 1045 (by decide +kernel)) (tw_i 1046 (by decide +kernel)) (fun r9 M9 h9 => ok_m11_in h9) rfl rfl (RW.of ⟨rfl, rfl, by decide, by decide⟩) (by simp) d_m11_isPaper_4 (fun v1 M2 => ?_)
  exact Sm.zret hC d_m11_isPaper_7 rfl (Nat.sub_self _)
/-! NewsWireModel.wire(III)I -/
theorem fl_m11_13 : FL "NewsWireModel" 13 11 3 2 true (.array .int) := ⟨_, _, _, _, rfl, in_c11, ty_c11, nm_c11, by decide, rfl, tw_i 868 (by decide +kernel), rfl, rfl, rfl, rfl⟩
theorem fl_m11_16 : FL "NewsWireModel" 16 11 4 2 true (.array .int) := ⟨_, _, _, _, rfl, in_c11, ty_c11, nm_c11, by decide, rfl, tw_i 869 (by decide +kernel), rfl, rfl, rfl, rfl⟩
theorem fl_m11_19 : FL "NewsWireModel" 19 11 5 2 true (.array .int) := ⟨_, _, _, _, rfl, in_c11, ty_c11, nm_c11, by decide, rfl, tw_i 870 (by decide +kernel), rfl, rfl, rfl, rfl⟩
theorem fl_m11_76 : FL "NewsWireModel" 76 11 32 2 true (.array .int) := ⟨_, _, _, _, rfl, in_c11, ty_c11, nm_c11, by decide, rfl, tw_i 897 (by decide +kernel), rfl, rfl, rfl, rfl⟩
abbrev b_m11_wire : ByteArray := prog_13_method_9_code
def y_m11_wire : MethodName := ⟨"NewsWireModel", "wire", "(III)I"⟩
def rm_m11_wire : Room := { frames := 2, cells := 0, slots := 0, locals := 82 }
theorem cw_m11_wire : CW y_m11_wire b_m11_wire 4 (some .int) 3 := ⟨tw_i 66 (by decide +kernel), tw_i 1055 (by decide +kernel), by decide, by decide, by decide +kernel⟩
theorem d_m11_wire_0 : decode b_m11_wire 0 = .ok (.iload_n 1, 1) := by decide +kernel
theorem d_m11_wire_1 : decode b_m11_wire 1 = .ok (.iconst 0, 1) := by decide +kernel
theorem d_m11_wire_2 : decode b_m11_wire 2 = .ok (.iconst 5, 1) := by decide +kernel
theorem d_m11_wire_3 : decode b_m11_wire 3 = .ok (.invokestatic 135, 3) := by decide +kernel
theorem d_m11_wire_6 : decode b_m11_wire 6 = .ok (.ifCond .ne 10, 3) := by decide +kernel
theorem d_m11_wire_9 : decode b_m11_wire 9 = .ok (.aload_n 0, 1) := by decide +kernel
theorem d_m11_wire_10 : decode b_m11_wire 10 = .ok (.bipush (-3), 2) := by decide +kernel
theorem d_m11_wire_12 : decode b_m11_wire 12 = .ok (.invokevirtual 139, 3) := by decide +kernel
theorem d_m11_wire_15 : decode b_m11_wire 15 = .ok (.ireturn, 1) := by decide +kernel
theorem d_m11_wire_16 : decode b_m11_wire 16 = .ok (.iload_n 2, 1) := by decide +kernel
theorem d_m11_wire_17 : decode b_m11_wire 17 = .ok (.iconst 1, 1) := by decide +kernel
theorem d_m11_wire_18 : decode b_m11_wire 18 = .ok (.sipush 255, 3) := by decide +kernel
theorem d_m11_wire_21 : decode b_m11_wire 21 = .ok (.invokestatic 135, 3) := by decide +kernel
theorem d_m11_wire_24 : decode b_m11_wire 24 = .ok (.ifCond .eq 13, 3) := by decide +kernel
theorem d_m11_wire_27 : decode b_m11_wire 27 = .ok (.iload_n 3, 1) := by decide +kernel
theorem d_m11_wire_28 : decode b_m11_wire 28 = .ok (.iconst 1, 1) := by decide +kernel
theorem d_m11_wire_29 : decode b_m11_wire 29 = .ok (.bipush 9, 2) := by decide +kernel
theorem d_m11_wire_31 : decode b_m11_wire 31 = .ok (.invokestatic 135, 3) := by decide +kernel
theorem d_m11_wire_34 : decode b_m11_wire 34 = .ok (.ifCond .ne 10, 3) := by decide +kernel
theorem d_m11_wire_37 : decode b_m11_wire 37 = .ok (.aload_n 0, 1) := by decide +kernel
theorem d_m11_wire_38 : decode b_m11_wire 38 = .ok (.bipush (-7), 2) := by decide +kernel
theorem d_m11_wire_40 : decode b_m11_wire 40 = .ok (.invokevirtual 139, 3) := by decide +kernel
theorem d_m11_wire_43 : decode b_m11_wire 43 = .ok (.ireturn, 1) := by decide +kernel
theorem d_m11_wire_44 : decode b_m11_wire 44 = .ok (.aload_n 0, 1) := by decide +kernel
theorem d_m11_wire_45 : decode b_m11_wire 45 = .ok (.getfield 146, 3) := by decide +kernel
theorem d_m11_wire_48 : decode b_m11_wire 48 = .ok (.bipush 6, 2) := by decide +kernel
theorem d_m11_wire_50 : decode b_m11_wire 50 = .ok (.if_icmp .ne 10, 3) := by decide +kernel
theorem d_m11_wire_53 : decode b_m11_wire 53 = .ok (.aload_n 0, 1) := by decide +kernel
theorem d_m11_wire_54 : decode b_m11_wire 54 = .ok (.bipush (-8), 2) := by decide +kernel
theorem d_m11_wire_56 : decode b_m11_wire 56 = .ok (.invokevirtual 139, 3) := by decide +kernel
theorem d_m11_wire_59 : decode b_m11_wire 59 = .ok (.ireturn, 1) := by decide +kernel
theorem d_m11_wire_60 : decode b_m11_wire 60 = .ok (.aload_n 0, 1) := by decide +kernel
theorem d_m11_wire_61 : decode b_m11_wire 61 = .ok (.getfield 13, 3) := by decide +kernel
theorem d_m11_wire_64 : decode b_m11_wire 64 = .ok (.aload_n 0, 1) := by decide +kernel
theorem d_m11_wire_65 : decode b_m11_wire 65 = .ok (.getfield 146, 3) := by decide +kernel
theorem d_m11_wire_68 : decode b_m11_wire 68 = .ok (.iload_n 1, 1) := by decide +kernel
theorem d_m11_wire_69 : decode b_m11_wire 69 = .ok (.iastore, 1) := by decide +kernel
theorem d_m11_wire_70 : decode b_m11_wire 70 = .ok (.aload_n 0, 1) := by decide +kernel
theorem d_m11_wire_71 : decode b_m11_wire 71 = .ok (.getfield 16, 3) := by decide +kernel
theorem d_m11_wire_74 : decode b_m11_wire 74 = .ok (.aload_n 0, 1) := by decide +kernel
theorem d_m11_wire_75 : decode b_m11_wire 75 = .ok (.getfield 146, 3) := by decide +kernel
theorem d_m11_wire_78 : decode b_m11_wire 78 = .ok (.iload_n 2, 1) := by decide +kernel
theorem d_m11_wire_79 : decode b_m11_wire 79 = .ok (.iastore, 1) := by decide +kernel
theorem d_m11_wire_80 : decode b_m11_wire 80 = .ok (.aload_n 0, 1) := by decide +kernel
theorem d_m11_wire_81 : decode b_m11_wire 81 = .ok (.getfield 19, 3) := by decide +kernel
theorem d_m11_wire_84 : decode b_m11_wire 84 = .ok (.aload_n 0, 1) := by decide +kernel
theorem d_m11_wire_85 : decode b_m11_wire 85 = .ok (.getfield 146, 3) := by decide +kernel
theorem d_m11_wire_88 : decode b_m11_wire 88 = .ok (.iload_n 3, 1) := by decide +kernel
theorem d_m11_wire_89 : decode b_m11_wire 89 = .ok (.iastore, 1) := by decide +kernel
theorem d_m11_wire_90 : decode b_m11_wire 90 = .ok (.aload_n 0, 1) := by decide +kernel
theorem d_m11_wire_91 : decode b_m11_wire 91 = .ok (.getfield 76, 3) := by decide +kernel
theorem d_m11_wire_94 : decode b_m11_wire 94 = .ok (.aload_n 0, 1) := by decide +kernel
theorem d_m11_wire_95 : decode b_m11_wire 95 = .ok (.getfield 146, 3) := by decide +kernel
theorem d_m11_wire_98 : decode b_m11_wire 98 = .ok (.iconst 0, 1) := by decide +kernel
theorem d_m11_wire_99 : decode b_m11_wire 99 = .ok (.iastore, 1) := by decide +kernel
theorem d_m11_wire_100 : decode b_m11_wire 100 = .ok (.aload_n 0, 1) := by decide +kernel
theorem d_m11_wire_101 : decode b_m11_wire 101 = .ok (.dup, 1) := by decide +kernel
theorem d_m11_wire_102 : decode b_m11_wire 102 = .ok (.getfield 146, 3) := by decide +kernel
theorem d_m11_wire_105 : decode b_m11_wire 105 = .ok (.iconst 1, 1) := by decide +kernel
theorem d_m11_wire_106 : decode b_m11_wire 106 = .ok (.iadd, 1) := by decide +kernel
theorem d_m11_wire_107 : decode b_m11_wire 107 = .ok (.putfield 146, 3) := by decide +kernel
theorem d_m11_wire_110 : decode b_m11_wire 110 = .ok (.aload_n 0, 1) := by decide +kernel
theorem d_m11_wire_111 : decode b_m11_wire 111 = .ok (.getfield 146, 3) := by decide +kernel
theorem d_m11_wire_114 : decode b_m11_wire 114 = .ok (.iconst 1, 1) := by decide +kernel
theorem d_m11_wire_115 : decode b_m11_wire 115 = .ok (.isub, 1) := by decide +kernel
theorem d_m11_wire_116 : decode b_m11_wire 116 = .ok (.ireturn, 1) := by decide +kernel
def s_m11_wire_37  (r0 : Nat) (M : Mm) : Option (Int32 × Mm) := cl (has M r0 21) (s_m11_refused r0 (-7 : Int32) M) (fun v1 M2 => some (v1, M2))
def s_m11_wire (r0 : Nat) (a1 : Int32) (a2 : Int32) (a3 : Int32) (M : Mm) : Option (Int32 × Mm) := cl true (s_m11_in a1 (0 : Int32) (5 : Int32) M) (fun v1 M2 => (if ¬ v1 = 0 then cl true (s_m11_in a2 (1 : Int32) (255 : Int32) M2) (fun v3 M4 => (if v3 = 0 then s_m11_wire_37 r0 M4 else cl true (s_m11_in a3 (1 : Int32) (9 : Int32) M4) (fun v5 M6 => (if ¬ v5 = 0 then gI M6 r0 21 2 (fun v7 => (if ¬ v7 = (6 : Int32) then gR M6 r0 21 3 (fun v8 => gI M6 r0 21 2 (fun v9 => sI M6 v8 0 v9 a1 (fun M10 => gR M10 r0 21 4 (fun v11 => gI M10 r0 21 2 (fun v12 => sI M10 v11 0 v12 a2 (fun M13 => gR M13 r0 21 5 (fun v14 => gI M13 r0 21 2 (fun v15 => sI M13 v14 0 v15 a3 (fun M16 => gR M16 r0 21 32 (fun v17 => gI M16 r0 21 2 (fun v18 => sI M16 v17 0 v18 (0 : Int32) (fun M19 => gI M19 r0 21 2 (fun v20 => pI M19 r0 21 2 (v20 + (1 : Int32)) (fun M21 => gI M21 r0 21 2 (fun v22 => some (v22 - (1 : Int32), M21)))))))))))))))) else cl (has M6 r0 21) (s_m11_refused r0 (-8 : Int32) M6) (fun v23 M24 => some (v23, M24)))) else s_m11_wire_37 r0 M6)))) else cl (has M2 r0 21) (s_m11_refused r0 (-3 : Int32) M2) (fun v25 M26 => some (v25, M26))))
set_option maxRecDepth 100000 in
set_option maxHeartbeats 4000000 in
theorem w_m11_wire_37 {V : Ev} {C : Cx} {n0 : Nat} (hC : Cok V C y_m11_wire.cls b_m11_wire 4 n0 (some .int) y_m11_wire.name) (hR : cR C = rm_m11_wire)  : ∀ (r0 : Nat) (M : Mm), Sm V C 4 n0 n0 (qI V C) 37 [(0, rv V.1 r0)] [] M (s_m11_wire_37 r0 M) := by
  intro r0 M
  unfold s_m11_wire_37
  refine Sm.aload_n hC d_m11_wire_37 rfl 0 rfl ?_
  refine Sm.bipush (v := -7) hC d_m11_wire_38 (by decide) ?_
  refine Sm.callVi 11 (As := [.int (-7 : Int32)]) (st := []) hC hR cw_m11_refused (tw_i 1048 (by decide +kernel)) (tw_i 1050 (by decide +kernel)) (tw_i 23 (by decide +kernel)) ⟨_, rfl, rfl⟩ (fun r9 M9 h9 => ok_m11_refused h9) rfl rfl (RW.of ⟨rfl, rfl, by decide, by decide⟩) (by simp) d_m11_wire_40 (fun v1 M2 => ?_)
  exact Sm.iret hC d_m11_wire_43 rfl (Nat.sub_self _)
set_option maxRecDepth 100000 in
set_option maxHeartbeats 4000000 in
theorem ok_m11_wire {l : Launch} {V : Ev} {M M' : Mm} {r : Int32} {r0 : Nat} {a1 : Int32} {a2 : Int32} {a3 : Int32} (h : s_m11_wire r0 a1 a2 a3 M = some (r, M')) : Met l y_m11_wire (Cond.code y_m11_wire b_m11_wire 4 (some .int) :: TW) rm_m11_wire (va_Pc [rv V.1 r0, .int a1, .int a2, .int a3] (Wd V M)) (QC V (some (.int r)) M' 0) 0 0 (Af V) := by
  refine met_of (fun x : Int32 => some (.int x)) (lv0 := [(0, rv V.1 r0), (1, .int a1), (2, .int a2), (3, .int a3)]) (by decide) (by simp [lg_sl, cat_rv, cat_i, cat_l, cat_f]) (by simp [lv_args, cat_rv, cat_i, cat_l, cat_f]) (fun C hl hR hC => ?_) h
  subst hl
  generalize mN M = n0 at hC ⊢
  unfold s_m11_wire
  refine Sm.iload_n hC d_m11_wire_0 rfl 1 rfl ?_
  refine Sm.iconst (v := 0) hC d_m11_wire_1 (by decide) ?_
  refine Sm.iconst (v := 5) hC d_m11_wire_2 (by decide) ?_
  refine Sm.callSi (As := [.int a1, .int (0 : Int32), .int (5 : Int32)]) (st := []) hC hR cw_m11_in (tw_i 1045 (by decide +kernel)) (tw_i 1046 (by decide +kernel)) (fun r9 M9 h9 => ok_m11_in h9) rfl rfl (RW.of ⟨rfl, rfl, by decide, by decide⟩) (by simp) d_m11_wire_3 (fun v1 M2 => ?_)
  refine Sm.if_ne (tgt := 16) hC d_m11_wire_6 (by decide) ?_ ?_
  · refine Sm.iload_n hC d_m11_wire_16 rfl 2 rfl ?_
    refine Sm.iconst (v := 1) hC d_m11_wire_17 (by decide) ?_
    refine Sm.sipush (v := 255) hC d_m11_wire_18 (by decide) ?_
    refine Sm.callSi (As := [.int a2, .int (1 : Int32), .int (255 : Int32)]) (st := []) hC hR cw_m11_in (tw_i 1045 (by decide +kernel)) (tw_i 1046 (by decide +kernel)) (fun r9 M9 h9 => ok_m11_in h9) rfl rfl (RW.of ⟨rfl, rfl, by decide, by decide⟩) (by simp) d_m11_wire_21 (fun v3 M4 => ?_)
    refine Sm.if_eq (tgt := 37) hC d_m11_wire_24 (by decide) ?_ ?_
    · refine Sm.sub [0] rfl ?_
      exact w_m11_wire_37 hC hR r0 M4
    · refine Sm.iload_n hC d_m11_wire_27 rfl 3 rfl ?_
      refine Sm.iconst (v := 1) hC d_m11_wire_28 (by decide) ?_
      refine Sm.bipush (v := 9) hC d_m11_wire_29 (by decide) ?_
      refine Sm.callSi (As := [.int a3, .int (1 : Int32), .int (9 : Int32)]) (st := []) hC hR cw_m11_in (tw_i 1045 (by decide +kernel)) (tw_i 1046 (by decide +kernel)) (fun r9 M9 h9 => ok_m11_in h9) rfl rfl (RW.of ⟨rfl, rfl, by decide, by decide⟩) (by simp) d_m11_wire_31 (fun v5 M6 => ?_)
      refine Sm.if_ne (tgt := 44) hC d_m11_wire_34 (by decide) ?_ ?_
      · refine Sm.aload_n hC d_m11_wire_44 rfl 0 rfl ?_
        refine Sm.getI hC fl_m11_146 rfl d_m11_wire_45 (fun v7 => ?_)
        refine Sm.bipush (v := 6) hC d_m11_wire_48 (by decide) ?_
        refine Sm.icmp_ne (tgt := 60) hC d_m11_wire_50 (by decide) ?_ ?_
        · refine Sm.aload_n hC d_m11_wire_60 rfl 0 rfl ?_
          refine Sm.getR hC fl_m11_13 rfl d_m11_wire_61 (fun v8 => ?_)
          refine Sm.aload_n hC d_m11_wire_64 rfl 0 rfl ?_
          refine Sm.getI hC fl_m11_146 rfl d_m11_wire_65 (fun v9 => ?_)
          refine Sm.iload_n hC d_m11_wire_68 rfl 1 rfl ?_
          refine Sm.iast hC d_m11_wire_69 (fun M10 => ?_)
          refine Sm.aload_n hC d_m11_wire_70 rfl 0 rfl ?_
          refine Sm.getR hC fl_m11_16 rfl d_m11_wire_71 (fun v11 => ?_)
          refine Sm.aload_n hC d_m11_wire_74 rfl 0 rfl ?_
          refine Sm.getI hC fl_m11_146 rfl d_m11_wire_75 (fun v12 => ?_)
          refine Sm.iload_n hC d_m11_wire_78 rfl 2 rfl ?_
          refine Sm.iast hC d_m11_wire_79 (fun M13 => ?_)
          refine Sm.aload_n hC d_m11_wire_80 rfl 0 rfl ?_
          refine Sm.getR hC fl_m11_19 rfl d_m11_wire_81 (fun v14 => ?_)
          refine Sm.aload_n hC d_m11_wire_84 rfl 0 rfl ?_
          refine Sm.getI hC fl_m11_146 rfl d_m11_wire_85 (fun v15 => ?_)
          refine Sm.iload_n hC d_m11_wire_88 rfl 3 rfl ?_
          refine Sm.iast hC d_m11_wire_89 (fun M16 => ?_)
          refine Sm.aload_n hC d_m11_wire_90 rfl 0 rfl ?_
          refine Sm.getR hC fl_m11_76 rfl d_m11_wire_91 (fun v17 => ?_)
          refine Sm.aload_n hC d_m11_wire_94 rfl 0 rfl ?_
          refine Sm.getI hC fl_m11_146 rfl d_m11_wire_95 (fun v18 => ?_)
          refine Sm.iconst (v := 0) hC d_m11_wire_98 (by decide) ?_
          refine Sm.iast hC d_m11_wire_99 (fun M19 => ?_)
          refine Sm.aload_n hC d_m11_wire_100 rfl 0 rfl ?_
          refine Sm.dup hC d_m11_wire_101 (cat_rv _ _) ?_
          refine Sm.getI hC fl_m11_146 rfl d_m11_wire_102 (fun v20 => ?_)
          refine Sm.iconst (v := 1) hC d_m11_wire_105 (by decide) ?_
          refine Sm.iadd hC d_m11_wire_106 ?_
          refine Sm.putI hC fl_m11_146 rfl d_m11_wire_107 (fun M21 => ?_)
          refine Sm.aload_n hC d_m11_wire_110 rfl 0 rfl ?_
          refine Sm.getI hC fl_m11_146 rfl d_m11_wire_111 (fun v22 => ?_)
          refine Sm.iconst (v := 1) hC d_m11_wire_114 (by decide) ?_
          refine Sm.isub hC d_m11_wire_115 ?_
          exact Sm.iret hC d_m11_wire_116 rfl (Nat.sub_self _)
        · refine Sm.aload_n hC d_m11_wire_53 rfl 0 rfl ?_
          refine Sm.bipush (v := -8) hC d_m11_wire_54 (by decide) ?_
          refine Sm.callVi 11 (As := [.int (-8 : Int32)]) (st := []) hC hR cw_m11_refused (tw_i 1048 (by decide +kernel)) (tw_i 1050 (by decide +kernel)) (tw_i 23 (by decide +kernel)) ⟨_, rfl, rfl⟩ (fun r9 M9 h9 => ok_m11_refused h9) rfl rfl (RW.of ⟨rfl, rfl, by decide, by decide⟩) (by simp) d_m11_wire_56 (fun v23 M24 => ?_)
          exact Sm.iret hC d_m11_wire_59 rfl (Nat.sub_self _)
      · refine Sm.sub [0] rfl ?_
        exact w_m11_wire_37 hC hR r0 M6
  · refine Sm.aload_n hC d_m11_wire_9 rfl 0 rfl ?_
    refine Sm.bipush (v := -3) hC d_m11_wire_10 (by decide) ?_
    refine Sm.callVi 11 (As := [.int (-3 : Int32)]) (st := []) hC hR cw_m11_refused (tw_i 1048 (by decide +kernel)) (tw_i 1050 (by decide +kernel)) (tw_i 23 (by decide +kernel)) ⟨_, rfl, rfl⟩ (fun r9 M9 h9 => ok_m11_refused h9) rfl rfl (RW.of ⟨rfl, rfl, by decide, by decide⟩) (by simp) d_m11_wire_12 (fun v25 M26 => ?_)
    exact Sm.iret hC d_m11_wire_15 rfl (Nat.sub_self _)
/-! NewsWireModel.isOfPiece(III)Z -/
theorem fl_m11_25 : FL "NewsWireModel" 25 11 8 2 true (.array .int) := ⟨_, _, _, _, rfl, in_c11, ty_c11, nm_c11, by decide, rfl, tw_i 873 (by decide +kernel), rfl, rfl, rfl, rfl⟩
theorem fl_m11_22 : FL "NewsWireModel" 22 11 7 2 true (.array .int) := ⟨_, _, _, _, rfl, in_c11, ty_c11, nm_c11, by decide, rfl, tw_i 872 (by decide +kernel), rfl, rfl, rfl, rfl⟩
abbrev b_m11_isOfPiece : ByteArray := prog_13_method_10_code
def y_m11_isOfPiece : MethodName := ⟨"NewsWireModel", "isOfPiece", "(III)Z"⟩
def rm_m11_isOfPiece : Room := { frames := 1, cells := 0, slots := 0, locals := 60 }
theorem cw_m11_isOfPiece : CW y_m11_isOfPiece b_m11_isOfPiece 4 (some .boolean) 3 := ⟨tw_i 66 (by decide +kernel), tw_i 1068 (by decide +kernel), by decide, by decide, by decide +kernel⟩
theorem d_m11_isOfPiece_0 : decode b_m11_isOfPiece 0 = .ok (.aload_n 0, 1) := by decide +kernel
theorem d_m11_isOfPiece_1 : decode b_m11_isOfPiece 1 = .ok (.getfield 25, 3) := by decide +kernel
theorem d_m11_isOfPiece_4 : decode b_m11_isOfPiece 4 = .ok (.iload_n 3, 1) := by decide +kernel
theorem d_m11_isOfPiece_5 : decode b_m11_isOfPiece 5 = .ok (.iaload, 1) := by decide +kernel
theorem d_m11_isOfPiece_6 : decode b_m11_isOfPiece 6 = .ok (.iload_n 2, 1) := by decide +kernel
theorem d_m11_isOfPiece_7 : decode b_m11_isOfPiece 7 = .ok (.if_icmp .eq 5, 3) := by decide +kernel
theorem d_m11_isOfPiece_10 : decode b_m11_isOfPiece 10 = .ok (.iconst 0, 1) := by decide +kernel
theorem d_m11_isOfPiece_11 : decode b_m11_isOfPiece 11 = .ok (.ireturn, 1) := by decide +kernel
theorem d_m11_isOfPiece_12 : decode b_m11_isOfPiece 12 = .ok (.iload_n 1, 1) := by decide +kernel
theorem d_m11_isOfPiece_13 : decode b_m11_isOfPiece 13 = .ok (.iconst 4, 1) := by decide +kernel
theorem d_m11_isOfPiece_14 : decode b_m11_isOfPiece 14 = .ok (.if_icmp .ne 21, 3) := by decide +kernel
theorem d_m11_isOfPiece_17 : decode b_m11_isOfPiece 17 = .ok (.aload_n 0, 1) := by decide +kernel
theorem d_m11_isOfPiece_18 : decode b_m11_isOfPiece 18 = .ok (.getfield 22, 3) := by decide +kernel
theorem d_m11_isOfPiece_21 : decode b_m11_isOfPiece 21 = .ok (.iload_n 3, 1) := by decide +kernel
theorem d_m11_isOfPiece_22 : decode b_m11_isOfPiece 22 = .ok (.iaload, 1) := by decide +kernel
theorem d_m11_isOfPiece_23 : decode b_m11_isOfPiece 23 = .ok (.iconst 4, 1) := by decide +kernel
theorem d_m11_isOfPiece_24 : decode b_m11_isOfPiece 24 = .ok (.if_icmp .eq 7, 3) := by decide +kernel
theorem d_m11_isOfPiece_27 : decode b_m11_isOfPiece 27 = .ok (.iconst 1, 1) := by decide +kernel
theorem d_m11_isOfPiece_28 : decode b_m11_isOfPiece 28 = .ok (.goto 41, 3) := by decide +kernel
theorem d_m11_isOfPiece_31 : decode b_m11_isOfPiece 31 = .ok (.iconst 0, 1) := by decide +kernel
theorem d_m11_isOfPiece_32 : decode b_m11_isOfPiece 32 = .ok (.goto 37, 3) := by decide +kernel
theorem d_m11_isOfPiece_35 : decode b_m11_isOfPiece 35 = .ok (.aload_n 0, 1) := by decide +kernel
theorem d_m11_isOfPiece_36 : decode b_m11_isOfPiece 36 = .ok (.getfield 22, 3) := by decide +kernel
theorem d_m11_isOfPiece_39 : decode b_m11_isOfPiece 39 = .ok (.iload_n 3, 1) := by decide +kernel
theorem d_m11_isOfPiece_40 : decode b_m11_isOfPiece 40 = .ok (.iaload, 1) := by decide +kernel
theorem d_m11_isOfPiece_41 : decode b_m11_isOfPiece 41 = .ok (.ifCond .eq 23, 3) := by decide +kernel
theorem d_m11_isOfPiece_44 : decode b_m11_isOfPiece 44 = .ok (.aload_n 0, 1) := by decide +kernel
theorem d_m11_isOfPiece_45 : decode b_m11_isOfPiece 45 = .ok (.getfield 22, 3) := by decide +kernel
theorem d_m11_isOfPiece_48 : decode b_m11_isOfPiece 48 = .ok (.iload_n 3, 1) := by decide +kernel
theorem d_m11_isOfPiece_49 : decode b_m11_isOfPiece 49 = .ok (.iaload, 1) := by decide +kernel
theorem d_m11_isOfPiece_50 : decode b_m11_isOfPiece 50 = .ok (.iconst 5, 1) := by decide +kernel
theorem d_m11_isOfPiece_51 : decode b_m11_isOfPiece 51 = .ok (.if_icmp .eq 13, 3) := by decide +kernel
theorem d_m11_isOfPiece_54 : decode b_m11_isOfPiece 54 = .ok (.aload_n 0, 1) := by decide +kernel
theorem d_m11_isOfPiece_55 : decode b_m11_isOfPiece 55 = .ok (.getfield 22, 3) := by decide +kernel
theorem d_m11_isOfPiece_58 : decode b_m11_isOfPiece 58 = .ok (.iload_n 3, 1) := by decide +kernel
theorem d_m11_isOfPiece_59 : decode b_m11_isOfPiece 59 = .ok (.iaload, 1) := by decide +kernel
theorem d_m11_isOfPiece_60 : decode b_m11_isOfPiece 60 = .ok (.iconst 1, 1) := by decide +kernel
theorem d_m11_isOfPiece_61 : decode b_m11_isOfPiece 61 = .ok (.if_icmp .ne 7, 3) := by decide +kernel
theorem d_m11_isOfPiece_64 : decode b_m11_isOfPiece 64 = .ok (.iconst 1, 1) := by decide +kernel
theorem d_m11_isOfPiece_65 : decode b_m11_isOfPiece 65 = .ok (.goto 4, 3) := by decide +kernel
theorem d_m11_isOfPiece_68 : decode b_m11_isOfPiece 68 = .ok (.iconst 0, 1) := by decide +kernel
theorem d_m11_isOfPiece_69 : decode b_m11_isOfPiece 69 = .ok (.ireturn, 1) := by decide +kernel
def s_m11_isOfPiece_69  (t0 : Int32) (M : Mm) : Option (Int32 × Mm) := rz t0 (some (t0, M))
def s_m11_isOfPiece_64   (M : Mm) : Option (Int32 × Mm) := s_m11_isOfPiece_69 (1 : Int32) M
def s_m11_isOfPiece (r0 : Nat) (a1 : Int32) (a2 : Int32) (a3 : Int32) (M : Mm) : Option (Int32 × Mm) := gR M r0 21 8 (fun v1 => aI M v1 0 a3 (fun v2 => (if v2 = a2 then (if ¬ a1 = (4 : Int32) then gR M r0 21 7 (fun v3 => aI M v3 0 a3 (fun v4 => (if v4 = 0 then s_m11_isOfPiece_64 M else gR M r0 21 7 (fun v5 => aI M v5 0 a3 (fun v6 => (if v6 = (5 : Int32) then s_m11_isOfPiece_64 M else gR M r0 21 7 (fun v7 => aI M v7 0 a3 (fun v8 => (if ¬ v8 = (1 : Int32) then s_m11_isOfPiece_69 (0 : Int32) M else s_m11_isOfPiece_64 M))))))))) else gR M r0 21 7 (fun v9 => aI M v9 0 a3 (fun v10 => (if v10 = (4 : Int32) then s_m11_isOfPiece_69 (0 : Int32) M else s_m11_isOfPiece_69 (1 : Int32) M)))) else rz (0 : Int32) (some ((0 : Int32), M)))))
set_option maxRecDepth 100000 in
set_option maxHeartbeats 4000000 in
theorem w_m11_isOfPiece_69 {V : Ev} {C : Cx} {n0 : Nat} (hC : Cok V C y_m11_isOfPiece.cls b_m11_isOfPiece 4 n0 (some .boolean) y_m11_isOfPiece.name) (hR : cR C = rm_m11_isOfPiece)  : ∀ (t0 : Int32) (M : Mm), Sm V C 4 n0 n0 (qI V C) 69 [] [.int t0] M (s_m11_isOfPiece_69 t0 M) := by
  intro t0 M
  unfold s_m11_isOfPiece_69
  exact Sm.zret hC d_m11_isOfPiece_69 rfl (Nat.sub_self _)
set_option maxRecDepth 100000 in
set_option maxHeartbeats 4000000 in
theorem w_m11_isOfPiece_64 {V : Ev} {C : Cx} {n0 : Nat} (hC : Cok V C y_m11_isOfPiece.cls b_m11_isOfPiece 4 n0 (some .boolean) y_m11_isOfPiece.name) (hR : cR C = rm_m11_isOfPiece)  : ∀  (M : Mm), Sm V C 4 n0 n0 (qI V C) 64 [] [] M (s_m11_isOfPiece_64 M) := by
  intro M
  unfold s_m11_isOfPiece_64
  refine Sm.iconst (v := 1) hC d_m11_isOfPiece_64 (by decide) ?_
  refine Sm.goto (tgt := 69) hC d_m11_isOfPiece_65 (by decide) ?_
  exact w_m11_isOfPiece_69 hC hR (1 : Int32) M
set_option maxRecDepth 100000 in
set_option maxHeartbeats 4000000 in
theorem ok_m11_isOfPiece {l : Launch} {V : Ev} {M M' : Mm} {r : Int32} {r0 : Nat} {a1 : Int32} {a2 : Int32} {a3 : Int32} (h : s_m11_isOfPiece r0 a1 a2 a3 M = some (r, M')) : Met l y_m11_isOfPiece (Cond.code y_m11_isOfPiece b_m11_isOfPiece 4 (some .boolean) :: TW) rm_m11_isOfPiece (va_Pc [rv V.1 r0, .int a1, .int a2, .int a3] (Wd V M)) (QC V (some (.int r)) M' 0) 0 0 (Af V) := by
  refine met_of (fun x : Int32 => some (.int x)) (lv0 := [(0, rv V.1 r0), (1, .int a1), (2, .int a2), (3, .int a3)]) (by decide) (by simp [lg_sl, cat_rv, cat_i, cat_l, cat_f]) (by simp [lv_args, cat_rv, cat_i, cat_l, cat_f]) (fun C hl hR hC => ?_) h
  subst hl
  generalize mN M = n0 at hC ⊢
  unfold s_m11_isOfPiece
  refine Sm.aload_n hC d_m11_isOfPiece_0 rfl 0 rfl ?_
  refine Sm.getR hC fl_m11_25 rfl d_m11_isOfPiece_1 (fun v1 => ?_)
  refine Sm.iload_n hC d_m11_isOfPiece_4 rfl 3 rfl ?_
  refine Sm.iald hC d_m11_isOfPiece_5 (fun v2 => ?_)
  refine Sm.iload_n hC d_m11_isOfPiece_6 rfl 2 rfl ?_
  refine Sm.icmp_eq (tgt := 12) hC d_m11_isOfPiece_7 (by decide) ?_ ?_
  · refine Sm.iload_n hC d_m11_isOfPiece_12 rfl 1 rfl ?_
    refine Sm.iconst (v := 4) hC d_m11_isOfPiece_13 (by decide) ?_
    refine Sm.icmp_ne (tgt := 35) hC d_m11_isOfPiece_14 (by decide) ?_ ?_
    · refine Sm.aload_n hC d_m11_isOfPiece_35 rfl 0 rfl ?_
      refine Sm.getR hC fl_m11_22 rfl d_m11_isOfPiece_36 (fun v3 => ?_)
      refine Sm.iload_n hC d_m11_isOfPiece_39 rfl 3 rfl ?_
      refine Sm.iald hC d_m11_isOfPiece_40 (fun v4 => ?_)
      refine Sm.if_eq (tgt := 64) hC d_m11_isOfPiece_41 (by decide) ?_ ?_
      · refine Sm.sub [] rfl ?_
        exact w_m11_isOfPiece_64 hC hR M
      · refine Sm.aload_n hC d_m11_isOfPiece_44 rfl 0 rfl ?_
        refine Sm.getR hC fl_m11_22 rfl d_m11_isOfPiece_45 (fun v5 => ?_)
        refine Sm.iload_n hC d_m11_isOfPiece_48 rfl 3 rfl ?_
        refine Sm.iald hC d_m11_isOfPiece_49 (fun v6 => ?_)
        refine Sm.iconst (v := 5) hC d_m11_isOfPiece_50 (by decide) ?_
        refine Sm.icmp_eq (tgt := 64) hC d_m11_isOfPiece_51 (by decide) ?_ ?_
        · refine Sm.sub [] rfl ?_
          exact w_m11_isOfPiece_64 hC hR M
        · refine Sm.aload_n hC d_m11_isOfPiece_54 rfl 0 rfl ?_
          refine Sm.getR hC fl_m11_22 rfl d_m11_isOfPiece_55 (fun v7 => ?_)
          refine Sm.iload_n hC d_m11_isOfPiece_58 rfl 3 rfl ?_
          refine Sm.iald hC d_m11_isOfPiece_59 (fun v8 => ?_)
          refine Sm.iconst (v := 1) hC d_m11_isOfPiece_60 (by decide) ?_
          refine Sm.icmp_ne (tgt := 68) hC d_m11_isOfPiece_61 (by decide) ?_ ?_
          · refine Sm.iconst (v := 0) hC d_m11_isOfPiece_68 (by decide) ?_
            refine Sm.sub [] rfl ?_
            exact w_m11_isOfPiece_69 hC hR (0 : Int32) M
          · refine Sm.sub [] rfl ?_
            exact w_m11_isOfPiece_64 hC hR M
    · refine Sm.aload_n hC d_m11_isOfPiece_17 rfl 0 rfl ?_
      refine Sm.getR hC fl_m11_22 rfl d_m11_isOfPiece_18 (fun v9 => ?_)
      refine Sm.iload_n hC d_m11_isOfPiece_21 rfl 3 rfl ?_
      refine Sm.iald hC d_m11_isOfPiece_22 (fun v10 => ?_)
      refine Sm.iconst (v := 4) hC d_m11_isOfPiece_23 (by decide) ?_
      refine Sm.icmp_eq (tgt := 31) hC d_m11_isOfPiece_24 (by decide) ?_ ?_
      · refine Sm.iconst (v := 0) hC d_m11_isOfPiece_31 (by decide) ?_
        refine Sm.goto (tgt := 69) hC d_m11_isOfPiece_32 (by decide) ?_
        refine Sm.sub [] rfl ?_
        exact w_m11_isOfPiece_69 hC hR (0 : Int32) M
      · refine Sm.iconst (v := 1) hC d_m11_isOfPiece_27 (by decide) ?_
        refine Sm.goto (tgt := 69) hC d_m11_isOfPiece_28 (by decide) ?_
        refine Sm.sub [] rfl ?_
        exact w_m11_isOfPiece_69 hC hR (1 : Int32) M
  · refine Sm.iconst (v := 0) hC d_m11_isOfPiece_10 (by decide) ?_
    exact Sm.zret hC d_m11_isOfPiece_11 rfl (Nat.sub_self _)
