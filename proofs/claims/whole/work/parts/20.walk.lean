/-! NewsWireModel.rule(II)I -/
theorem fl_m11_55 : FL "NewsWireModel" 55 11 20 2 true (.array .int) := ⟨_, _, _, _, rfl, in_c11, ty_c11, nm_c11, by decide, rfl, tw_i 885 (by decide +kernel), rfl, rfl, rfl, rfl⟩
theorem fl_m11_58 : FL "NewsWireModel" 58 11 21 2 true (.array .int) := ⟨_, _, _, _, rfl, in_c11, ty_c11, nm_c11, by decide, rfl, tw_i 886 (by decide +kernel), rfl, rfl, rfl, rfl⟩
abbrev b_m11_rule : ByteArray := prog_13_method_25_code
def y_m11_rule : MethodName := ⟨"NewsWireModel", "rule", "(II)I"⟩
def rm_m11_rule : Room := { frames := 7, cells := 0, slots := 0, locals := 186 }
theorem cw_m11_rule : CW y_m11_rule b_m11_rule 3 (some .int) 2 := ⟨tw_i 66 (by decide +kernel), tw_i 1088 (by decide +kernel), by decide, by decide, by decide +kernel⟩
theorem d_m11_rule_0 : decode b_m11_rule 0 = .ok (.iload_n 1, 1) := by decide +kernel
theorem d_m11_rule_1 : decode b_m11_rule 1 = .ok (.ifCond .lt 14, 3) := by decide +kernel
theorem d_m11_rule_4 : decode b_m11_rule 4 = .ok (.iload_n 2, 1) := by decide +kernel
theorem d_m11_rule_5 : decode b_m11_rule 5 = .ok (.ldc 156, 2) := by decide +kernel
theorem d_m11_rule_7 : decode b_m11_rule 7 = .ok (.if_icmp .gt 8, 3) := by decide +kernel
theorem d_m11_rule_10 : decode b_m11_rule 10 = .ok (.iload_n 1, 1) := by decide +kernel
theorem d_m11_rule_11 : decode b_m11_rule 11 = .ok (.iload_n 2, 1) := by decide +kernel
theorem d_m11_rule_12 : decode b_m11_rule 12 = .ok (.if_icmp .lt 10, 3) := by decide +kernel
theorem d_m11_rule_15 : decode b_m11_rule 15 = .ok (.aload_n 0, 1) := by decide +kernel
theorem d_m11_rule_16 : decode b_m11_rule 16 = .ok (.bipush (-7), 2) := by decide +kernel
theorem d_m11_rule_18 : decode b_m11_rule 18 = .ok (.invokevirtual 139, 3) := by decide +kernel
theorem d_m11_rule_21 : decode b_m11_rule 21 = .ok (.ireturn, 1) := by decide +kernel
theorem d_m11_rule_22 : decode b_m11_rule 22 = .ok (.aload_n 0, 1) := by decide +kernel
theorem d_m11_rule_23 : decode b_m11_rule 23 = .ok (.getfield 199, 3) := by decide +kernel
theorem d_m11_rule_26 : decode b_m11_rule 26 = .ok (.bipush 10, 2) := by decide +kernel
theorem d_m11_rule_28 : decode b_m11_rule 28 = .ok (.if_icmp .ne 10, 3) := by decide +kernel
theorem d_m11_rule_31 : decode b_m11_rule 31 = .ok (.aload_n 0, 1) := by decide +kernel
theorem d_m11_rule_32 : decode b_m11_rule 32 = .ok (.bipush (-8), 2) := by decide +kernel
theorem d_m11_rule_34 : decode b_m11_rule 34 = .ok (.invokevirtual 139, 3) := by decide +kernel
theorem d_m11_rule_37 : decode b_m11_rule 37 = .ok (.ireturn, 1) := by decide +kernel
theorem d_m11_rule_38 : decode b_m11_rule 38 = .ok (.aload_n 0, 1) := by decide +kernel
theorem d_m11_rule_39 : decode b_m11_rule 39 = .ok (.invokevirtual 208, 3) := by decide +kernel
theorem d_m11_rule_42 : decode b_m11_rule 42 = .ok (.aload_n 0, 1) := by decide +kernel
theorem d_m11_rule_43 : decode b_m11_rule 43 = .ok (.getfield 166, 3) := by decide +kernel
theorem d_m11_rule_46 : decode b_m11_rule 46 = .ok (.ifCond .eq 11, 3) := by decide +kernel
theorem d_m11_rule_49 : decode b_m11_rule 49 = .ok (.bipush (-10), 2) := by decide +kernel
theorem d_m11_rule_51 : decode b_m11_rule 51 = .ok (.aload_n 0, 1) := by decide +kernel
theorem d_m11_rule_52 : decode b_m11_rule 52 = .ok (.getfield 163, 3) := by decide +kernel
theorem d_m11_rule_55 : decode b_m11_rule 55 = .ok (.isub, 1) := by decide +kernel
theorem d_m11_rule_56 : decode b_m11_rule 56 = .ok (.ireturn, 1) := by decide +kernel
theorem d_m11_rule_57 : decode b_m11_rule 57 = .ok (.aload_n 0, 1) := by decide +kernel
theorem d_m11_rule_58 : decode b_m11_rule 58 = .ok (.getfield 52, 3) := by decide +kernel
theorem d_m11_rule_61 : decode b_m11_rule 61 = .ok (.aload_n 0, 1) := by decide +kernel
theorem d_m11_rule_62 : decode b_m11_rule 62 = .ok (.getfield 199, 3) := by decide +kernel
theorem d_m11_rule_65 : decode b_m11_rule 65 = .ok (.iaload, 1) := by decide +kernel
theorem d_m11_rule_66 : decode b_m11_rule 66 = .ok (.aload_n 0, 1) := by decide +kernel
theorem d_m11_rule_67 : decode b_m11_rule 67 = .ok (.getfield 49, 3) := by decide +kernel
theorem d_m11_rule_70 : decode b_m11_rule 70 = .ok (.aload_n 0, 1) := by decide +kernel
theorem d_m11_rule_71 : decode b_m11_rule 71 = .ok (.getfield 199, 3) := by decide +kernel
theorem d_m11_rule_74 : decode b_m11_rule 74 = .ok (.iaload, 1) := by decide +kernel
theorem d_m11_rule_75 : decode b_m11_rule 75 = .ok (.iconst 1, 1) := by decide +kernel
theorem d_m11_rule_76 : decode b_m11_rule 76 = .ok (.if_icmp .ne 8, 3) := by decide +kernel
theorem d_m11_rule_79 : decode b_m11_rule 79 = .ok (.bipush 7, 2) := by decide +kernel
theorem d_m11_rule_81 : decode b_m11_rule 81 = .ok (.goto 5, 3) := by decide +kernel
theorem d_m11_rule_84 : decode b_m11_rule 84 = .ok (.bipush 9, 2) := by decide +kernel
theorem d_m11_rule_86 : decode b_m11_rule 86 = .ok (.if_icmp .le 10, 3) := by decide +kernel
theorem d_m11_rule_89 : decode b_m11_rule 89 = .ok (.aload_n 0, 1) := by decide +kernel
theorem d_m11_rule_90 : decode b_m11_rule 90 = .ok (.bipush (-7), 2) := by decide +kernel
theorem d_m11_rule_92 : decode b_m11_rule 92 = .ok (.invokevirtual 139, 3) := by decide +kernel
theorem d_m11_rule_95 : decode b_m11_rule 95 = .ok (.ireturn, 1) := by decide +kernel
theorem d_m11_rule_96 : decode b_m11_rule 96 = .ok (.aload_n 0, 1) := by decide +kernel
theorem d_m11_rule_97 : decode b_m11_rule 97 = .ok (.getfield 55, 3) := by decide +kernel
theorem d_m11_rule_100 : decode b_m11_rule 100 = .ok (.aload_n 0, 1) := by decide +kernel
theorem d_m11_rule_101 : decode b_m11_rule 101 = .ok (.getfield 199, 3) := by decide +kernel
theorem d_m11_rule_104 : decode b_m11_rule 104 = .ok (.iload_n 1, 1) := by decide +kernel
theorem d_m11_rule_105 : decode b_m11_rule 105 = .ok (.iastore, 1) := by decide +kernel
theorem d_m11_rule_106 : decode b_m11_rule 106 = .ok (.aload_n 0, 1) := by decide +kernel
theorem d_m11_rule_107 : decode b_m11_rule 107 = .ok (.getfield 58, 3) := by decide +kernel
theorem d_m11_rule_110 : decode b_m11_rule 110 = .ok (.aload_n 0, 1) := by decide +kernel
theorem d_m11_rule_111 : decode b_m11_rule 111 = .ok (.getfield 199, 3) := by decide +kernel
theorem d_m11_rule_114 : decode b_m11_rule 114 = .ok (.iload_n 2, 1) := by decide +kernel
theorem d_m11_rule_115 : decode b_m11_rule 115 = .ok (.iastore, 1) := by decide +kernel
theorem d_m11_rule_116 : decode b_m11_rule 116 = .ok (.aload_n 0, 1) := by decide +kernel
theorem d_m11_rule_117 : decode b_m11_rule 117 = .ok (.iconst 0, 1) := by decide +kernel
theorem d_m11_rule_118 : decode b_m11_rule 118 = .ok (.putfield 160, 3) := by decide +kernel
theorem d_m11_rule_121 : decode b_m11_rule 121 = .ok (.aload_n 0, 1) := by decide +kernel
theorem d_m11_rule_122 : decode b_m11_rule 122 = .ok (.dup, 1) := by decide +kernel
theorem d_m11_rule_123 : decode b_m11_rule 123 = .ok (.getfield 199, 3) := by decide +kernel
theorem d_m11_rule_126 : decode b_m11_rule 126 = .ok (.iconst 1, 1) := by decide +kernel
theorem d_m11_rule_127 : decode b_m11_rule 127 = .ok (.iadd, 1) := by decide +kernel
theorem d_m11_rule_128 : decode b_m11_rule 128 = .ok (.putfield 199, 3) := by decide +kernel
theorem d_m11_rule_131 : decode b_m11_rule 131 = .ok (.aload_n 0, 1) := by decide +kernel
theorem d_m11_rule_132 : decode b_m11_rule 132 = .ok (.getfield 199, 3) := by decide +kernel
theorem d_m11_rule_135 : decode b_m11_rule 135 = .ok (.iconst 1, 1) := by decide +kernel
theorem d_m11_rule_136 : decode b_m11_rule 136 = .ok (.isub, 1) := by decide +kernel
theorem d_m11_rule_137 : decode b_m11_rule 137 = .ok (.ireturn, 1) := by decide +kernel
def s_m11_rule_15  (r0 : Nat) (M : Mm) : Option (Int32 × Mm) := cl (has M r0 21) (s_m11_refused r0 (-7 : Int32) M) (fun v1 M2 => some (v1, M2))
def s_m11_rule_86  (r0 : Nat) (x1 : Int32) (x2 : Int32) (t0 : Int32) (t1 : Int32) (M : Mm) : Option (Int32 × Mm) := (if t0 ≤ t1 then gR M r0 21 20 (fun v1 => gI M r0 21 17 (fun v2 => sI M v1 0 v2 x1 (fun M3 => gR M3 r0 21 21 (fun v4 => gI M3 r0 21 17 (fun v5 => sI M3 v4 0 v5 x2 (fun M6 => pI M6 r0 21 26 (0 : Int32) (fun M7 => gI M7 r0 21 17 (fun v8 => pI M7 r0 21 17 (v8 + (1 : Int32)) (fun M9 => gI M9 r0 21 17 (fun v10 => some (v10 - (1 : Int32), M9))))))))))) else cl (has M r0 21) (s_m11_refused r0 (-7 : Int32) M) (fun v11 M12 => some (v11, M12)))
def s_m11_rule (r0 : Nat) (a1 : Int32) (a2 : Int32) (M : Mm) : Option (Int32 × Mm) := (if a1 < 0 then s_m11_rule_15 r0 M else (if (100000 : Int32) < a2 then s_m11_rule_15 r0 M else (if a1 < a2 then gI M r0 21 17 (fun v1 => (if ¬ v1 = (10 : Int32) then cl (has M r0 21) (s_m11_readRule r0 M) (fun _ M2 => gI M2 r0 21 29 (fun v3 => (if v3 = 0 then gR M2 r0 21 19 (fun v4 => gI M2 r0 21 17 (fun v5 => aI M2 v4 0 v5 (fun v6 => gR M2 r0 21 18 (fun v7 => gI M2 r0 21 17 (fun v8 => aI M2 v7 0 v8 (fun v9 => (if ¬ v9 = (1 : Int32) then s_m11_rule_86 r0 a1 a2 v6 (9 : Int32) M2 else s_m11_rule_86 r0 a1 a2 v6 (7 : Int32) M2))))))) else gI M2 r0 21 28 (fun v10 => some ((-10 : Int32) - v10, M2))))) else cl (has M r0 21) (s_m11_refused r0 (-8 : Int32) M) (fun v11 M12 => some (v11, M12)))) else s_m11_rule_15 r0 M)))
set_option maxRecDepth 100000 in
set_option maxHeartbeats 4000000 in
theorem w_m11_rule_15 {V : Ev} {C : Cx} {n0 : Nat} (hC : Cok V C y_m11_rule.cls b_m11_rule 3 n0 (some .int) y_m11_rule.name) (hR : cR C = rm_m11_rule)  : ∀ (r0 : Nat) (M : Mm), Sm V C 3 n0 n0 (qI V C) 15 [(0, rv V.1 r0)] [] M (s_m11_rule_15 r0 M) := by
  intro r0 M
  unfold s_m11_rule_15
  refine Sm.aload_n hC d_m11_rule_15 rfl 0 rfl ?_
  refine Sm.bipush (v := -7) hC d_m11_rule_16 (by decide) ?_
  refine Sm.callVi 11 (As := [.int (-7 : Int32)]) (st := []) hC hR cw_m11_refused (tw_i 1048 (by decide +kernel)) (tw_i 1050 (by decide +kernel)) (tw_i 23 (by decide +kernel)) ⟨_, rfl, rfl⟩ (fun r9 M9 h9 => ok_m11_refused h9) rfl rfl (RW.of ⟨rfl, rfl, by decide, by decide⟩) (by simp) d_m11_rule_18 (fun v1 M2 => ?_)
  exact Sm.iret hC d_m11_rule_21 rfl (Nat.sub_self _)
set_option maxRecDepth 100000 in
set_option maxHeartbeats 4000000 in
theorem w_m11_rule_86 {V : Ev} {C : Cx} {n0 : Nat} (hC : Cok V C y_m11_rule.cls b_m11_rule 3 n0 (some .int) y_m11_rule.name) (hR : cR C = rm_m11_rule)  : ∀ (r0 : Nat) (x1 : Int32) (x2 : Int32) (t0 : Int32) (t1 : Int32) (M : Mm), Sm V C 3 n0 n0 (qI V C) 86 [(0, rv V.1 r0), (1, .int x1), (2, .int x2)] [.int t1, .int t0] M (s_m11_rule_86 r0 x1 x2 t0 t1 M) := by
  intro r0 x1 x2 t0 t1 M
  unfold s_m11_rule_86
  refine Sm.icmp_le (tgt := 96) hC d_m11_rule_86 (by decide) ?_ ?_
  · refine Sm.aload_n hC d_m11_rule_96 rfl 0 rfl ?_
    refine Sm.getR hC fl_m11_55 rfl d_m11_rule_97 (fun v1 => ?_)
    refine Sm.aload_n hC d_m11_rule_100 rfl 0 rfl ?_
    refine Sm.getI hC fl_m11_199 rfl d_m11_rule_101 (fun v2 => ?_)
    refine Sm.iload_n hC d_m11_rule_104 rfl 1 rfl ?_
    refine Sm.iast hC d_m11_rule_105 (fun M3 => ?_)
    refine Sm.aload_n hC d_m11_rule_106 rfl 0 rfl ?_
    refine Sm.getR hC fl_m11_58 rfl d_m11_rule_107 (fun v4 => ?_)
    refine Sm.aload_n hC d_m11_rule_110 rfl 0 rfl ?_
    refine Sm.getI hC fl_m11_199 rfl d_m11_rule_111 (fun v5 => ?_)
    refine Sm.iload_n hC d_m11_rule_114 rfl 2 rfl ?_
    refine Sm.iast hC d_m11_rule_115 (fun M6 => ?_)
    refine Sm.aload_n hC d_m11_rule_116 rfl 0 rfl ?_
    refine Sm.iconst (v := 0) hC d_m11_rule_117 (by decide) ?_
    refine Sm.putI hC fl_m11_160 rfl d_m11_rule_118 (fun M7 => ?_)
    refine Sm.aload_n hC d_m11_rule_121 rfl 0 rfl ?_
    refine Sm.dup hC d_m11_rule_122 (cat_rv _ _) ?_
    refine Sm.getI hC fl_m11_199 rfl d_m11_rule_123 (fun v8 => ?_)
    refine Sm.iconst (v := 1) hC d_m11_rule_126 (by decide) ?_
    refine Sm.iadd hC d_m11_rule_127 ?_
    refine Sm.putI hC fl_m11_199 rfl d_m11_rule_128 (fun M9 => ?_)
    refine Sm.aload_n hC d_m11_rule_131 rfl 0 rfl ?_
    refine Sm.getI hC fl_m11_199 rfl d_m11_rule_132 (fun v10 => ?_)
    refine Sm.iconst (v := 1) hC d_m11_rule_135 (by decide) ?_
    refine Sm.isub hC d_m11_rule_136 ?_
    exact Sm.iret hC d_m11_rule_137 rfl (Nat.sub_self _)
  · refine Sm.aload_n hC d_m11_rule_89 rfl 0 rfl ?_
    refine Sm.bipush (v := -7) hC d_m11_rule_90 (by decide) ?_
    refine Sm.callVi 11 (As := [.int (-7 : Int32)]) (st := []) hC hR cw_m11_refused (tw_i 1048 (by decide +kernel)) (tw_i 1050 (by decide +kernel)) (tw_i 23 (by decide +kernel)) ⟨_, rfl, rfl⟩ (fun r9 M9 h9 => ok_m11_refused h9) rfl rfl (RW.of ⟨rfl, rfl, by decide, by decide⟩) (by simp) d_m11_rule_92 (fun v11 M12 => ?_)
    exact Sm.iret hC d_m11_rule_95 rfl (Nat.sub_self _)
set_option maxRecDepth 100000 in
set_option maxHeartbeats 4000000 in
theorem ok_m11_rule {l : Launch} {V : Ev} {M M' : Mm} {r : Int32} {r0 : Nat} {a1 : Int32} {a2 : Int32} (h : s_m11_rule r0 a1 a2 M = some (r, M')) : Met l y_m11_rule (Cond.code y_m11_rule b_m11_rule 3 (some .int) :: TW) rm_m11_rule (va_Pc [rv V.1 r0, .int a1, .int a2] (Wd V M)) (QC V (some (.int r)) M' 0) 0 0 (Af V) := by
  refine met_of (fun x : Int32 => some (.int x)) (lv0 := [(0, rv V.1 r0), (1, .int a1), (2, .int a2)]) (by decide) (by simp [lg_sl, cat_rv, cat_i, cat_l, cat_f]) (by simp [lv_args, cat_rv, cat_i, cat_l, cat_f]) (fun C hl hR hC => ?_) h
  subst hl
  generalize mN M = n0 at hC ⊢
  unfold s_m11_rule
  refine Sm.iload_n hC d_m11_rule_0 rfl 1 rfl ?_
  refine Sm.if_lt (tgt := 15) hC d_m11_rule_1 (by decide) ?_ ?_
  · refine Sm.sub [0] rfl ?_
    exact w_m11_rule_15 hC hR r0 M
  · refine Sm.iload_n hC d_m11_rule_4 rfl 2 rfl ?_
    refine Sm.ldc (v := 100000) hC d_m11_rule_5 (tw_i 1064 (by decide +kernel)) ?_
    refine Sm.icmp_gt (tgt := 15) hC d_m11_rule_7 (by decide) ?_ ?_
    · refine Sm.sub [0] rfl ?_
      exact w_m11_rule_15 hC hR r0 M
    · refine Sm.iload_n hC d_m11_rule_10 rfl 1 rfl ?_
      refine Sm.iload_n hC d_m11_rule_11 rfl 2 rfl ?_
      refine Sm.icmp_lt (tgt := 22) hC d_m11_rule_12 (by decide) ?_ ?_
      · refine Sm.aload_n hC d_m11_rule_22 rfl 0 rfl ?_
        refine Sm.getI hC fl_m11_199 rfl d_m11_rule_23 (fun v1 => ?_)
        refine Sm.bipush (v := 10) hC d_m11_rule_26 (by decide) ?_
        refine Sm.icmp_ne (tgt := 38) hC d_m11_rule_28 (by decide) ?_ ?_
        · refine Sm.aload_n hC d_m11_rule_38 rfl 0 rfl ?_
          refine Sm.callVv 11 (As := []) (st := []) hC hR cw_m11_readRule (tw_i 1089 (by decide +kernel)) (tw_i 1091 (by decide +kernel)) (tw_i 26 (by decide +kernel)) ⟨_, rfl, rfl⟩ (fun r9 M9 h9 => ok_m11_readRule h9) rfl rfl (RW.of ⟨rfl, rfl, by decide, by decide⟩) (by simp) d_m11_rule_39 (fun _ M2 => ?_)
          refine Sm.aload_n hC d_m11_rule_42 rfl 0 rfl ?_
          refine Sm.getI hC fl_m11_166 rfl d_m11_rule_43 (fun v3 => ?_)
          refine Sm.if_eq (tgt := 57) hC d_m11_rule_46 (by decide) ?_ ?_
          · refine Sm.aload_n hC d_m11_rule_57 rfl 0 rfl ?_
            refine Sm.getR hC fl_m11_52 rfl d_m11_rule_58 (fun v4 => ?_)
            refine Sm.aload_n hC d_m11_rule_61 rfl 0 rfl ?_
            refine Sm.getI hC fl_m11_199 rfl d_m11_rule_62 (fun v5 => ?_)
            refine Sm.iald hC d_m11_rule_65 (fun v6 => ?_)
            refine Sm.aload_n hC d_m11_rule_66 rfl 0 rfl ?_
            refine Sm.getR hC fl_m11_49 rfl d_m11_rule_67 (fun v7 => ?_)
            refine Sm.aload_n hC d_m11_rule_70 rfl 0 rfl ?_
            refine Sm.getI hC fl_m11_199 rfl d_m11_rule_71 (fun v8 => ?_)
            refine Sm.iald hC d_m11_rule_74 (fun v9 => ?_)
            refine Sm.iconst (v := 1) hC d_m11_rule_75 (by decide) ?_
            refine Sm.icmp_ne (tgt := 84) hC d_m11_rule_76 (by decide) ?_ ?_
            · refine Sm.bipush (v := 9) hC d_m11_rule_84 (by decide) ?_
              exact w_m11_rule_86 hC hR r0 a1 a2 v6 (9 : Int32) M2
            · refine Sm.bipush (v := 7) hC d_m11_rule_79 (by decide) ?_
              refine Sm.goto (tgt := 86) hC d_m11_rule_81 (by decide) ?_
              exact w_m11_rule_86 hC hR r0 a1 a2 v6 (7 : Int32) M2
          · refine Sm.bipush (v := -10) hC d_m11_rule_49 (by decide) ?_
            refine Sm.aload_n hC d_m11_rule_51 rfl 0 rfl ?_
            refine Sm.getI hC fl_m11_163 rfl d_m11_rule_52 (fun v10 => ?_)
            refine Sm.isub hC d_m11_rule_55 ?_
            exact Sm.iret hC d_m11_rule_56 rfl (Nat.sub_self _)
        · refine Sm.aload_n hC d_m11_rule_31 rfl 0 rfl ?_
          refine Sm.bipush (v := -8) hC d_m11_rule_32 (by decide) ?_
          refine Sm.callVi 11 (As := [.int (-8 : Int32)]) (st := []) hC hR cw_m11_refused (tw_i 1048 (by decide +kernel)) (tw_i 1050 (by decide +kernel)) (tw_i 23 (by decide +kernel)) ⟨_, rfl, rfl⟩ (fun r9 M9 h9 => ok_m11_refused h9) rfl rfl (RW.of ⟨rfl, rfl, by decide, by decide⟩) (by simp) d_m11_rule_34 (fun v11 M12 => ?_)
          exact Sm.iret hC d_m11_rule_37 rfl (Nat.sub_self _)
      · refine Sm.sub [0] rfl ?_
        exact w_m11_rule_15 hC hR r0 M
/-! NewsWireModel.valueOf(III)I -/
abbrev b_m11_valueOf : ByteArray := prog_13_method_26_code
def y_m11_valueOf : MethodName := ⟨"NewsWireModel", "valueOf", "(III)I"⟩
def rm_m11_valueOf : Room := { frames := 1, cells := 0, slots := 0, locals := 60 }
theorem cw_m11_valueOf : CW y_m11_valueOf b_m11_valueOf 4 (some .int) 3 := ⟨tw_i 66 (by decide +kernel), tw_i 1137 (by decide +kernel), by decide, by decide, by decide +kernel⟩
theorem d_m11_valueOf_0 : decode b_m11_valueOf 0 = .ok (.iload_n 1, 1) := by decide +kernel
theorem d_m11_valueOf_1 : decode b_m11_valueOf 1 = .ok (.tableswitch 59 0 3 #[31, 38, 45, 52], 31) := by decide +kernel
theorem d_m11_valueOf_32 : decode b_m11_valueOf 32 = .ok (.aload_n 0, 1) := by decide +kernel
theorem d_m11_valueOf_33 : decode b_m11_valueOf 33 = .ok (.getfield 22, 3) := by decide +kernel
theorem d_m11_valueOf_36 : decode b_m11_valueOf 36 = .ok (.iload_n 2, 1) := by decide +kernel
theorem d_m11_valueOf_37 : decode b_m11_valueOf 37 = .ok (.iaload, 1) := by decide +kernel
theorem d_m11_valueOf_38 : decode b_m11_valueOf 38 = .ok (.ireturn, 1) := by decide +kernel
theorem d_m11_valueOf_39 : decode b_m11_valueOf 39 = .ok (.aload_n 0, 1) := by decide +kernel
theorem d_m11_valueOf_40 : decode b_m11_valueOf 40 = .ok (.getfield 25, 3) := by decide +kernel
theorem d_m11_valueOf_43 : decode b_m11_valueOf 43 = .ok (.iload_n 2, 1) := by decide +kernel
theorem d_m11_valueOf_44 : decode b_m11_valueOf 44 = .ok (.iaload, 1) := by decide +kernel
theorem d_m11_valueOf_45 : decode b_m11_valueOf 45 = .ok (.ireturn, 1) := by decide +kernel
theorem d_m11_valueOf_46 : decode b_m11_valueOf 46 = .ok (.aload_n 0, 1) := by decide +kernel
theorem d_m11_valueOf_47 : decode b_m11_valueOf 47 = .ok (.getfield 28, 3) := by decide +kernel
theorem d_m11_valueOf_50 : decode b_m11_valueOf 50 = .ok (.iload_n 2, 1) := by decide +kernel
theorem d_m11_valueOf_51 : decode b_m11_valueOf 51 = .ok (.iaload, 1) := by decide +kernel
theorem d_m11_valueOf_52 : decode b_m11_valueOf 52 = .ok (.ireturn, 1) := by decide +kernel
theorem d_m11_valueOf_53 : decode b_m11_valueOf 53 = .ok (.aload_n 0, 1) := by decide +kernel
theorem d_m11_valueOf_54 : decode b_m11_valueOf 54 = .ok (.getfield 34, 3) := by decide +kernel
theorem d_m11_valueOf_57 : decode b_m11_valueOf 57 = .ok (.iload_n 2, 1) := by decide +kernel
theorem d_m11_valueOf_58 : decode b_m11_valueOf 58 = .ok (.iaload, 1) := by decide +kernel
theorem d_m11_valueOf_59 : decode b_m11_valueOf 59 = .ok (.ireturn, 1) := by decide +kernel
theorem d_m11_valueOf_60 : decode b_m11_valueOf 60 = .ok (.iload_n 3, 1) := by decide +kernel
theorem d_m11_valueOf_61 : decode b_m11_valueOf 61 = .ok (.ireturn, 1) := by decide +kernel
def s_m11_valueOf (r0 : Nat) (a1 : Int32) (a2 : Int32) (a3 : Int32) (M : Mm) : Option (Int32 × Mm) := (if a1 = 0 then gR M r0 21 7 (fun v1 => aI M v1 0 a2 (fun v2 => some (v2, M))) else if a1 = 1 then gR M r0 21 8 (fun v3 => aI M v3 0 a2 (fun v4 => some (v4, M))) else if a1 = 2 then gR M r0 21 9 (fun v5 => aI M v5 0 a2 (fun v6 => some (v6, M))) else if a1 = 3 then gR M r0 21 11 (fun v7 => aI M v7 0 a2 (fun v8 => some (v8, M))) else some (a3, M))
set_option maxRecDepth 100000 in
set_option maxHeartbeats 4000000 in
theorem ok_m11_valueOf {l : Launch} {V : Ev} {M M' : Mm} {r : Int32} {r0 : Nat} {a1 : Int32} {a2 : Int32} {a3 : Int32} (h : s_m11_valueOf r0 a1 a2 a3 M = some (r, M')) : Met l y_m11_valueOf (Cond.code y_m11_valueOf b_m11_valueOf 4 (some .int) :: TW) rm_m11_valueOf (va_Pc [rv V.1 r0, .int a1, .int a2, .int a3] (Wd V M)) (QC V (some (.int r)) M' 0) 0 0 (Af V) := by
  refine met_of (fun x : Int32 => some (.int x)) (lv0 := [(0, rv V.1 r0), (1, .int a1), (2, .int a2), (3, .int a3)]) (by decide) (by simp [lg_sl, cat_rv, cat_i, cat_l, cat_f]) (by simp [lv_args, cat_rv, cat_i, cat_l, cat_f]) (fun C hl hR hC => ?_) h
  subst hl
  generalize mN M = n0 at hC ⊢
  unfold s_m11_valueOf
  refine Sm.iload_n hC d_m11_valueOf_0 rfl 1 rfl ?_
  refine Sm.if_ (fun h9 => ?_) (fun h1_0 => ?_)
  · refine Sm.tswIn (tgt := 32) hC d_m11_valueOf_1 (by rw [h9]; decide) (by rw [h9]; decide) (by rw [h9] <;> rfl) (by decide) ?_
    refine Sm.aload_n hC d_m11_valueOf_32 rfl 0 rfl ?_
    refine Sm.getR hC fl_m11_22 rfl d_m11_valueOf_33 (fun v1 => ?_)
    refine Sm.iload_n hC d_m11_valueOf_36 rfl 2 rfl ?_
    refine Sm.iald hC d_m11_valueOf_37 (fun v2 => ?_)
    exact Sm.iret hC d_m11_valueOf_38 rfl (Nat.sub_self _)
  refine Sm.if_ (fun h9 => ?_) (fun h1_1 => ?_)
  · refine Sm.tswIn (tgt := 39) hC d_m11_valueOf_1 (by rw [h9]; decide) (by rw [h9]; decide) (by rw [h9] <;> rfl) (by decide) ?_
    refine Sm.aload_n hC d_m11_valueOf_39 rfl 0 rfl ?_
    refine Sm.getR hC fl_m11_25 rfl d_m11_valueOf_40 (fun v3 => ?_)
    refine Sm.iload_n hC d_m11_valueOf_43 rfl 2 rfl ?_
    refine Sm.iald hC d_m11_valueOf_44 (fun v4 => ?_)
    exact Sm.iret hC d_m11_valueOf_45 rfl (Nat.sub_self _)
  refine Sm.if_ (fun h9 => ?_) (fun h1_2 => ?_)
  · refine Sm.tswIn (tgt := 46) hC d_m11_valueOf_1 (by rw [h9]; decide) (by rw [h9]; decide) (by rw [h9] <;> rfl) (by decide) ?_
    refine Sm.aload_n hC d_m11_valueOf_46 rfl 0 rfl ?_
    refine Sm.getR hC fl_m11_28 rfl d_m11_valueOf_47 (fun v5 => ?_)
    refine Sm.iload_n hC d_m11_valueOf_50 rfl 2 rfl ?_
    refine Sm.iald hC d_m11_valueOf_51 (fun v6 => ?_)
    exact Sm.iret hC d_m11_valueOf_52 rfl (Nat.sub_self _)
  refine Sm.if_ (fun h9 => ?_) (fun h1_3 => ?_)
  · refine Sm.tswIn (tgt := 53) hC d_m11_valueOf_1 (by rw [h9]; decide) (by rw [h9]; decide) (by rw [h9] <;> rfl) (by decide) ?_
    refine Sm.aload_n hC d_m11_valueOf_53 rfl 0 rfl ?_
    refine Sm.getR hC fl_m11_34 rfl d_m11_valueOf_54 (fun v7 => ?_)
    refine Sm.iload_n hC d_m11_valueOf_57 rfl 2 rfl ?_
    refine Sm.iald hC d_m11_valueOf_58 (fun v8 => ?_)
    exact Sm.iret hC d_m11_valueOf_59 rfl (Nat.sub_self _)
  refine Sm.tswOut (tgt := 60) hC d_m11_valueOf_1 (out_of (n := 4) (by decide) (fun i hi => by
      match i, hi with
      | 0, _ => exact h1_0
      | 1, _ => exact h1_1
      | 2, _ => exact h1_2
      | 3, _ => exact h1_3)) (by decide) ?_
  refine Sm.iload_n hC d_m11_valueOf_60 rfl 3 rfl ?_
  exact Sm.iret hC d_m11_valueOf_61 rfl (Nat.sub_self _)
/-! NewsWireModel.holdsFor(III)Z -/
theorem fl_m11_211 : FL "NewsWireModel" 211 11 31 0 false .int := ⟨_, _, _, _, rfl, in_c11, ty_c11, nm_c11, by decide, rfl, tw_i 896 (by decide +kernel), rfl, rfl, rfl, rfl⟩
abbrev b_m11_holdsFor : ByteArray := prog_13_method_27_code
def y_m11_holdsFor : MethodName := ⟨"NewsWireModel", "holdsFor", "(III)Z"⟩
def rm_m11_holdsFor : Room := { frames := 2, cells := 0, slots := 0, locals := 83 }
theorem cw_m11_holdsFor : CW y_m11_holdsFor b_m11_holdsFor 6 (some .boolean) 3 := ⟨tw_i 66 (by decide +kernel), tw_i 1133 (by decide +kernel), by decide, by decide, by decide +kernel⟩
theorem d_m11_holdsFor_0 : decode b_m11_holdsFor 0 = .ok (.aload_n 0, 1) := by decide +kernel
theorem d_m11_holdsFor_1 : decode b_m11_holdsFor 1 = .ok (.getfield 211, 3) := by decide +kernel
theorem d_m11_holdsFor_4 : decode b_m11_holdsFor 4 = .ok (.aload_n 0, 1) := by decide +kernel
theorem d_m11_holdsFor_5 : decode b_m11_holdsFor 5 = .ok (.getfield 55, 3) := by decide +kernel
theorem d_m11_holdsFor_8 : decode b_m11_holdsFor 8 = .ok (.iload_n 1, 1) := by decide +kernel
theorem d_m11_holdsFor_9 : decode b_m11_holdsFor 9 = .ok (.iaload, 1) := by decide +kernel
theorem d_m11_holdsFor_10 : decode b_m11_holdsFor 10 = .ok (.if_icmp .lt 16, 3) := by decide +kernel
theorem d_m11_holdsFor_13 : decode b_m11_holdsFor 13 = .ok (.aload_n 0, 1) := by decide +kernel
theorem d_m11_holdsFor_14 : decode b_m11_holdsFor 14 = .ok (.getfield 211, 3) := by decide +kernel
theorem d_m11_holdsFor_17 : decode b_m11_holdsFor 17 = .ok (.aload_n 0, 1) := by decide +kernel
theorem d_m11_holdsFor_18 : decode b_m11_holdsFor 18 = .ok (.getfield 58, 3) := by decide +kernel
theorem d_m11_holdsFor_21 : decode b_m11_holdsFor 21 = .ok (.iload_n 1, 1) := by decide +kernel
theorem d_m11_holdsFor_22 : decode b_m11_holdsFor 22 = .ok (.iaload, 1) := by decide +kernel
theorem d_m11_holdsFor_23 : decode b_m11_holdsFor 23 = .ok (.if_icmp .lt 5, 3) := by decide +kernel
theorem d_m11_holdsFor_26 : decode b_m11_holdsFor 26 = .ok (.iconst 0, 1) := by decide +kernel
theorem d_m11_holdsFor_27 : decode b_m11_holdsFor 27 = .ok (.ireturn, 1) := by decide +kernel
theorem d_m11_holdsFor_28 : decode b_m11_holdsFor 28 = .ok (.iconst 3, 1) := by decide +kernel
theorem d_m11_holdsFor_29 : decode b_m11_holdsFor 29 = .ok (.iload_n 1, 1) := by decide +kernel
theorem d_m11_holdsFor_30 : decode b_m11_holdsFor 30 = .ok (.imul, 1) := by decide +kernel
theorem d_m11_holdsFor_31 : decode b_m11_holdsFor 31 = .ok (.istore 4, 2) := by decide +kernel
theorem d_m11_holdsFor_33 : decode b_m11_holdsFor 33 = .ok (.iload 4, 2) := by decide +kernel
theorem d_m11_holdsFor_35 : decode b_m11_holdsFor 35 = .ok (.iconst 3, 1) := by decide +kernel
theorem d_m11_holdsFor_36 : decode b_m11_holdsFor 36 = .ok (.iload_n 1, 1) := by decide +kernel
theorem d_m11_holdsFor_37 : decode b_m11_holdsFor 37 = .ok (.imul, 1) := by decide +kernel
theorem d_m11_holdsFor_38 : decode b_m11_holdsFor 38 = .ok (.aload_n 0, 1) := by decide +kernel
theorem d_m11_holdsFor_39 : decode b_m11_holdsFor 39 = .ok (.getfield 61, 3) := by decide +kernel
theorem d_m11_holdsFor_42 : decode b_m11_holdsFor 42 = .ok (.iload_n 1, 1) := by decide +kernel
theorem d_m11_holdsFor_43 : decode b_m11_holdsFor 43 = .ok (.iaload, 1) := by decide +kernel
theorem d_m11_holdsFor_44 : decode b_m11_holdsFor 44 = .ok (.iadd, 1) := by decide +kernel
theorem d_m11_holdsFor_45 : decode b_m11_holdsFor 45 = .ok (.if_icmp .ge 108, 3) := by decide +kernel
theorem d_m11_holdsFor_48 : decode b_m11_holdsFor 48 = .ok (.aload_n 0, 1) := by decide +kernel
theorem d_m11_holdsFor_49 : decode b_m11_holdsFor 49 = .ok (.aload_n 0, 1) := by decide +kernel
theorem d_m11_holdsFor_50 : decode b_m11_holdsFor 50 = .ok (.getfield 64, 3) := by decide +kernel
theorem d_m11_holdsFor_53 : decode b_m11_holdsFor 53 = .ok (.iload 4, 2) := by decide +kernel
theorem d_m11_holdsFor_55 : decode b_m11_holdsFor 55 = .ok (.iaload, 1) := by decide +kernel
theorem d_m11_holdsFor_56 : decode b_m11_holdsFor 56 = .ok (.iload_n 2, 1) := by decide +kernel
theorem d_m11_holdsFor_57 : decode b_m11_holdsFor 57 = .ok (.iload_n 3, 1) := by decide +kernel
theorem d_m11_holdsFor_58 : decode b_m11_holdsFor 58 = .ok (.invokevirtual 214, 3) := by decide +kernel
theorem d_m11_holdsFor_61 : decode b_m11_holdsFor 61 = .ok (.istore 5, 2) := by decide +kernel
theorem d_m11_holdsFor_63 : decode b_m11_holdsFor 63 = .ok (.aload_n 0, 1) := by decide +kernel
theorem d_m11_holdsFor_64 : decode b_m11_holdsFor 64 = .ok (.getfield 64, 3) := by decide +kernel
theorem d_m11_holdsFor_67 : decode b_m11_holdsFor 67 = .ok (.iload 4, 2) := by decide +kernel
theorem d_m11_holdsFor_69 : decode b_m11_holdsFor 69 = .ok (.iaload, 1) := by decide +kernel
theorem d_m11_holdsFor_70 : decode b_m11_holdsFor 70 = .ok (.iconst 4, 1) := by decide +kernel
theorem d_m11_holdsFor_71 : decode b_m11_holdsFor 71 = .ok (.if_icmp .ne 8, 3) := by decide +kernel
theorem d_m11_holdsFor_74 : decode b_m11_holdsFor 74 = .ok (.iload_n 3, 1) := by decide +kernel
theorem d_m11_holdsFor_75 : decode b_m11_holdsFor 75 = .ok (.iconst (-1), 1) := by decide +kernel
theorem d_m11_holdsFor_76 : decode b_m11_holdsFor 76 = .ok (.if_icmp .eq 69, 3) := by decide +kernel
theorem d_m11_holdsFor_79 : decode b_m11_holdsFor 79 = .ok (.aload_n 0, 1) := by decide +kernel
theorem d_m11_holdsFor_80 : decode b_m11_holdsFor 80 = .ok (.getfield 67, 3) := by decide +kernel
theorem d_m11_holdsFor_83 : decode b_m11_holdsFor 83 = .ok (.iload 4, 2) := by decide +kernel
theorem d_m11_holdsFor_85 : decode b_m11_holdsFor 85 = .ok (.iaload, 1) := by decide +kernel
theorem d_m11_holdsFor_86 : decode b_m11_holdsFor 86 = .ok (.bipush 61, 2) := by decide +kernel
theorem d_m11_holdsFor_88 : decode b_m11_holdsFor 88 = .ok (.if_icmp .ne 18, 3) := by decide +kernel
theorem d_m11_holdsFor_91 : decode b_m11_holdsFor 91 = .ok (.iload 5, 2) := by decide +kernel
theorem d_m11_holdsFor_93 : decode b_m11_holdsFor 93 = .ok (.aload_n 0, 1) := by decide +kernel
theorem d_m11_holdsFor_94 : decode b_m11_holdsFor 94 = .ok (.getfield 70, 3) := by decide +kernel
theorem d_m11_holdsFor_97 : decode b_m11_holdsFor 97 = .ok (.iload 4, 2) := by decide +kernel
theorem d_m11_holdsFor_99 : decode b_m11_holdsFor 99 = .ok (.iaload, 1) := by decide +kernel
theorem d_m11_holdsFor_100 : decode b_m11_holdsFor 100 = .ok (.if_icmp .eq 47, 3) := by decide +kernel
theorem d_m11_holdsFor_103 : decode b_m11_holdsFor 103 = .ok (.goto 42, 3) := by decide +kernel
theorem d_m11_holdsFor_106 : decode b_m11_holdsFor 106 = .ok (.aload_n 0, 1) := by decide +kernel
theorem d_m11_holdsFor_107 : decode b_m11_holdsFor 107 = .ok (.getfield 67, 3) := by decide +kernel
theorem d_m11_holdsFor_110 : decode b_m11_holdsFor 110 = .ok (.iload 4, 2) := by decide +kernel
theorem d_m11_holdsFor_112 : decode b_m11_holdsFor 112 = .ok (.iaload, 1) := by decide +kernel
theorem d_m11_holdsFor_113 : decode b_m11_holdsFor 113 = .ok (.bipush 60, 2) := by decide +kernel
theorem d_m11_holdsFor_115 : decode b_m11_holdsFor 115 = .ok (.if_icmp .ne 18, 3) := by decide +kernel
theorem d_m11_holdsFor_118 : decode b_m11_holdsFor 118 = .ok (.iload 5, 2) := by decide +kernel
theorem d_m11_holdsFor_120 : decode b_m11_holdsFor 120 = .ok (.aload_n 0, 1) := by decide +kernel
theorem d_m11_holdsFor_121 : decode b_m11_holdsFor 121 = .ok (.getfield 70, 3) := by decide +kernel
theorem d_m11_holdsFor_124 : decode b_m11_holdsFor 124 = .ok (.iload 4, 2) := by decide +kernel
theorem d_m11_holdsFor_126 : decode b_m11_holdsFor 126 = .ok (.iaload, 1) := by decide +kernel
theorem d_m11_holdsFor_127 : decode b_m11_holdsFor 127 = .ok (.if_icmp .lt 20, 3) := by decide +kernel
theorem d_m11_holdsFor_130 : decode b_m11_holdsFor 130 = .ok (.goto 15, 3) := by decide +kernel
theorem d_m11_holdsFor_133 : decode b_m11_holdsFor 133 = .ok (.iload 5, 2) := by decide +kernel
theorem d_m11_holdsFor_135 : decode b_m11_holdsFor 135 = .ok (.aload_n 0, 1) := by decide +kernel
theorem d_m11_holdsFor_136 : decode b_m11_holdsFor 136 = .ok (.getfield 70, 3) := by decide +kernel
theorem d_m11_holdsFor_139 : decode b_m11_holdsFor 139 = .ok (.iload 4, 2) := by decide +kernel
theorem d_m11_holdsFor_141 : decode b_m11_holdsFor 141 = .ok (.iaload, 1) := by decide +kernel
theorem d_m11_holdsFor_142 : decode b_m11_holdsFor 142 = .ok (.if_icmp .gt 5, 3) := by decide +kernel
theorem d_m11_holdsFor_145 : decode b_m11_holdsFor 145 = .ok (.iconst 0, 1) := by decide +kernel
theorem d_m11_holdsFor_146 : decode b_m11_holdsFor 146 = .ok (.ireturn, 1) := by decide +kernel
theorem d_m11_holdsFor_147 : decode b_m11_holdsFor 147 = .ok (.iinc 4 1, 3) := by decide +kernel
theorem d_m11_holdsFor_150 : decode b_m11_holdsFor 150 = .ok (.goto (-117), 3) := by decide +kernel
theorem d_m11_holdsFor_153 : decode b_m11_holdsFor 153 = .ok (.iconst 1, 1) := by decide +kernel
theorem d_m11_holdsFor_154 : decode b_m11_holdsFor 154 = .ok (.ireturn, 1) := by decide +kernel
def s_m11_holdsFor_26   (M : Mm) : Option (Int32 × Mm) := rz (0 : Int32) (some ((0 : Int32), M))
def s_m11_holdsFor_147 (k33 : Nat → Int32 → Int32 → Int32 → Int32 → Mm → Option (Int32 × Mm)) (r0 : Nat) (x1 : Int32) (x2 : Int32) (x3 : Int32) (x4 : Int32) (M : Mm) : Option (Int32 × Mm) := k33 r0 x1 x2 x3 (x4 + 1) M
def s_m11_holdsFor_145   (M : Mm) : Option (Int32 × Mm) := rz (0 : Int32) (some ((0 : Int32), M))
def s_m11_holdsFor_79 (k33 : Nat → Int32 → Int32 → Int32 → Int32 → Mm → Option (Int32 × Mm)) (r0 : Nat) (x1 : Int32) (x2 : Int32) (x3 : Int32) (x4 : Int32) (x5 : Int32) (M : Mm) : Option (Int32 × Mm) := gR M r0 21 24 (fun v1 => aI M v1 0 x4 (fun v2 => (if ¬ v2 = (61 : Int32) then gR M r0 21 24 (fun v3 => aI M v3 0 x4 (fun v4 => (if ¬ v4 = (60 : Int32) then gR M r0 21 25 (fun v5 => aI M v5 0 x4 (fun v6 => (if v6 < x5 then s_m11_holdsFor_147 k33 r0 x1 x2 x3 x4 M else s_m11_holdsFor_145 M))) else gR M r0 21 25 (fun v7 => aI M v7 0 x4 (fun v8 => (if x5 < v8 then s_m11_holdsFor_147 k33 r0 x1 x2 x3 x4 M else s_m11_holdsFor_145 M)))))) else gR M r0 21 25 (fun v9 => aI M v9 0 x4 (fun v10 => (if x5 = v10 then s_m11_holdsFor_147 k33 r0 x1 x2 x3 x4 M else s_m11_holdsFor_145 M))))))
def s_m11_holdsFor_33  : Nat → Nat → Int32 → Int32 → Int32 → Int32 → Mm → Option (Int32 × Mm)
  | 0, _, _, _, _, _, _ => none
  | n + 1, r0, x1, x2, x3, x4, M => gR M r0 21 22 (fun v1 => aI M v1 0 x1 (fun v2 => (if (((3 : Int32) * x1) + v2) ≤ x4 then rz (1 : Int32) (some ((1 : Int32), M)) else gR M r0 21 23 (fun v3 => aI M v3 0 x4 (fun v4 => cl (has M r0 21) (s_m11_valueOf r0 v4 x2 x3 M) (fun v5 M6 => gR M6 r0 21 23 (fun v7 => aI M6 v7 0 x4 (fun v8 => (if ¬ v8 = (4 : Int32) then s_m11_holdsFor_79 (s_m11_holdsFor_33 n) r0 x1 x2 x3 x4 v5 M6 else (if x3 = (-1 : Int32) then s_m11_holdsFor_145 M6 else s_m11_holdsFor_79 (s_m11_holdsFor_33 n) r0 x1 x2 x3 x4 v5 M6))))))))))
def s_m11_holdsFor (r0 : Nat) (a1 : Int32) (a2 : Int32) (a3 : Int32) (M : Mm) : Option (Int32 × Mm) := gI M r0 21 31 (fun v1 => gR M r0 21 20 (fun v2 => aI M v2 0 a1 (fun v3 => (if v1 < v3 then s_m11_holdsFor_26 M else gI M r0 21 31 (fun v4 => gR M r0 21 21 (fun v5 => aI M v5 0 a1 (fun v6 => (if v4 < v6 then s_m11_holdsFor_33 FU r0 a1 a2 a3 ((3 : Int32) * a1) M else s_m11_holdsFor_26 M))))))))
set_option maxRecDepth 100000 in
set_option maxHeartbeats 4000000 in
theorem w_m11_holdsFor_26 {V : Ev} {C : Cx} {n0 : Nat} (hC : Cok V C y_m11_holdsFor.cls b_m11_holdsFor 6 n0 (some .boolean) y_m11_holdsFor.name) (hR : cR C = rm_m11_holdsFor)  : ∀  (M : Mm), Sm V C 6 n0 n0 (qI V C) 26 [] [] M (s_m11_holdsFor_26 M) := by
  intro M
  unfold s_m11_holdsFor_26
  refine Sm.iconst (v := 0) hC d_m11_holdsFor_26 (by decide) ?_
  exact Sm.zret hC d_m11_holdsFor_27 rfl (Nat.sub_self _)
set_option maxRecDepth 100000 in
set_option maxHeartbeats 4000000 in
theorem w_m11_holdsFor_147 {V : Ev} {C : Cx} {n0 : Nat} (hC : Cok V C y_m11_holdsFor.cls b_m11_holdsFor 6 n0 (some .boolean) y_m11_holdsFor.name) (hR : cR C = rm_m11_holdsFor) (k33 : Nat → Int32 → Int32 → Int32 → Int32 → Mm → Option (Int32 × Mm)) (hk33 : ∀ (r0 : Nat) (x1 : Int32) (x2 : Int32) (x3 : Int32) (x4 : Int32) (M : Mm), Sm V C 6 n0 n0 (qI V C) 33 [(0, rv V.1 r0), (1, .int x1), (2, .int x2), (3, .int x3), (4, .int x4)] [] M (k33 r0 x1 x2 x3 x4 M)) : ∀ (r0 : Nat) (x1 : Int32) (x2 : Int32) (x3 : Int32) (x4 : Int32) (M : Mm), Sm V C 6 n0 n0 (qI V C) 147 [(0, rv V.1 r0), (1, .int x1), (2, .int x2), (3, .int x3), (4, .int x4)] [] M (s_m11_holdsFor_147 k33 r0 x1 x2 x3 x4 M) := by
  intro r0 x1 x2 x3 x4 M
  unfold s_m11_holdsFor_147
  refine Sm.iinc (v := x4 + 1) (lv' := [(4, .int (x4 + 1)), (0, rv V.1 r0), (1, .int x1), (2, .int x2), (3, .int x3)]) hC d_m11_holdsFor_147 4 rfl rfl (by decide) rfl ?_
  refine Sm.goto (tgt := 33) hC d_m11_holdsFor_150 (by decide) ?_
  refine Sm.sub [1, 2, 3, 4, 0] rfl ?_
  exact hk33 r0 x1 x2 x3 (x4 + 1) M
set_option maxRecDepth 100000 in
set_option maxHeartbeats 4000000 in
theorem w_m11_holdsFor_145 {V : Ev} {C : Cx} {n0 : Nat} (hC : Cok V C y_m11_holdsFor.cls b_m11_holdsFor 6 n0 (some .boolean) y_m11_holdsFor.name) (hR : cR C = rm_m11_holdsFor)  : ∀  (M : Mm), Sm V C 6 n0 n0 (qI V C) 145 [] [] M (s_m11_holdsFor_145 M) := by
  intro M
  unfold s_m11_holdsFor_145
  refine Sm.iconst (v := 0) hC d_m11_holdsFor_145 (by decide) ?_
  exact Sm.zret hC d_m11_holdsFor_146 rfl (Nat.sub_self _)
set_option maxRecDepth 100000 in
set_option maxHeartbeats 4000000 in
theorem w_m11_holdsFor_79 {V : Ev} {C : Cx} {n0 : Nat} (hC : Cok V C y_m11_holdsFor.cls b_m11_holdsFor 6 n0 (some .boolean) y_m11_holdsFor.name) (hR : cR C = rm_m11_holdsFor) (k33 : Nat → Int32 → Int32 → Int32 → Int32 → Mm → Option (Int32 × Mm)) (hk33 : ∀ (r0 : Nat) (x1 : Int32) (x2 : Int32) (x3 : Int32) (x4 : Int32) (M : Mm), Sm V C 6 n0 n0 (qI V C) 33 [(0, rv V.1 r0), (1, .int x1), (2, .int x2), (3, .int x3), (4, .int x4)] [] M (k33 r0 x1 x2 x3 x4 M)) : ∀ (r0 : Nat) (x1 : Int32) (x2 : Int32) (x3 : Int32) (x4 : Int32) (x5 : Int32) (M : Mm), Sm V C 6 n0 n0 (qI V C) 79 [(0, rv V.1 r0), (1, .int x1), (2, .int x2), (3, .int x3), (4, .int x4), (5, .int x5)] [] M (s_m11_holdsFor_79 k33 r0 x1 x2 x3 x4 x5 M) := by
  intro r0 x1 x2 x3 x4 x5 M
  unfold s_m11_holdsFor_79
  refine Sm.aload_n hC d_m11_holdsFor_79 rfl 0 rfl ?_
  refine Sm.getR hC fl_m11_67 rfl d_m11_holdsFor_80 (fun v1 => ?_)
  refine Sm.iload hC d_m11_holdsFor_83 4 rfl ?_
  refine Sm.iald hC d_m11_holdsFor_85 (fun v2 => ?_)
  refine Sm.bipush (v := 61) hC d_m11_holdsFor_86 (by decide) ?_
  refine Sm.icmp_ne (tgt := 106) hC d_m11_holdsFor_88 (by decide) ?_ ?_
  · refine Sm.aload_n hC d_m11_holdsFor_106 rfl 0 rfl ?_
    refine Sm.getR hC fl_m11_67 rfl d_m11_holdsFor_107 (fun v3 => ?_)
    refine Sm.iload hC d_m11_holdsFor_110 4 rfl ?_
    refine Sm.iald hC d_m11_holdsFor_112 (fun v4 => ?_)
    refine Sm.bipush (v := 60) hC d_m11_holdsFor_113 (by decide) ?_
    refine Sm.icmp_ne (tgt := 133) hC d_m11_holdsFor_115 (by decide) ?_ ?_
    · refine Sm.iload hC d_m11_holdsFor_133 5 rfl ?_
      refine Sm.aload_n hC d_m11_holdsFor_135 rfl 0 rfl ?_
      refine Sm.getR hC fl_m11_70 rfl d_m11_holdsFor_136 (fun v5 => ?_)
      refine Sm.iload hC d_m11_holdsFor_139 4 rfl ?_
      refine Sm.iald hC d_m11_holdsFor_141 (fun v6 => ?_)
      refine Sm.icmp_gt (tgt := 147) hC d_m11_holdsFor_142 (by decide) ?_ ?_
      · refine Sm.sub [0, 1, 2, 3, 4] rfl ?_
        exact w_m11_holdsFor_147 hC hR k33 hk33 r0 x1 x2 x3 x4 M
      · refine Sm.sub [] rfl ?_
        exact w_m11_holdsFor_145 hC hR M
    · refine Sm.iload hC d_m11_holdsFor_118 5 rfl ?_
      refine Sm.aload_n hC d_m11_holdsFor_120 rfl 0 rfl ?_
      refine Sm.getR hC fl_m11_70 rfl d_m11_holdsFor_121 (fun v7 => ?_)
      refine Sm.iload hC d_m11_holdsFor_124 4 rfl ?_
      refine Sm.iald hC d_m11_holdsFor_126 (fun v8 => ?_)
      refine Sm.icmp_lt (tgt := 147) hC d_m11_holdsFor_127 (by decide) ?_ ?_
      · refine Sm.sub [0, 1, 2, 3, 4] rfl ?_
        exact w_m11_holdsFor_147 hC hR k33 hk33 r0 x1 x2 x3 x4 M
      · refine Sm.goto (tgt := 145) hC d_m11_holdsFor_130 (by decide) ?_
        refine Sm.sub [] rfl ?_
        exact w_m11_holdsFor_145 hC hR M
  · refine Sm.iload hC d_m11_holdsFor_91 5 rfl ?_
    refine Sm.aload_n hC d_m11_holdsFor_93 rfl 0 rfl ?_
    refine Sm.getR hC fl_m11_70 rfl d_m11_holdsFor_94 (fun v9 => ?_)
    refine Sm.iload hC d_m11_holdsFor_97 4 rfl ?_
    refine Sm.iald hC d_m11_holdsFor_99 (fun v10 => ?_)
    refine Sm.icmp_eq (tgt := 147) hC d_m11_holdsFor_100 (by decide) ?_ ?_
    · refine Sm.sub [0, 1, 2, 3, 4] rfl ?_
      exact w_m11_holdsFor_147 hC hR k33 hk33 r0 x1 x2 x3 x4 M
    · refine Sm.goto (tgt := 145) hC d_m11_holdsFor_103 (by decide) ?_
      refine Sm.sub [] rfl ?_
      exact w_m11_holdsFor_145 hC hR M
set_option maxRecDepth 100000 in
set_option maxHeartbeats 4000000 in
theorem w_m11_holdsFor_33 {V : Ev} {C : Cx} {n0 : Nat} (hC : Cok V C y_m11_holdsFor.cls b_m11_holdsFor 6 n0 (some .boolean) y_m11_holdsFor.name) (hR : cR C = rm_m11_holdsFor)  : ∀ (n : Nat) (r0 : Nat) (x1 : Int32) (x2 : Int32) (x3 : Int32) (x4 : Int32) (M : Mm), Sm V C 6 n0 n0 (qI V C) 33 [(0, rv V.1 r0), (1, .int x1), (2, .int x2), (3, .int x3), (4, .int x4)] [] M (s_m11_holdsFor_33 n r0 x1 x2 x3 x4 M) := by
  intro n
  induction n with
  | zero => exact fun r0 x1 x2 x3 x4 M => Sm.none_
  | succ n ih =>
    intro r0 x1 x2 x3 x4 M
    unfold s_m11_holdsFor_33
    refine Sm.iload hC d_m11_holdsFor_33 4 rfl ?_
    refine Sm.iconst (v := 3) hC d_m11_holdsFor_35 (by decide) ?_
    refine Sm.iload_n hC d_m11_holdsFor_36 rfl 1 rfl ?_
    refine Sm.imul hC d_m11_holdsFor_37 ?_
    refine Sm.aload_n hC d_m11_holdsFor_38 rfl 0 rfl ?_
    refine Sm.getR hC fl_m11_61 rfl d_m11_holdsFor_39 (fun v1 => ?_)
    refine Sm.iload_n hC d_m11_holdsFor_42 rfl 1 rfl ?_
    refine Sm.iald hC d_m11_holdsFor_43 (fun v2 => ?_)
    refine Sm.iadd hC d_m11_holdsFor_44 ?_
    refine Sm.icmp_ge (tgt := 153) hC d_m11_holdsFor_45 (by decide) ?_ ?_
    · refine Sm.iconst (v := 1) hC d_m11_holdsFor_153 (by decide) ?_
      exact Sm.zret hC d_m11_holdsFor_154 rfl (Nat.sub_self _)
    · refine Sm.aload_n hC d_m11_holdsFor_48 rfl 0 rfl ?_
      refine Sm.aload_n hC d_m11_holdsFor_49 rfl 0 rfl ?_
      refine Sm.getR hC fl_m11_64 rfl d_m11_holdsFor_50 (fun v3 => ?_)
      refine Sm.iload hC d_m11_holdsFor_53 4 rfl ?_
      refine Sm.iald hC d_m11_holdsFor_55 (fun v4 => ?_)
      refine Sm.iload_n hC d_m11_holdsFor_56 rfl 2 rfl ?_
      refine Sm.iload_n hC d_m11_holdsFor_57 rfl 3 rfl ?_
      refine Sm.callVi 11 (As := [.int v4, .int x2, .int x3]) (st := []) hC hR cw_m11_valueOf (tw_i 1134 (by decide +kernel)) (tw_i 1136 (by decide +kernel)) (tw_i 35 (by decide +kernel)) ⟨_, rfl, rfl⟩ (fun r9 M9 h9 => ok_m11_valueOf h9) rfl rfl (RW.of ⟨rfl, rfl, by decide, by decide⟩) (by simp) d_m11_holdsFor_58 (fun v5 M6 => ?_)
      refine Sm.istore (lv' := [(5, .int v5), (0, rv V.1 r0), (1, .int x1), (2, .int x2), (3, .int x3), (4, .int x4)]) hC d_m11_holdsFor_61 (by decide) rfl ?_
      refine Sm.aload_n hC d_m11_holdsFor_63 rfl 1 rfl ?_
      refine Sm.getR hC fl_m11_64 rfl d_m11_holdsFor_64 (fun v7 => ?_)
      refine Sm.iload hC d_m11_holdsFor_67 5 rfl ?_
      refine Sm.iald hC d_m11_holdsFor_69 (fun v8 => ?_)
      refine Sm.iconst (v := 4) hC d_m11_holdsFor_70 (by decide) ?_
      refine Sm.icmp_ne (tgt := 79) hC d_m11_holdsFor_71 (by decide) ?_ ?_
      · refine Sm.sub [1, 2, 3, 4, 5, 0] rfl ?_
        exact w_m11_holdsFor_79 hC hR (s_m11_holdsFor_33 n) ih r0 x1 x2 x3 x4 v5 M6
      · refine Sm.iload_n hC d_m11_holdsFor_74 rfl 4 rfl ?_
        refine Sm.iconst (v := -1) hC d_m11_holdsFor_75 (by decide) ?_
        refine Sm.icmp_eq (tgt := 145) hC d_m11_holdsFor_76 (by decide) ?_ ?_
        · refine Sm.sub [] rfl ?_
          exact w_m11_holdsFor_145 hC hR M6
        · refine Sm.sub [1, 2, 3, 4, 5, 0] rfl ?_
          exact w_m11_holdsFor_79 hC hR (s_m11_holdsFor_33 n) ih r0 x1 x2 x3 x4 v5 M6
set_option maxRecDepth 100000 in
set_option maxHeartbeats 4000000 in
theorem ok_m11_holdsFor {l : Launch} {V : Ev} {M M' : Mm} {r : Int32} {r0 : Nat} {a1 : Int32} {a2 : Int32} {a3 : Int32} (h : s_m11_holdsFor r0 a1 a2 a3 M = some (r, M')) : Met l y_m11_holdsFor (Cond.code y_m11_holdsFor b_m11_holdsFor 6 (some .boolean) :: TW) rm_m11_holdsFor (va_Pc [rv V.1 r0, .int a1, .int a2, .int a3] (Wd V M)) (QC V (some (.int r)) M' 0) 0 0 (Af V) := by
  refine met_of (fun x : Int32 => some (.int x)) (lv0 := [(0, rv V.1 r0), (1, .int a1), (2, .int a2), (3, .int a3)]) (by decide) (by simp [lg_sl, cat_rv, cat_i, cat_l, cat_f]) (by simp [lv_args, cat_rv, cat_i, cat_l, cat_f]) (fun C hl hR hC => ?_) h
  subst hl
  generalize mN M = n0 at hC ⊢
  unfold s_m11_holdsFor
  refine Sm.aload_n hC d_m11_holdsFor_0 rfl 0 rfl ?_
  refine Sm.getI hC fl_m11_211 rfl d_m11_holdsFor_1 (fun v1 => ?_)
  refine Sm.aload_n hC d_m11_holdsFor_4 rfl 0 rfl ?_
  refine Sm.getR hC fl_m11_55 rfl d_m11_holdsFor_5 (fun v2 => ?_)
  refine Sm.iload_n hC d_m11_holdsFor_8 rfl 1 rfl ?_
  refine Sm.iald hC d_m11_holdsFor_9 (fun v3 => ?_)
  refine Sm.icmp_lt (tgt := 26) hC d_m11_holdsFor_10 (by decide) ?_ ?_
  · refine Sm.sub [] rfl ?_
    exact w_m11_holdsFor_26 hC hR M
  · refine Sm.aload_n hC d_m11_holdsFor_13 rfl 0 rfl ?_
    refine Sm.getI hC fl_m11_211 rfl d_m11_holdsFor_14 (fun v4 => ?_)
    refine Sm.aload_n hC d_m11_holdsFor_17 rfl 0 rfl ?_
    refine Sm.getR hC fl_m11_58 rfl d_m11_holdsFor_18 (fun v5 => ?_)
    refine Sm.iload_n hC d_m11_holdsFor_21 rfl 1 rfl ?_
    refine Sm.iald hC d_m11_holdsFor_22 (fun v6 => ?_)
    refine Sm.icmp_lt (tgt := 28) hC d_m11_holdsFor_23 (by decide) ?_ ?_
    · refine Sm.iconst (v := 3) hC d_m11_holdsFor_28 (by decide) ?_
      refine Sm.iload_n hC d_m11_holdsFor_29 rfl 1 rfl ?_
      refine Sm.imul hC d_m11_holdsFor_30 ?_
      refine Sm.istore (lv' := [(4, .int ((3 : Int32) * a1)), (0, rv V.1 r0), (1, .int a1), (2, .int a2), (3, .int a3)]) hC d_m11_holdsFor_31 (by decide) rfl ?_
      refine Sm.sub [1, 2, 3, 4, 0] rfl ?_
      exact w_m11_holdsFor_33 hC hR FU r0 a1 a2 a3 ((3 : Int32) * a1) M
    · refine Sm.sub [] rfl ?_
      exact w_m11_holdsFor_26 hC hR M
/-! NewsWireModel.holds(III)I -/
abbrev b_m11_holds : ByteArray := prog_13_method_28_code
def y_m11_holds : MethodName := ⟨"NewsWireModel", "holds", "(III)I"⟩
def rm_m11_holds : Room := { frames := 3, cells := 0, slots := 0, locals := 108 }
theorem cw_m11_holds : CW y_m11_holds b_m11_holds 4 (some .int) 3 := ⟨tw_i 66 (by decide +kernel), tw_i 1129 (by decide +kernel), by decide, by decide, by decide +kernel⟩
theorem d_m11_holds_0 : decode b_m11_holds 0 = .ok (.iload_n 1, 1) := by decide +kernel
theorem d_m11_holds_1 : decode b_m11_holds 1 = .ok (.iconst 0, 1) := by decide +kernel
theorem d_m11_holds_2 : decode b_m11_holds 2 = .ok (.aload_n 0, 1) := by decide +kernel
theorem d_m11_holds_3 : decode b_m11_holds 3 = .ok (.getfield 199, 3) := by decide +kernel
theorem d_m11_holds_6 : decode b_m11_holds 6 = .ok (.iconst 1, 1) := by decide +kernel
theorem d_m11_holds_7 : decode b_m11_holds 7 = .ok (.isub, 1) := by decide +kernel
theorem d_m11_holds_8 : decode b_m11_holds 8 = .ok (.invokestatic 135, 3) := by decide +kernel
theorem d_m11_holds_11 : decode b_m11_holds 11 = .ok (.ifCond .eq 21, 3) := by decide +kernel
theorem d_m11_holds_14 : decode b_m11_holds 14 = .ok (.aload_n 0, 1) := by decide +kernel
theorem d_m11_holds_15 : decode b_m11_holds 15 = .ok (.iload_n 2, 1) := by decide +kernel
theorem d_m11_holds_16 : decode b_m11_holds 16 = .ok (.invokevirtual 152, 3) := by decide +kernel
theorem d_m11_holds_19 : decode b_m11_holds 19 = .ok (.ifCond .eq 13, 3) := by decide +kernel
theorem d_m11_holds_22 : decode b_m11_holds 22 = .ok (.iload_n 3, 1) := by decide +kernel
theorem d_m11_holds_23 : decode b_m11_holds 23 = .ok (.iconst (-1), 1) := by decide +kernel
theorem d_m11_holds_24 : decode b_m11_holds 24 = .ok (.bipush 7, 2) := by decide +kernel
theorem d_m11_holds_26 : decode b_m11_holds 26 = .ok (.invokestatic 135, 3) := by decide +kernel
theorem d_m11_holds_29 : decode b_m11_holds 29 = .ok (.ifCond .ne 10, 3) := by decide +kernel
theorem d_m11_holds_32 : decode b_m11_holds 32 = .ok (.aload_n 0, 1) := by decide +kernel
theorem d_m11_holds_33 : decode b_m11_holds 33 = .ok (.bipush (-3), 2) := by decide +kernel
theorem d_m11_holds_35 : decode b_m11_holds 35 = .ok (.invokevirtual 139, 3) := by decide +kernel
theorem d_m11_holds_38 : decode b_m11_holds 38 = .ok (.ireturn, 1) := by decide +kernel
theorem d_m11_holds_39 : decode b_m11_holds 39 = .ok (.aload_n 0, 1) := by decide +kernel
theorem d_m11_holds_40 : decode b_m11_holds 40 = .ok (.iload_n 1, 1) := by decide +kernel
theorem d_m11_holds_41 : decode b_m11_holds 41 = .ok (.iload_n 2, 1) := by decide +kernel
theorem d_m11_holds_42 : decode b_m11_holds 42 = .ok (.iload_n 3, 1) := by decide +kernel
theorem d_m11_holds_43 : decode b_m11_holds 43 = .ok (.invokevirtual 218, 3) := by decide +kernel
theorem d_m11_holds_46 : decode b_m11_holds 46 = .ok (.ifCond .eq 7, 3) := by decide +kernel
theorem d_m11_holds_49 : decode b_m11_holds 49 = .ok (.iconst 1, 1) := by decide +kernel
theorem d_m11_holds_50 : decode b_m11_holds 50 = .ok (.goto 4, 3) := by decide +kernel
theorem d_m11_holds_53 : decode b_m11_holds 53 = .ok (.iconst 0, 1) := by decide +kernel
theorem d_m11_holds_54 : decode b_m11_holds 54 = .ok (.ireturn, 1) := by decide +kernel
def s_m11_holds_32  (r0 : Nat) (M : Mm) : Option (Int32 × Mm) := cl (has M r0 21) (s_m11_refused r0 (-3 : Int32) M) (fun v1 M2 => some (v1, M2))
def s_m11_holds_54  (t0 : Int32) (M : Mm) : Option (Int32 × Mm) := some (t0, M)
def s_m11_holds (r0 : Nat) (a1 : Int32) (a2 : Int32) (a3 : Int32) (M : Mm) : Option (Int32 × Mm) := gI M r0 21 17 (fun v1 => cl true (s_m11_in a1 (0 : Int32) (v1 - (1 : Int32)) M) (fun v2 M3 => (if v2 = 0 then s_m11_holds_32 r0 M3 else cl (has M3 r0 21) (s_m11_isPiece r0 a2 M3) (fun v4 M5 => (if v4 = 0 then s_m11_holds_32 r0 M5 else cl true (s_m11_in a3 (-1 : Int32) (7 : Int32) M5) (fun v6 M7 => (if ¬ v6 = 0 then cl (has M7 r0 21) (s_m11_holdsFor r0 a1 a2 a3 M7) (fun v8 M9 => (if v8 = 0 then s_m11_holds_54 (0 : Int32) M9 else s_m11_holds_54 (1 : Int32) M9)) else s_m11_holds_32 r0 M7)))))))
set_option maxRecDepth 100000 in
set_option maxHeartbeats 4000000 in
theorem w_m11_holds_32 {V : Ev} {C : Cx} {n0 : Nat} (hC : Cok V C y_m11_holds.cls b_m11_holds 4 n0 (some .int) y_m11_holds.name) (hR : cR C = rm_m11_holds)  : ∀ (r0 : Nat) (M : Mm), Sm V C 4 n0 n0 (qI V C) 32 [(0, rv V.1 r0)] [] M (s_m11_holds_32 r0 M) := by
  intro r0 M
  unfold s_m11_holds_32
  refine Sm.aload_n hC d_m11_holds_32 rfl 0 rfl ?_
  refine Sm.bipush (v := -3) hC d_m11_holds_33 (by decide) ?_
  refine Sm.callVi 11 (As := [.int (-3 : Int32)]) (st := []) hC hR cw_m11_refused (tw_i 1048 (by decide +kernel)) (tw_i 1050 (by decide +kernel)) (tw_i 23 (by decide +kernel)) ⟨_, rfl, rfl⟩ (fun r9 M9 h9 => ok_m11_refused h9) rfl rfl (RW.of ⟨rfl, rfl, by decide, by decide⟩) (by simp) d_m11_holds_35 (fun v1 M2 => ?_)
  exact Sm.iret hC d_m11_holds_38 rfl (Nat.sub_self _)
set_option maxRecDepth 100000 in
set_option maxHeartbeats 4000000 in
theorem w_m11_holds_54 {V : Ev} {C : Cx} {n0 : Nat} (hC : Cok V C y_m11_holds.cls b_m11_holds 4 n0 (some .int) y_m11_holds.name) (hR : cR C = rm_m11_holds)  : ∀ (t0 : Int32) (M : Mm), Sm V C 4 n0 n0 (qI V C) 54 [] [.int t0] M (s_m11_holds_54 t0 M) := by
  intro t0 M
  unfold s_m11_holds_54
  exact Sm.iret hC d_m11_holds_54 rfl (Nat.sub_self _)
set_option maxRecDepth 100000 in
set_option maxHeartbeats 4000000 in
theorem ok_m11_holds {l : Launch} {V : Ev} {M M' : Mm} {r : Int32} {r0 : Nat} {a1 : Int32} {a2 : Int32} {a3 : Int32} (h : s_m11_holds r0 a1 a2 a3 M = some (r, M')) : Met l y_m11_holds (Cond.code y_m11_holds b_m11_holds 4 (some .int) :: TW) rm_m11_holds (va_Pc [rv V.1 r0, .int a1, .int a2, .int a3] (Wd V M)) (QC V (some (.int r)) M' 0) 0 0 (Af V) := by
  refine met_of (fun x : Int32 => some (.int x)) (lv0 := [(0, rv V.1 r0), (1, .int a1), (2, .int a2), (3, .int a3)]) (by decide) (by simp [lg_sl, cat_rv, cat_i, cat_l, cat_f]) (by simp [lv_args, cat_rv, cat_i, cat_l, cat_f]) (fun C hl hR hC => ?_) h
  subst hl
  generalize mN M = n0 at hC ⊢
  unfold s_m11_holds
  refine Sm.iload_n hC d_m11_holds_0 rfl 1 rfl ?_
  refine Sm.iconst (v := 0) hC d_m11_holds_1 (by decide) ?_
  refine Sm.aload_n hC d_m11_holds_2 rfl 0 rfl ?_
  refine Sm.getI hC fl_m11_199 rfl d_m11_holds_3 (fun v1 => ?_)
  refine Sm.iconst (v := 1) hC d_m11_holds_6 (by decide) ?_
  refine Sm.isub hC d_m11_holds_7 ?_
  refine Sm.callSi (As := [.int a1, .int (0 : Int32), .int (v1 - (1 : Int32))]) (st := []) hC hR cw_m11_in (tw_i 1045 (by decide +kernel)) (tw_i 1046 (by decide +kernel)) (fun r9 M9 h9 => ok_m11_in h9) rfl rfl (RW.of ⟨rfl, rfl, by decide, by decide⟩) (by simp) d_m11_holds_8 (fun v2 M3 => ?_)
  refine Sm.if_eq (tgt := 32) hC d_m11_holds_11 (by decide) ?_ ?_
  · refine Sm.sub [0] rfl ?_
    exact w_m11_holds_32 hC hR r0 M3
  · refine Sm.aload_n hC d_m11_holds_14 rfl 0 rfl ?_
    refine Sm.iload_n hC d_m11_holds_15 rfl 2 rfl ?_
    refine Sm.callVi 11 (As := [.int a2]) (st := []) hC hR cw_m11_isPiece (tw_i 1060 (by decide +kernel)) (tw_i 1062 (by decide +kernel)) (tw_i 24 (by decide +kernel)) ⟨_, rfl, rfl⟩ (fun r9 M9 h9 => ok_m11_isPiece h9) rfl rfl (RW.of ⟨rfl, rfl, by decide, by decide⟩) (by simp) d_m11_holds_16 (fun v4 M5 => ?_)
    refine Sm.if_eq (tgt := 32) hC d_m11_holds_19 (by decide) ?_ ?_
    · refine Sm.sub [0] rfl ?_
      exact w_m11_holds_32 hC hR r0 M5
    · refine Sm.iload_n hC d_m11_holds_22 rfl 3 rfl ?_
      refine Sm.iconst (v := -1) hC d_m11_holds_23 (by decide) ?_
      refine Sm.bipush (v := 7) hC d_m11_holds_24 (by decide) ?_
      refine Sm.callSi (As := [.int a3, .int (-1 : Int32), .int (7 : Int32)]) (st := []) hC hR cw_m11_in (tw_i 1045 (by decide +kernel)) (tw_i 1046 (by decide +kernel)) (fun r9 M9 h9 => ok_m11_in h9) rfl rfl (RW.of ⟨rfl, rfl, by decide, by decide⟩) (by simp) d_m11_holds_26 (fun v6 M7 => ?_)
      refine Sm.if_ne (tgt := 39) hC d_m11_holds_29 (by decide) ?_ ?_
      · refine Sm.aload_n hC d_m11_holds_39 rfl 0 rfl ?_
        refine Sm.iload_n hC d_m11_holds_40 rfl 1 rfl ?_
        refine Sm.iload_n hC d_m11_holds_41 rfl 2 rfl ?_
        refine Sm.iload_n hC d_m11_holds_42 rfl 3 rfl ?_
        refine Sm.callVi 11 (As := [.int a1, .int a2, .int a3]) (st := []) hC hR cw_m11_holdsFor (tw_i 1130 (by decide +kernel)) (tw_i 1132 (by decide +kernel)) (tw_i 34 (by decide +kernel)) ⟨_, rfl, rfl⟩ (fun r9 M9 h9 => ok_m11_holdsFor h9) rfl rfl (RW.of ⟨rfl, rfl, by decide, by decide⟩) (by simp) d_m11_holds_43 (fun v8 M9 => ?_)
        refine Sm.if_eq (tgt := 53) hC d_m11_holds_46 (by decide) ?_ ?_
        · refine Sm.iconst (v := 0) hC d_m11_holds_53 (by decide) ?_
          refine Sm.sub [] rfl ?_
          exact w_m11_holds_54 hC hR (0 : Int32) M9
        · refine Sm.iconst (v := 1) hC d_m11_holds_49 (by decide) ?_
          refine Sm.goto (tgt := 54) hC d_m11_holds_50 (by decide) ?_
          refine Sm.sub [] rfl ?_
          exact w_m11_holds_54 hC hR (1 : Int32) M9
      · refine Sm.sub [0] rfl ?_
        exact w_m11_holds_32 hC hR r0 M7
/-! NewsWireModel.rankOf(I)I -/
abbrev b_m11_rankOf : ByteArray := prog_13_method_29_code
def y_m11_rankOf : MethodName := ⟨"NewsWireModel", "rankOf", "(I)I"⟩
def rm_m11_rankOf : Room := { frames := 3, cells := 0, slots := 0, locals := 108 }
theorem cw_m11_rankOf : CW y_m11_rankOf b_m11_rankOf 3 (some .int) 1 := ⟨tw_i 66 (by decide +kernel), tw_i 1145 (by decide +kernel), by decide, by decide, by decide +kernel⟩
theorem d_m11_rankOf_0 : decode b_m11_rankOf 0 = .ok (.aload_n 0, 1) := by decide +kernel
theorem d_m11_rankOf_1 : decode b_m11_rankOf 1 = .ok (.getfield 199, 3) := by decide +kernel
theorem d_m11_rankOf_4 : decode b_m11_rankOf 4 = .ok (.iconst 1, 1) := by decide +kernel
theorem d_m11_rankOf_5 : decode b_m11_rankOf 5 = .ok (.isub, 1) := by decide +kernel
theorem d_m11_rankOf_6 : decode b_m11_rankOf 6 = .ok (.istore_n 2, 1) := by decide +kernel
theorem d_m11_rankOf_7 : decode b_m11_rankOf 7 = .ok (.iload_n 2, 1) := by decide +kernel
theorem d_m11_rankOf_8 : decode b_m11_rankOf 8 = .ok (.ifCond .lt 35, 3) := by decide +kernel
theorem d_m11_rankOf_11 : decode b_m11_rankOf 11 = .ok (.aload_n 0, 1) := by decide +kernel
theorem d_m11_rankOf_12 : decode b_m11_rankOf 12 = .ok (.getfield 49, 3) := by decide +kernel
theorem d_m11_rankOf_15 : decode b_m11_rankOf 15 = .ok (.iload_n 2, 1) := by decide +kernel
theorem d_m11_rankOf_16 : decode b_m11_rankOf 16 = .ok (.iaload, 1) := by decide +kernel
theorem d_m11_rankOf_17 : decode b_m11_rankOf 17 = .ok (.ifCond .ne 20, 3) := by decide +kernel
theorem d_m11_rankOf_20 : decode b_m11_rankOf 20 = .ok (.aload_n 0, 1) := by decide +kernel
theorem d_m11_rankOf_21 : decode b_m11_rankOf 21 = .ok (.iload_n 2, 1) := by decide +kernel
theorem d_m11_rankOf_22 : decode b_m11_rankOf 22 = .ok (.iload_n 1, 1) := by decide +kernel
theorem d_m11_rankOf_23 : decode b_m11_rankOf 23 = .ok (.iconst (-1), 1) := by decide +kernel
theorem d_m11_rankOf_24 : decode b_m11_rankOf 24 = .ok (.invokevirtual 218, 3) := by decide +kernel
theorem d_m11_rankOf_27 : decode b_m11_rankOf 27 = .ok (.ifCond .eq 10, 3) := by decide +kernel
theorem d_m11_rankOf_30 : decode b_m11_rankOf 30 = .ok (.aload_n 0, 1) := by decide +kernel
theorem d_m11_rankOf_31 : decode b_m11_rankOf 31 = .ok (.getfield 52, 3) := by decide +kernel
theorem d_m11_rankOf_34 : decode b_m11_rankOf 34 = .ok (.iload_n 2, 1) := by decide +kernel
theorem d_m11_rankOf_35 : decode b_m11_rankOf 35 = .ok (.iaload, 1) := by decide +kernel
theorem d_m11_rankOf_36 : decode b_m11_rankOf 36 = .ok (.ireturn, 1) := by decide +kernel
theorem d_m11_rankOf_37 : decode b_m11_rankOf 37 = .ok (.iinc 2 (-1), 3) := by decide +kernel
theorem d_m11_rankOf_40 : decode b_m11_rankOf 40 = .ok (.goto (-33), 3) := by decide +kernel
theorem d_m11_rankOf_43 : decode b_m11_rankOf 43 = .ok (.aload_n 0, 1) := by decide +kernel
theorem d_m11_rankOf_44 : decode b_m11_rankOf 44 = .ok (.getfield 31, 3) := by decide +kernel
theorem d_m11_rankOf_47 : decode b_m11_rankOf 47 = .ok (.iload_n 1, 1) := by decide +kernel
theorem d_m11_rankOf_48 : decode b_m11_rankOf 48 = .ok (.iaload, 1) := by decide +kernel
theorem d_m11_rankOf_49 : decode b_m11_rankOf 49 = .ok (.ireturn, 1) := by decide +kernel
def s_m11_rankOf_37 (k7 : Nat → Int32 → Int32 → Mm → Option (Int32 × Mm)) (r0 : Nat) (x1 : Int32) (x2 : Int32) (M : Mm) : Option (Int32 × Mm) := k7 r0 x1 (x2 + (-1)) M
def s_m11_rankOf_7  : Nat → Nat → Int32 → Int32 → Mm → Option (Int32 × Mm)
  | 0, _, _, _, _ => none
  | n + 1, r0, x1, x2, M => (if x2 < 0 then gR M r0 21 10 (fun v1 => aI M v1 0 x1 (fun v2 => some (v2, M))) else gR M r0 21 18 (fun v3 => aI M v3 0 x2 (fun v4 => (if ¬ v4 = 0 then s_m11_rankOf_37 (s_m11_rankOf_7 n) r0 x1 x2 M else cl (has M r0 21) (s_m11_holdsFor r0 x2 x1 (-1 : Int32) M) (fun v5 M6 => (if v5 = 0 then s_m11_rankOf_37 (s_m11_rankOf_7 n) r0 x1 x2 M6 else gR M6 r0 21 19 (fun v7 => aI M6 v7 0 x2 (fun v8 => some (v8, M6)))))))))
def s_m11_rankOf (r0 : Nat) (a1 : Int32) (M : Mm) : Option (Int32 × Mm) := gI M r0 21 17 (fun v1 => s_m11_rankOf_7 FU r0 a1 (v1 - (1 : Int32)) M)
set_option maxRecDepth 100000 in
set_option maxHeartbeats 4000000 in
theorem w_m11_rankOf_37 {V : Ev} {C : Cx} {n0 : Nat} (hC : Cok V C y_m11_rankOf.cls b_m11_rankOf 3 n0 (some .int) y_m11_rankOf.name) (hR : cR C = rm_m11_rankOf) (k7 : Nat → Int32 → Int32 → Mm → Option (Int32 × Mm)) (hk7 : ∀ (r0 : Nat) (x1 : Int32) (x2 : Int32) (M : Mm), Sm V C 3 n0 n0 (qI V C) 7 [(0, rv V.1 r0), (1, .int x1), (2, .int x2)] [] M (k7 r0 x1 x2 M)) : ∀ (r0 : Nat) (x1 : Int32) (x2 : Int32) (M : Mm), Sm V C 3 n0 n0 (qI V C) 37 [(0, rv V.1 r0), (1, .int x1), (2, .int x2)] [] M (s_m11_rankOf_37 k7 r0 x1 x2 M) := by
  intro r0 x1 x2 M
  unfold s_m11_rankOf_37
  refine Sm.iinc (v := x2 + (-1)) (lv' := [(2, .int (x2 + (-1))), (0, rv V.1 r0), (1, .int x1)]) hC d_m11_rankOf_37 2 rfl rfl (by decide) rfl ?_
  refine Sm.goto (tgt := 7) hC d_m11_rankOf_40 (by decide) ?_
  refine Sm.sub [1, 2, 0] rfl ?_
  exact hk7 r0 x1 (x2 + (-1)) M
set_option maxRecDepth 100000 in
set_option maxHeartbeats 4000000 in
theorem w_m11_rankOf_7 {V : Ev} {C : Cx} {n0 : Nat} (hC : Cok V C y_m11_rankOf.cls b_m11_rankOf 3 n0 (some .int) y_m11_rankOf.name) (hR : cR C = rm_m11_rankOf)  : ∀ (n : Nat) (r0 : Nat) (x1 : Int32) (x2 : Int32) (M : Mm), Sm V C 3 n0 n0 (qI V C) 7 [(0, rv V.1 r0), (1, .int x1), (2, .int x2)] [] M (s_m11_rankOf_7 n r0 x1 x2 M) := by
  intro n
  induction n with
  | zero => exact fun r0 x1 x2 M => Sm.none_
  | succ n ih =>
    intro r0 x1 x2 M
    unfold s_m11_rankOf_7
    refine Sm.iload_n hC d_m11_rankOf_7 rfl 2 rfl ?_
    refine Sm.if_lt (tgt := 43) hC d_m11_rankOf_8 (by decide) ?_ ?_
    · refine Sm.aload_n hC d_m11_rankOf_43 rfl 0 rfl ?_
      refine Sm.getR hC fl_m11_31 rfl d_m11_rankOf_44 (fun v1 => ?_)
      refine Sm.iload_n hC d_m11_rankOf_47 rfl 1 rfl ?_
      refine Sm.iald hC d_m11_rankOf_48 (fun v2 => ?_)
      exact Sm.iret hC d_m11_rankOf_49 rfl (Nat.sub_self _)
    · refine Sm.aload_n hC d_m11_rankOf_11 rfl 0 rfl ?_
      refine Sm.getR hC fl_m11_49 rfl d_m11_rankOf_12 (fun v3 => ?_)
      refine Sm.iload_n hC d_m11_rankOf_15 rfl 2 rfl ?_
      refine Sm.iald hC d_m11_rankOf_16 (fun v4 => ?_)
      refine Sm.if_ne (tgt := 37) hC d_m11_rankOf_17 (by decide) ?_ ?_
      · exact w_m11_rankOf_37 hC hR (s_m11_rankOf_7 n) ih r0 x1 x2 M
      · refine Sm.aload_n hC d_m11_rankOf_20 rfl 0 rfl ?_
        refine Sm.iload_n hC d_m11_rankOf_21 rfl 2 rfl ?_
        refine Sm.iload_n hC d_m11_rankOf_22 rfl 1 rfl ?_
        refine Sm.iconst (v := -1) hC d_m11_rankOf_23 (by decide) ?_
        refine Sm.callVi 11 (As := [.int x2, .int x1, .int (-1 : Int32)]) (st := []) hC hR cw_m11_holdsFor (tw_i 1130 (by decide +kernel)) (tw_i 1132 (by decide +kernel)) (tw_i 34 (by decide +kernel)) ⟨_, rfl, rfl⟩ (fun r9 M9 h9 => ok_m11_holdsFor h9) rfl rfl (RW.of ⟨rfl, rfl, by decide, by decide⟩) (by simp) d_m11_rankOf_24 (fun v5 M6 => ?_)
        refine Sm.if_eq (tgt := 37) hC d_m11_rankOf_27 (by decide) ?_ ?_
        · exact w_m11_rankOf_37 hC hR (s_m11_rankOf_7 n) ih r0 x1 x2 M6
        · refine Sm.aload_n hC d_m11_rankOf_30 rfl 0 rfl ?_
          refine Sm.getR hC fl_m11_52 rfl d_m11_rankOf_31 (fun v7 => ?_)
          refine Sm.iload_n hC d_m11_rankOf_34 rfl 2 rfl ?_
          refine Sm.iald hC d_m11_rankOf_35 (fun v8 => ?_)
          exact Sm.iret hC d_m11_rankOf_36 rfl (Nat.sub_self _)
set_option maxRecDepth 100000 in
set_option maxHeartbeats 4000000 in
theorem ok_m11_rankOf {l : Launch} {V : Ev} {M M' : Mm} {r : Int32} {r0 : Nat} {a1 : Int32} (h : s_m11_rankOf r0 a1 M = some (r, M')) : Met l y_m11_rankOf (Cond.code y_m11_rankOf b_m11_rankOf 3 (some .int) :: TW) rm_m11_rankOf (va_Pc [rv V.1 r0, .int a1] (Wd V M)) (QC V (some (.int r)) M' 0) 0 0 (Af V) := by
  refine met_of (fun x : Int32 => some (.int x)) (lv0 := [(0, rv V.1 r0), (1, .int a1)]) (by decide) (by simp [lg_sl, cat_rv, cat_i, cat_l, cat_f]) (by simp [lv_args, cat_rv, cat_i, cat_l, cat_f]) (fun C hl hR hC => ?_) h
  subst hl
  generalize mN M = n0 at hC ⊢
  unfold s_m11_rankOf
  refine Sm.aload_n hC d_m11_rankOf_0 rfl 0 rfl ?_
  refine Sm.getI hC fl_m11_199 rfl d_m11_rankOf_1 (fun v1 => ?_)
  refine Sm.iconst (v := 1) hC d_m11_rankOf_4 (by decide) ?_
  refine Sm.isub hC d_m11_rankOf_5 ?_
  refine Sm.istore_n (lv' := [(2, .int (v1 - (1 : Int32))), (0, rv V.1 r0), (1, .int a1)]) hC d_m11_rankOf_6 rfl (by decide) rfl ?_
  refine Sm.sub [1, 2, 0] rfl ?_
  exact w_m11_rankOf_7 hC hR FU r0 a1 (v1 - (1 : Int32)) M
/-! NewsWireModel.isBarred(II)Z -/
abbrev b_m11_isBarred : ByteArray := prog_13_method_30_code
def y_m11_isBarred : MethodName := ⟨"NewsWireModel", "isBarred", "(II)Z"⟩
def rm_m11_isBarred : Room := { frames := 3, cells := 0, slots := 0, locals := 108 }
theorem cw_m11_isBarred : CW y_m11_isBarred b_m11_isBarred 5 (some .boolean) 2 := ⟨tw_i 66 (by decide +kernel), tw_i 1156 (by decide +kernel), by decide, by decide, by decide +kernel⟩
theorem d_m11_isBarred_0 : decode b_m11_isBarred 0 = .ok (.iconst 0, 1) := by decide +kernel
theorem d_m11_isBarred_1 : decode b_m11_isBarred 1 = .ok (.istore_n 3, 1) := by decide +kernel
theorem d_m11_isBarred_2 : decode b_m11_isBarred 2 = .ok (.iconst 0, 1) := by decide +kernel
theorem d_m11_isBarred_3 : decode b_m11_isBarred 3 = .ok (.istore 4, 2) := by decide +kernel
theorem d_m11_isBarred_5 : decode b_m11_isBarred 5 = .ok (.iload 4, 2) := by decide +kernel
theorem d_m11_isBarred_7 : decode b_m11_isBarred 7 = .ok (.aload_n 0, 1) := by decide +kernel
theorem d_m11_isBarred_8 : decode b_m11_isBarred 8 = .ok (.getfield 199, 3) := by decide +kernel
theorem d_m11_isBarred_11 : decode b_m11_isBarred 11 = .ok (.if_icmp .ge 52, 3) := by decide +kernel
theorem d_m11_isBarred_14 : decode b_m11_isBarred 14 = .ok (.iload_n 3, 1) := by decide +kernel
theorem d_m11_isBarred_15 : decode b_m11_isBarred 15 = .ok (.ifCond .ne 36, 3) := by decide +kernel
theorem d_m11_isBarred_18 : decode b_m11_isBarred 18 = .ok (.aload_n 0, 1) := by decide +kernel
theorem d_m11_isBarred_19 : decode b_m11_isBarred 19 = .ok (.getfield 49, 3) := by decide +kernel
theorem d_m11_isBarred_22 : decode b_m11_isBarred 22 = .ok (.iload 4, 2) := by decide +kernel
theorem d_m11_isBarred_24 : decode b_m11_isBarred 24 = .ok (.iaload, 1) := by decide +kernel
theorem d_m11_isBarred_25 : decode b_m11_isBarred 25 = .ok (.iconst 1, 1) := by decide +kernel
theorem d_m11_isBarred_26 : decode b_m11_isBarred 26 = .ok (.if_icmp .ne 29, 3) := by decide +kernel
theorem d_m11_isBarred_29 : decode b_m11_isBarred 29 = .ok (.aload_n 0, 1) := by decide +kernel
theorem d_m11_isBarred_30 : decode b_m11_isBarred 30 = .ok (.getfield 52, 3) := by decide +kernel
theorem d_m11_isBarred_33 : decode b_m11_isBarred 33 = .ok (.iload 4, 2) := by decide +kernel
theorem d_m11_isBarred_35 : decode b_m11_isBarred 35 = .ok (.iaload, 1) := by decide +kernel
theorem d_m11_isBarred_36 : decode b_m11_isBarred 36 = .ok (.iload_n 2, 1) := by decide +kernel
theorem d_m11_isBarred_37 : decode b_m11_isBarred 37 = .ok (.if_icmp .ne 18, 3) := by decide +kernel
theorem d_m11_isBarred_40 : decode b_m11_isBarred 40 = .ok (.aload_n 0, 1) := by decide +kernel
theorem d_m11_isBarred_41 : decode b_m11_isBarred 41 = .ok (.iload 4, 2) := by decide +kernel
theorem d_m11_isBarred_43 : decode b_m11_isBarred 43 = .ok (.iload_n 1, 1) := by decide +kernel
theorem d_m11_isBarred_44 : decode b_m11_isBarred 44 = .ok (.iload_n 2, 1) := by decide +kernel
theorem d_m11_isBarred_45 : decode b_m11_isBarred 45 = .ok (.invokevirtual 218, 3) := by decide +kernel
theorem d_m11_isBarred_48 : decode b_m11_isBarred 48 = .ok (.ifCond .eq 7, 3) := by decide +kernel
theorem d_m11_isBarred_51 : decode b_m11_isBarred 51 = .ok (.iconst 1, 1) := by decide +kernel
theorem d_m11_isBarred_52 : decode b_m11_isBarred 52 = .ok (.goto 4, 3) := by decide +kernel
theorem d_m11_isBarred_55 : decode b_m11_isBarred 55 = .ok (.iconst 0, 1) := by decide +kernel
theorem d_m11_isBarred_56 : decode b_m11_isBarred 56 = .ok (.istore_n 3, 1) := by decide +kernel
theorem d_m11_isBarred_57 : decode b_m11_isBarred 57 = .ok (.iinc 4 1, 3) := by decide +kernel
theorem d_m11_isBarred_60 : decode b_m11_isBarred 60 = .ok (.goto (-55), 3) := by decide +kernel
theorem d_m11_isBarred_63 : decode b_m11_isBarred 63 = .ok (.iload_n 3, 1) := by decide +kernel
theorem d_m11_isBarred_64 : decode b_m11_isBarred 64 = .ok (.ireturn, 1) := by decide +kernel
def s_m11_isBarred_56 (k5 : Nat → Int32 → Int32 → Int32 → Int32 → Mm → Option (Int32 × Mm)) (r0 : Nat) (x1 : Int32) (x2 : Int32) (x4 : Int32) (t0 : Int32) (M : Mm) : Option (Int32 × Mm) := k5 r0 x1 x2 t0 (x4 + 1) M
def s_m11_isBarred_51 (k5 : Nat → Int32 → Int32 → Int32 → Int32 → Mm → Option (Int32 × Mm)) (r0 : Nat) (x1 : Int32) (x2 : Int32) (x4 : Int32) (M : Mm) : Option (Int32 × Mm) := s_m11_isBarred_56 k5 r0 x1 x2 x4 (1 : Int32) M
def s_m11_isBarred_55 (k5 : Nat → Int32 → Int32 → Int32 → Int32 → Mm → Option (Int32 × Mm)) (r0 : Nat) (x1 : Int32) (x2 : Int32) (x4 : Int32) (M : Mm) : Option (Int32 × Mm) := s_m11_isBarred_56 k5 r0 x1 x2 x4 (0 : Int32) M
def s_m11_isBarred_5  : Nat → Nat → Int32 → Int32 → Int32 → Int32 → Mm → Option (Int32 × Mm)
  | 0, _, _, _, _, _, _ => none
  | n + 1, r0, x1, x2, x3, x4, M => gI M r0 21 17 (fun v1 => (if v1 ≤ x4 then rz x3 (some (x3, M)) else (if ¬ x3 = 0 then s_m11_isBarred_51 (s_m11_isBarred_5 n) r0 x1 x2 x4 M else gR M r0 21 18 (fun v2 => aI M v2 0 x4 (fun v3 => (if ¬ v3 = (1 : Int32) then s_m11_isBarred_55 (s_m11_isBarred_5 n) r0 x1 x2 x4 M else gR M r0 21 19 (fun v4 => aI M v4 0 x4 (fun v5 => (if ¬ v5 = x2 then s_m11_isBarred_55 (s_m11_isBarred_5 n) r0 x1 x2 x4 M else cl (has M r0 21) (s_m11_holdsFor r0 x4 x1 x2 M) (fun v6 M7 => (if v6 = 0 then s_m11_isBarred_55 (s_m11_isBarred_5 n) r0 x1 x2 x4 M7 else s_m11_isBarred_51 (s_m11_isBarred_5 n) r0 x1 x2 x4 M7)))))))))))
def s_m11_isBarred (r0 : Nat) (a1 : Int32) (a2 : Int32) (M : Mm) : Option (Int32 × Mm) := s_m11_isBarred_5 FU r0 a1 a2 (0 : Int32) (0 : Int32) M
set_option maxRecDepth 100000 in
set_option maxHeartbeats 4000000 in
theorem w_m11_isBarred_56 {V : Ev} {C : Cx} {n0 : Nat} (hC : Cok V C y_m11_isBarred.cls b_m11_isBarred 5 n0 (some .boolean) y_m11_isBarred.name) (hR : cR C = rm_m11_isBarred) (k5 : Nat → Int32 → Int32 → Int32 → Int32 → Mm → Option (Int32 × Mm)) (hk5 : ∀ (r0 : Nat) (x1 : Int32) (x2 : Int32) (x3 : Int32) (x4 : Int32) (M : Mm), Sm V C 5 n0 n0 (qI V C) 5 [(0, rv V.1 r0), (1, .int x1), (2, .int x2), (3, .int x3), (4, .int x4)] [] M (k5 r0 x1 x2 x3 x4 M)) : ∀ (r0 : Nat) (x1 : Int32) (x2 : Int32) (x4 : Int32) (t0 : Int32) (M : Mm), Sm V C 5 n0 n0 (qI V C) 56 [(0, rv V.1 r0), (1, .int x1), (2, .int x2), (4, .int x4)] [.int t0] M (s_m11_isBarred_56 k5 r0 x1 x2 x4 t0 M) := by
  intro r0 x1 x2 x4 t0 M
  unfold s_m11_isBarred_56
  refine Sm.istore_n (lv' := [(3, .int t0), (0, rv V.1 r0), (1, .int x1), (2, .int x2), (4, .int x4)]) hC d_m11_isBarred_56 rfl (by decide) rfl ?_
  refine Sm.iinc (v := x4 + 1) (lv' := [(4, .int (x4 + 1)), (3, .int t0), (0, rv V.1 r0), (1, .int x1), (2, .int x2)]) hC d_m11_isBarred_57 4 rfl rfl (by decide) rfl ?_
  refine Sm.goto (tgt := 5) hC d_m11_isBarred_60 (by decide) ?_
  refine Sm.sub [2, 3, 4, 1, 0] rfl ?_
  exact hk5 r0 x1 x2 t0 (x4 + 1) M
set_option maxRecDepth 100000 in
set_option maxHeartbeats 4000000 in
theorem w_m11_isBarred_51 {V : Ev} {C : Cx} {n0 : Nat} (hC : Cok V C y_m11_isBarred.cls b_m11_isBarred 5 n0 (some .boolean) y_m11_isBarred.name) (hR : cR C = rm_m11_isBarred) (k5 : Nat → Int32 → Int32 → Int32 → Int32 → Mm → Option (Int32 × Mm)) (hk5 : ∀ (r0 : Nat) (x1 : Int32) (x2 : Int32) (x3 : Int32) (x4 : Int32) (M : Mm), Sm V C 5 n0 n0 (qI V C) 5 [(0, rv V.1 r0), (1, .int x1), (2, .int x2), (3, .int x3), (4, .int x4)] [] M (k5 r0 x1 x2 x3 x4 M)) : ∀ (r0 : Nat) (x1 : Int32) (x2 : Int32) (x4 : Int32) (M : Mm), Sm V C 5 n0 n0 (qI V C) 51 [(0, rv V.1 r0), (1, .int x1), (2, .int x2), (4, .int x4)] [] M (s_m11_isBarred_51 k5 r0 x1 x2 x4 M) := by
  intro r0 x1 x2 x4 M
  unfold s_m11_isBarred_51
  refine Sm.iconst (v := 1) hC d_m11_isBarred_51 (by decide) ?_
  refine Sm.goto (tgt := 56) hC d_m11_isBarred_52 (by decide) ?_
  exact w_m11_isBarred_56 hC hR k5 hk5 r0 x1 x2 x4 (1 : Int32) M
set_option maxRecDepth 100000 in
set_option maxHeartbeats 4000000 in
theorem w_m11_isBarred_55 {V : Ev} {C : Cx} {n0 : Nat} (hC : Cok V C y_m11_isBarred.cls b_m11_isBarred 5 n0 (some .boolean) y_m11_isBarred.name) (hR : cR C = rm_m11_isBarred) (k5 : Nat → Int32 → Int32 → Int32 → Int32 → Mm → Option (Int32 × Mm)) (hk5 : ∀ (r0 : Nat) (x1 : Int32) (x2 : Int32) (x3 : Int32) (x4 : Int32) (M : Mm), Sm V C 5 n0 n0 (qI V C) 5 [(0, rv V.1 r0), (1, .int x1), (2, .int x2), (3, .int x3), (4, .int x4)] [] M (k5 r0 x1 x2 x3 x4 M)) : ∀ (r0 : Nat) (x1 : Int32) (x2 : Int32) (x4 : Int32) (M : Mm), Sm V C 5 n0 n0 (qI V C) 55 [(0, rv V.1 r0), (1, .int x1), (2, .int x2), (4, .int x4)] [] M (s_m11_isBarred_55 k5 r0 x1 x2 x4 M) := by
  intro r0 x1 x2 x4 M
  unfold s_m11_isBarred_55
  refine Sm.iconst (v := 0) hC d_m11_isBarred_55 (by decide) ?_
  exact w_m11_isBarred_56 hC hR k5 hk5 r0 x1 x2 x4 (0 : Int32) M
set_option maxRecDepth 100000 in
set_option maxHeartbeats 4000000 in
theorem w_m11_isBarred_5 {V : Ev} {C : Cx} {n0 : Nat} (hC : Cok V C y_m11_isBarred.cls b_m11_isBarred 5 n0 (some .boolean) y_m11_isBarred.name) (hR : cR C = rm_m11_isBarred)  : ∀ (n : Nat) (r0 : Nat) (x1 : Int32) (x2 : Int32) (x3 : Int32) (x4 : Int32) (M : Mm), Sm V C 5 n0 n0 (qI V C) 5 [(0, rv V.1 r0), (1, .int x1), (2, .int x2), (3, .int x3), (4, .int x4)] [] M (s_m11_isBarred_5 n r0 x1 x2 x3 x4 M) := by
  intro n
  induction n with
  | zero => exact fun r0 x1 x2 x3 x4 M => Sm.none_
  | succ n ih =>
    intro r0 x1 x2 x3 x4 M
    unfold s_m11_isBarred_5
    refine Sm.iload hC d_m11_isBarred_5 4 rfl ?_
    refine Sm.aload_n hC d_m11_isBarred_7 rfl 0 rfl ?_
    refine Sm.getI hC fl_m11_199 rfl d_m11_isBarred_8 (fun v1 => ?_)
    refine Sm.icmp_ge (tgt := 63) hC d_m11_isBarred_11 (by decide) ?_ ?_
    · refine Sm.iload_n hC d_m11_isBarred_63 rfl 3 rfl ?_
      exact Sm.zret hC d_m11_isBarred_64 rfl (Nat.sub_self _)
    · refine Sm.iload_n hC d_m11_isBarred_14 rfl 3 rfl ?_
      refine Sm.if_ne (tgt := 51) hC d_m11_isBarred_15 (by decide) ?_ ?_
      · refine Sm.sub [0, 1, 2, 4] rfl ?_
        exact w_m11_isBarred_51 hC hR (s_m11_isBarred_5 n) ih r0 x1 x2 x4 M
      · refine Sm.aload_n hC d_m11_isBarred_18 rfl 0 rfl ?_
        refine Sm.getR hC fl_m11_49 rfl d_m11_isBarred_19 (fun v2 => ?_)
        refine Sm.iload hC d_m11_isBarred_22 4 rfl ?_
        refine Sm.iald hC d_m11_isBarred_24 (fun v3 => ?_)
        refine Sm.iconst (v := 1) hC d_m11_isBarred_25 (by decide) ?_
        refine Sm.icmp_ne (tgt := 55) hC d_m11_isBarred_26 (by decide) ?_ ?_
        · refine Sm.sub [0, 1, 2, 4] rfl ?_
          exact w_m11_isBarred_55 hC hR (s_m11_isBarred_5 n) ih r0 x1 x2 x4 M
        · refine Sm.aload_n hC d_m11_isBarred_29 rfl 0 rfl ?_
          refine Sm.getR hC fl_m11_52 rfl d_m11_isBarred_30 (fun v4 => ?_)
          refine Sm.iload hC d_m11_isBarred_33 4 rfl ?_
          refine Sm.iald hC d_m11_isBarred_35 (fun v5 => ?_)
          refine Sm.iload_n hC d_m11_isBarred_36 rfl 2 rfl ?_
          refine Sm.icmp_ne (tgt := 55) hC d_m11_isBarred_37 (by decide) ?_ ?_
          · refine Sm.sub [0, 1, 2, 4] rfl ?_
            exact w_m11_isBarred_55 hC hR (s_m11_isBarred_5 n) ih r0 x1 x2 x4 M
          · refine Sm.aload_n hC d_m11_isBarred_40 rfl 0 rfl ?_
            refine Sm.iload hC d_m11_isBarred_41 4 rfl ?_
            refine Sm.iload_n hC d_m11_isBarred_43 rfl 1 rfl ?_
            refine Sm.iload_n hC d_m11_isBarred_44 rfl 2 rfl ?_
            refine Sm.callVi 11 (As := [.int x4, .int x1, .int x2]) (st := []) hC hR cw_m11_holdsFor (tw_i 1130 (by decide +kernel)) (tw_i 1132 (by decide +kernel)) (tw_i 34 (by decide +kernel)) ⟨_, rfl, rfl⟩ (fun r9 M9 h9 => ok_m11_holdsFor h9) rfl rfl (RW.of ⟨rfl, rfl, by decide, by decide⟩) (by simp) d_m11_isBarred_45 (fun v6 M7 => ?_)
            refine Sm.if_eq (tgt := 55) hC d_m11_isBarred_48 (by decide) ?_ ?_
            · refine Sm.sub [0, 1, 2, 4] rfl ?_
              exact w_m11_isBarred_55 hC hR (s_m11_isBarred_5 n) ih r0 x1 x2 x4 M7
            · refine Sm.sub [0, 1, 2, 4] rfl ?_
              exact w_m11_isBarred_51 hC hR (s_m11_isBarred_5 n) ih r0 x1 x2 x4 M7
set_option maxRecDepth 100000 in
set_option maxHeartbeats 4000000 in
theorem ok_m11_isBarred {l : Launch} {V : Ev} {M M' : Mm} {r : Int32} {r0 : Nat} {a1 : Int32} {a2 : Int32} (h : s_m11_isBarred r0 a1 a2 M = some (r, M')) : Met l y_m11_isBarred (Cond.code y_m11_isBarred b_m11_isBarred 5 (some .boolean) :: TW) rm_m11_isBarred (va_Pc [rv V.1 r0, .int a1, .int a2] (Wd V M)) (QC V (some (.int r)) M' 0) 0 0 (Af V) := by
  refine met_of (fun x : Int32 => some (.int x)) (lv0 := [(0, rv V.1 r0), (1, .int a1), (2, .int a2)]) (by decide) (by simp [lg_sl, cat_rv, cat_i, cat_l, cat_f]) (by simp [lv_args, cat_rv, cat_i, cat_l, cat_f]) (fun C hl hR hC => ?_) h
  subst hl
  generalize mN M = n0 at hC ⊢
  unfold s_m11_isBarred
  refine Sm.iconst (v := 0) hC d_m11_isBarred_0 (by decide) ?_
  refine Sm.istore_n (lv' := [(3, .int (0 : Int32)), (0, rv V.1 r0), (1, .int a1), (2, .int a2)]) hC d_m11_isBarred_1 rfl (by decide) rfl ?_
  refine Sm.iconst (v := 0) hC d_m11_isBarred_2 (by decide) ?_
  refine Sm.istore (lv' := [(4, .int (0 : Int32)), (3, .int (0 : Int32)), (0, rv V.1 r0), (1, .int a1), (2, .int a2)]) hC d_m11_isBarred_3 (by decide) rfl ?_
  refine Sm.sub [2, 3, 4, 1, 0] rfl ?_
  exact w_m11_isBarred_5 hC hR FU r0 a1 a2 (0 : Int32) (0 : Int32) M
/-! NewsWireModel.costOf(II)I -/
abbrev b_m11_costOf : ByteArray := prog_13_method_31_code
def y_m11_costOf : MethodName := ⟨"NewsWireModel", "costOf", "(II)I"⟩
def rm_m11_costOf : Room := { frames := 3, cells := 0, slots := 0, locals := 108 }
theorem cw_m11_costOf : CW y_m11_costOf b_m11_costOf 4 (some .int) 2 := ⟨tw_i 66 (by decide +kernel), tw_i 1192 (by decide +kernel), by decide, by decide, by decide +kernel⟩
theorem d_m11_costOf_0 : decode b_m11_costOf 0 = .ok (.aload_n 0, 1) := by decide +kernel
theorem d_m11_costOf_1 : decode b_m11_costOf 1 = .ok (.getfield 199, 3) := by decide +kernel
theorem d_m11_costOf_4 : decode b_m11_costOf 4 = .ok (.iconst 1, 1) := by decide +kernel
theorem d_m11_costOf_5 : decode b_m11_costOf 5 = .ok (.isub, 1) := by decide +kernel
theorem d_m11_costOf_6 : decode b_m11_costOf 6 = .ok (.istore_n 3, 1) := by decide +kernel
theorem d_m11_costOf_7 : decode b_m11_costOf 7 = .ok (.iload_n 3, 1) := by decide +kernel
theorem d_m11_costOf_8 : decode b_m11_costOf 8 = .ok (.ifCond .lt 36, 3) := by decide +kernel
theorem d_m11_costOf_11 : decode b_m11_costOf 11 = .ok (.aload_n 0, 1) := by decide +kernel
theorem d_m11_costOf_12 : decode b_m11_costOf 12 = .ok (.getfield 49, 3) := by decide +kernel
theorem d_m11_costOf_15 : decode b_m11_costOf 15 = .ok (.iload_n 3, 1) := by decide +kernel
theorem d_m11_costOf_16 : decode b_m11_costOf 16 = .ok (.iaload, 1) := by decide +kernel
theorem d_m11_costOf_17 : decode b_m11_costOf 17 = .ok (.iconst 2, 1) := by decide +kernel
theorem d_m11_costOf_18 : decode b_m11_costOf 18 = .ok (.if_icmp .ne 20, 3) := by decide +kernel
theorem d_m11_costOf_21 : decode b_m11_costOf 21 = .ok (.aload_n 0, 1) := by decide +kernel
theorem d_m11_costOf_22 : decode b_m11_costOf 22 = .ok (.iload_n 3, 1) := by decide +kernel
theorem d_m11_costOf_23 : decode b_m11_costOf 23 = .ok (.iload_n 1, 1) := by decide +kernel
theorem d_m11_costOf_24 : decode b_m11_costOf 24 = .ok (.iload_n 2, 1) := by decide +kernel
theorem d_m11_costOf_25 : decode b_m11_costOf 25 = .ok (.invokevirtual 218, 3) := by decide +kernel
theorem d_m11_costOf_28 : decode b_m11_costOf 28 = .ok (.ifCond .eq 10, 3) := by decide +kernel
theorem d_m11_costOf_31 : decode b_m11_costOf 31 = .ok (.aload_n 0, 1) := by decide +kernel
theorem d_m11_costOf_32 : decode b_m11_costOf 32 = .ok (.getfield 52, 3) := by decide +kernel
theorem d_m11_costOf_35 : decode b_m11_costOf 35 = .ok (.iload_n 3, 1) := by decide +kernel
theorem d_m11_costOf_36 : decode b_m11_costOf 36 = .ok (.iaload, 1) := by decide +kernel
theorem d_m11_costOf_37 : decode b_m11_costOf 37 = .ok (.ireturn, 1) := by decide +kernel
theorem d_m11_costOf_38 : decode b_m11_costOf 38 = .ok (.iinc 3 (-1), 3) := by decide +kernel
theorem d_m11_costOf_41 : decode b_m11_costOf 41 = .ok (.goto (-34), 3) := by decide +kernel
theorem d_m11_costOf_44 : decode b_m11_costOf 44 = .ok (.iconst 1, 1) := by decide +kernel
theorem d_m11_costOf_45 : decode b_m11_costOf 45 = .ok (.ireturn, 1) := by decide +kernel
def s_m11_costOf_38 (k7 : Nat → Int32 → Int32 → Int32 → Mm → Option (Int32 × Mm)) (r0 : Nat) (x1 : Int32) (x2 : Int32) (x3 : Int32) (M : Mm) : Option (Int32 × Mm) := k7 r0 x1 x2 (x3 + (-1)) M
def s_m11_costOf_7  : Nat → Nat → Int32 → Int32 → Int32 → Mm → Option (Int32 × Mm)
  | 0, _, _, _, _, _ => none
  | n + 1, r0, x1, x2, x3, M => (if x3 < 0 then some ((1 : Int32), M) else gR M r0 21 18 (fun v1 => aI M v1 0 x3 (fun v2 => (if ¬ v2 = (2 : Int32) then s_m11_costOf_38 (s_m11_costOf_7 n) r0 x1 x2 x3 M else cl (has M r0 21) (s_m11_holdsFor r0 x3 x1 x2 M) (fun v3 M4 => (if v3 = 0 then s_m11_costOf_38 (s_m11_costOf_7 n) r0 x1 x2 x3 M4 else gR M4 r0 21 19 (fun v5 => aI M4 v5 0 x3 (fun v6 => some (v6, M4)))))))))
def s_m11_costOf (r0 : Nat) (a1 : Int32) (a2 : Int32) (M : Mm) : Option (Int32 × Mm) := gI M r0 21 17 (fun v1 => s_m11_costOf_7 FU r0 a1 a2 (v1 - (1 : Int32)) M)
set_option maxRecDepth 100000 in
set_option maxHeartbeats 4000000 in
theorem w_m11_costOf_38 {V : Ev} {C : Cx} {n0 : Nat} (hC : Cok V C y_m11_costOf.cls b_m11_costOf 4 n0 (some .int) y_m11_costOf.name) (hR : cR C = rm_m11_costOf) (k7 : Nat → Int32 → Int32 → Int32 → Mm → Option (Int32 × Mm)) (hk7 : ∀ (r0 : Nat) (x1 : Int32) (x2 : Int32) (x3 : Int32) (M : Mm), Sm V C 4 n0 n0 (qI V C) 7 [(0, rv V.1 r0), (1, .int x1), (2, .int x2), (3, .int x3)] [] M (k7 r0 x1 x2 x3 M)) : ∀ (r0 : Nat) (x1 : Int32) (x2 : Int32) (x3 : Int32) (M : Mm), Sm V C 4 n0 n0 (qI V C) 38 [(0, rv V.1 r0), (1, .int x1), (2, .int x2), (3, .int x3)] [] M (s_m11_costOf_38 k7 r0 x1 x2 x3 M) := by
  intro r0 x1 x2 x3 M
  unfold s_m11_costOf_38
  refine Sm.iinc (v := x3 + (-1)) (lv' := [(3, .int (x3 + (-1))), (0, rv V.1 r0), (1, .int x1), (2, .int x2)]) hC d_m11_costOf_38 3 rfl rfl (by decide) rfl ?_
  refine Sm.goto (tgt := 7) hC d_m11_costOf_41 (by decide) ?_
  refine Sm.sub [1, 2, 3, 0] rfl ?_
  exact hk7 r0 x1 x2 (x3 + (-1)) M
set_option maxRecDepth 100000 in
set_option maxHeartbeats 4000000 in
theorem w_m11_costOf_7 {V : Ev} {C : Cx} {n0 : Nat} (hC : Cok V C y_m11_costOf.cls b_m11_costOf 4 n0 (some .int) y_m11_costOf.name) (hR : cR C = rm_m11_costOf)  : ∀ (n : Nat) (r0 : Nat) (x1 : Int32) (x2 : Int32) (x3 : Int32) (M : Mm), Sm V C 4 n0 n0 (qI V C) 7 [(0, rv V.1 r0), (1, .int x1), (2, .int x2), (3, .int x3)] [] M (s_m11_costOf_7 n r0 x1 x2 x3 M) := by
  intro n
  induction n with
  | zero => exact fun r0 x1 x2 x3 M => Sm.none_
  | succ n ih =>
    intro r0 x1 x2 x3 M
    unfold s_m11_costOf_7
    refine Sm.iload_n hC d_m11_costOf_7 rfl 3 rfl ?_
    refine Sm.if_lt (tgt := 44) hC d_m11_costOf_8 (by decide) ?_ ?_
    · refine Sm.iconst (v := 1) hC d_m11_costOf_44 (by decide) ?_
      exact Sm.iret hC d_m11_costOf_45 rfl (Nat.sub_self _)
    · refine Sm.aload_n hC d_m11_costOf_11 rfl 0 rfl ?_
      refine Sm.getR hC fl_m11_49 rfl d_m11_costOf_12 (fun v1 => ?_)
      refine Sm.iload_n hC d_m11_costOf_15 rfl 3 rfl ?_
      refine Sm.iald hC d_m11_costOf_16 (fun v2 => ?_)
      refine Sm.iconst (v := 2) hC d_m11_costOf_17 (by decide) ?_
      refine Sm.icmp_ne (tgt := 38) hC d_m11_costOf_18 (by decide) ?_ ?_
      · exact w_m11_costOf_38 hC hR (s_m11_costOf_7 n) ih r0 x1 x2 x3 M
      · refine Sm.aload_n hC d_m11_costOf_21 rfl 0 rfl ?_
        refine Sm.iload_n hC d_m11_costOf_22 rfl 3 rfl ?_
        refine Sm.iload_n hC d_m11_costOf_23 rfl 1 rfl ?_
        refine Sm.iload_n hC d_m11_costOf_24 rfl 2 rfl ?_
        refine Sm.callVi 11 (As := [.int x3, .int x1, .int x2]) (st := []) hC hR cw_m11_holdsFor (tw_i 1130 (by decide +kernel)) (tw_i 1132 (by decide +kernel)) (tw_i 34 (by decide +kernel)) ⟨_, rfl, rfl⟩ (fun r9 M9 h9 => ok_m11_holdsFor h9) rfl rfl (RW.of ⟨rfl, rfl, by decide, by decide⟩) (by simp) d_m11_costOf_25 (fun v3 M4 => ?_)
        refine Sm.if_eq (tgt := 38) hC d_m11_costOf_28 (by decide) ?_ ?_
        · exact w_m11_costOf_38 hC hR (s_m11_costOf_7 n) ih r0 x1 x2 x3 M4
        · refine Sm.aload_n hC d_m11_costOf_31 rfl 0 rfl ?_
          refine Sm.getR hC fl_m11_52 rfl d_m11_costOf_32 (fun v5 => ?_)
          refine Sm.iload_n hC d_m11_costOf_35 rfl 3 rfl ?_
          refine Sm.iald hC d_m11_costOf_36 (fun v6 => ?_)
          exact Sm.iret hC d_m11_costOf_37 rfl (Nat.sub_self _)
set_option maxRecDepth 100000 in
set_option maxHeartbeats 4000000 in
theorem ok_m11_costOf {l : Launch} {V : Ev} {M M' : Mm} {r : Int32} {r0 : Nat} {a1 : Int32} {a2 : Int32} (h : s_m11_costOf r0 a1 a2 M = some (r, M')) : Met l y_m11_costOf (Cond.code y_m11_costOf b_m11_costOf 4 (some .int) :: TW) rm_m11_costOf (va_Pc [rv V.1 r0, .int a1, .int a2] (Wd V M)) (QC V (some (.int r)) M' 0) 0 0 (Af V) := by
  refine met_of (fun x : Int32 => some (.int x)) (lv0 := [(0, rv V.1 r0), (1, .int a1), (2, .int a2)]) (by decide) (by simp [lg_sl, cat_rv, cat_i, cat_l, cat_f]) (by simp [lv_args, cat_rv, cat_i, cat_l, cat_f]) (fun C hl hR hC => ?_) h
  subst hl
  generalize mN M = n0 at hC ⊢
  unfold s_m11_costOf
  refine Sm.aload_n hC d_m11_costOf_0 rfl 0 rfl ?_
  refine Sm.getI hC fl_m11_199 rfl d_m11_costOf_1 (fun v1 => ?_)
  refine Sm.iconst (v := 1) hC d_m11_costOf_4 (by decide) ?_
  refine Sm.isub hC d_m11_costOf_5 ?_
  refine Sm.istore_n (lv' := [(3, .int (v1 - (1 : Int32))), (0, rv V.1 r0), (1, .int a1), (2, .int a2)]) hC d_m11_costOf_6 rfl (by decide) rfl ?_
  refine Sm.sub [1, 2, 3, 0] rfl ?_
  exact w_m11_costOf_7 hC hR FU r0 a1 a2 (v1 - (1 : Int32)) M
/-! NewsWireModel.rank(I)I -/
abbrev b_m11_rank : ByteArray := prog_13_method_32_code
def y_m11_rank : MethodName := ⟨"NewsWireModel", "rank", "(I)I"⟩
def rm_m11_rank : Room := { frames := 4, cells := 0, slots := 0, locals := 130 }
theorem cw_m11_rank : CW y_m11_rank b_m11_rank 2 (some .int) 1 := ⟨tw_i 66 (by decide +kernel), tw_i 1141 (by decide +kernel), by decide, by decide, by decide +kernel⟩
theorem d_m11_rank_0 : decode b_m11_rank 0 = .ok (.aload_n 0, 1) := by decide +kernel
theorem d_m11_rank_1 : decode b_m11_rank 1 = .ok (.iload_n 1, 1) := by decide +kernel
theorem d_m11_rank_2 : decode b_m11_rank 2 = .ok (.invokevirtual 152, 3) := by decide +kernel
theorem d_m11_rank_5 : decode b_m11_rank 5 = .ok (.ifCond .eq 11, 3) := by decide +kernel
theorem d_m11_rank_8 : decode b_m11_rank 8 = .ok (.aload_n 0, 1) := by decide +kernel
theorem d_m11_rank_9 : decode b_m11_rank 9 = .ok (.iload_n 1, 1) := by decide +kernel
theorem d_m11_rank_10 : decode b_m11_rank 10 = .ok (.invokevirtual 221, 3) := by decide +kernel
theorem d_m11_rank_13 : decode b_m11_rank 13 = .ok (.goto 9, 3) := by decide +kernel
theorem d_m11_rank_16 : decode b_m11_rank 16 = .ok (.aload_n 0, 1) := by decide +kernel
theorem d_m11_rank_17 : decode b_m11_rank 17 = .ok (.bipush (-3), 2) := by decide +kernel
theorem d_m11_rank_19 : decode b_m11_rank 19 = .ok (.invokevirtual 139, 3) := by decide +kernel
theorem d_m11_rank_22 : decode b_m11_rank 22 = .ok (.ireturn, 1) := by decide +kernel
def s_m11_rank_22  (t0 : Int32) (M : Mm) : Option (Int32 × Mm) := some (t0, M)
def s_m11_rank (r0 : Nat) (a1 : Int32) (M : Mm) : Option (Int32 × Mm) := cl (has M r0 21) (s_m11_isPiece r0 a1 M) (fun v1 M2 => (if v1 = 0 then cl (has M2 r0 21) (s_m11_refused r0 (-3 : Int32) M2) (fun v3 M4 => s_m11_rank_22 v3 M4) else cl (has M2 r0 21) (s_m11_rankOf r0 a1 M2) (fun v5 M6 => s_m11_rank_22 v5 M6)))
set_option maxRecDepth 100000 in
set_option maxHeartbeats 4000000 in
theorem w_m11_rank_22 {V : Ev} {C : Cx} {n0 : Nat} (hC : Cok V C y_m11_rank.cls b_m11_rank 2 n0 (some .int) y_m11_rank.name) (hR : cR C = rm_m11_rank)  : ∀ (t0 : Int32) (M : Mm), Sm V C 2 n0 n0 (qI V C) 22 [] [.int t0] M (s_m11_rank_22 t0 M) := by
  intro t0 M
  unfold s_m11_rank_22
  exact Sm.iret hC d_m11_rank_22 rfl (Nat.sub_self _)
set_option maxRecDepth 100000 in
set_option maxHeartbeats 4000000 in
theorem ok_m11_rank {l : Launch} {V : Ev} {M M' : Mm} {r : Int32} {r0 : Nat} {a1 : Int32} (h : s_m11_rank r0 a1 M = some (r, M')) : Met l y_m11_rank (Cond.code y_m11_rank b_m11_rank 2 (some .int) :: TW) rm_m11_rank (va_Pc [rv V.1 r0, .int a1] (Wd V M)) (QC V (some (.int r)) M' 0) 0 0 (Af V) := by
  refine met_of (fun x : Int32 => some (.int x)) (lv0 := [(0, rv V.1 r0), (1, .int a1)]) (by decide) (by simp [lg_sl, cat_rv, cat_i, cat_l, cat_f]) (by simp [lv_args, cat_rv, cat_i, cat_l, cat_f]) (fun C hl hR hC => ?_) h
  subst hl
  generalize mN M = n0 at hC ⊢
  unfold s_m11_rank
  refine Sm.aload_n hC d_m11_rank_0 rfl 0 rfl ?_
  refine Sm.iload_n hC d_m11_rank_1 rfl 1 rfl ?_
  refine Sm.callVi 11 (As := [.int a1]) (st := []) hC hR cw_m11_isPiece (tw_i 1060 (by decide +kernel)) (tw_i 1062 (by decide +kernel)) (tw_i 24 (by decide +kernel)) ⟨_, rfl, rfl⟩ (fun r9 M9 h9 => ok_m11_isPiece h9) rfl rfl (RW.of ⟨rfl, rfl, by decide, by decide⟩) (by simp) d_m11_rank_2 (fun v1 M2 => ?_)
  refine Sm.if_eq (tgt := 16) hC d_m11_rank_5 (by decide) ?_ ?_
  · refine Sm.aload_n hC d_m11_rank_16 rfl 0 rfl ?_
    refine Sm.bipush (v := -3) hC d_m11_rank_17 (by decide) ?_
    refine Sm.callVi 11 (As := [.int (-3 : Int32)]) (st := []) hC hR cw_m11_refused (tw_i 1048 (by decide +kernel)) (tw_i 1050 (by decide +kernel)) (tw_i 23 (by decide +kernel)) ⟨_, rfl, rfl⟩ (fun r9 M9 h9 => ok_m11_refused h9) rfl rfl (RW.of ⟨rfl, rfl, by decide, by decide⟩) (by simp) d_m11_rank_19 (fun v3 M4 => ?_)
    refine Sm.sub [] rfl ?_
    exact w_m11_rank_22 hC hR v3 M4
  · refine Sm.aload_n hC d_m11_rank_8 rfl 0 rfl ?_
    refine Sm.iload_n hC d_m11_rank_9 rfl 1 rfl ?_
    refine Sm.callVi 11 (As := [.int a1]) (st := []) hC hR cw_m11_rankOf (tw_i 1142 (by decide +kernel)) (tw_i 1144 (by decide +kernel)) (tw_i 36 (by decide +kernel)) ⟨_, rfl, rfl⟩ (fun r9 M9 h9 => ok_m11_rankOf h9) rfl rfl (RW.of ⟨rfl, rfl, by decide, by decide⟩) (by simp) d_m11_rank_10 (fun v5 M6 => ?_)
    refine Sm.goto (tgt := 22) hC d_m11_rank_13 (by decide) ?_
    refine Sm.sub [] rfl ?_
    exact w_m11_rank_22 hC hR v5 M6
/-! NewsWireModel.barred(II)I -/
abbrev b_m11_barred : ByteArray := prog_13_method_33_code
def y_m11_barred : MethodName := ⟨"NewsWireModel", "barred", "(II)I"⟩
def rm_m11_barred : Room := { frames := 4, cells := 0, slots := 0, locals := 132 }
theorem cw_m11_barred : CW y_m11_barred b_m11_barred 3 (some .int) 2 := ⟨tw_i 66 (by decide +kernel), tw_i 1149 (by decide +kernel), by decide, by decide, by decide +kernel⟩
theorem d_m11_barred_0 : decode b_m11_barred 0 = .ok (.aload_n 0, 1) := by decide +kernel
theorem d_m11_barred_1 : decode b_m11_barred 1 = .ok (.iload_n 1, 1) := by decide +kernel
theorem d_m11_barred_2 : decode b_m11_barred 2 = .ok (.invokevirtual 152, 3) := by decide +kernel
theorem d_m11_barred_5 : decode b_m11_barred 5 = .ok (.ifCond .eq 10, 3) := by decide +kernel
theorem d_m11_barred_8 : decode b_m11_barred 8 = .ok (.iload_n 2, 1) := by decide +kernel
theorem d_m11_barred_9 : decode b_m11_barred 9 = .ok (.invokestatic 224, 3) := by decide +kernel
theorem d_m11_barred_12 : decode b_m11_barred 12 = .ok (.ifCond .ne 12, 3) := by decide +kernel
theorem d_m11_barred_15 : decode b_m11_barred 15 = .ok (.aload_n 0, 1) := by decide +kernel
theorem d_m11_barred_16 : decode b_m11_barred 16 = .ok (.bipush (-3), 2) := by decide +kernel
theorem d_m11_barred_18 : decode b_m11_barred 18 = .ok (.invokevirtual 139, 3) := by decide +kernel
theorem d_m11_barred_21 : decode b_m11_barred 21 = .ok (.goto 17, 3) := by decide +kernel
theorem d_m11_barred_24 : decode b_m11_barred 24 = .ok (.aload_n 0, 1) := by decide +kernel
theorem d_m11_barred_25 : decode b_m11_barred 25 = .ok (.iload_n 1, 1) := by decide +kernel
theorem d_m11_barred_26 : decode b_m11_barred 26 = .ok (.iload_n 2, 1) := by decide +kernel
theorem d_m11_barred_27 : decode b_m11_barred 27 = .ok (.invokevirtual 227, 3) := by decide +kernel
theorem d_m11_barred_30 : decode b_m11_barred 30 = .ok (.ifCond .eq 7, 3) := by decide +kernel
theorem d_m11_barred_33 : decode b_m11_barred 33 = .ok (.iconst 1, 1) := by decide +kernel
theorem d_m11_barred_34 : decode b_m11_barred 34 = .ok (.goto 4, 3) := by decide +kernel
theorem d_m11_barred_37 : decode b_m11_barred 37 = .ok (.iconst 0, 1) := by decide +kernel
theorem d_m11_barred_38 : decode b_m11_barred 38 = .ok (.ireturn, 1) := by decide +kernel
def s_m11_barred_38  (t0 : Int32) (M : Mm) : Option (Int32 × Mm) := some (t0, M)
def s_m11_barred_15  (r0 : Nat) (M : Mm) : Option (Int32 × Mm) := cl (has M r0 21) (s_m11_refused r0 (-3 : Int32) M) (fun v1 M2 => s_m11_barred_38 v1 M2)
def s_m11_barred (r0 : Nat) (a1 : Int32) (a2 : Int32) (M : Mm) : Option (Int32 × Mm) := cl (has M r0 21) (s_m11_isPiece r0 a1 M) (fun v1 M2 => (if v1 = 0 then s_m11_barred_15 r0 M2 else cl true (s_m11_isPaper a2 M2) (fun v3 M4 => (if ¬ v3 = 0 then cl (has M4 r0 21) (s_m11_isBarred r0 a1 a2 M4) (fun v5 M6 => (if v5 = 0 then s_m11_barred_38 (0 : Int32) M6 else s_m11_barred_38 (1 : Int32) M6)) else s_m11_barred_15 r0 M4))))
set_option maxRecDepth 100000 in
set_option maxHeartbeats 4000000 in
theorem w_m11_barred_38 {V : Ev} {C : Cx} {n0 : Nat} (hC : Cok V C y_m11_barred.cls b_m11_barred 3 n0 (some .int) y_m11_barred.name) (hR : cR C = rm_m11_barred)  : ∀ (t0 : Int32) (M : Mm), Sm V C 3 n0 n0 (qI V C) 38 [] [.int t0] M (s_m11_barred_38 t0 M) := by
  intro t0 M
  unfold s_m11_barred_38
  exact Sm.iret hC d_m11_barred_38 rfl (Nat.sub_self _)
set_option maxRecDepth 100000 in
set_option maxHeartbeats 4000000 in
theorem w_m11_barred_15 {V : Ev} {C : Cx} {n0 : Nat} (hC : Cok V C y_m11_barred.cls b_m11_barred 3 n0 (some .int) y_m11_barred.name) (hR : cR C = rm_m11_barred)  : ∀ (r0 : Nat) (M : Mm), Sm V C 3 n0 n0 (qI V C) 15 [(0, rv V.1 r0)] [] M (s_m11_barred_15 r0 M) := by
  intro r0 M
  unfold s_m11_barred_15
  refine Sm.aload_n hC d_m11_barred_15 rfl 0 rfl ?_
  refine Sm.bipush (v := -3) hC d_m11_barred_16 (by decide) ?_
  refine Sm.callVi 11 (As := [.int (-3 : Int32)]) (st := []) hC hR cw_m11_refused (tw_i 1048 (by decide +kernel)) (tw_i 1050 (by decide +kernel)) (tw_i 23 (by decide +kernel)) ⟨_, rfl, rfl⟩ (fun r9 M9 h9 => ok_m11_refused h9) rfl rfl (RW.of ⟨rfl, rfl, by decide, by decide⟩) (by simp) d_m11_barred_18 (fun v1 M2 => ?_)
  refine Sm.goto (tgt := 38) hC d_m11_barred_21 (by decide) ?_
  refine Sm.sub [] rfl ?_
  exact w_m11_barred_38 hC hR v1 M2
set_option maxRecDepth 100000 in
set_option maxHeartbeats 4000000 in
theorem ok_m11_barred {l : Launch} {V : Ev} {M M' : Mm} {r : Int32} {r0 : Nat} {a1 : Int32} {a2 : Int32} (h : s_m11_barred r0 a1 a2 M = some (r, M')) : Met l y_m11_barred (Cond.code y_m11_barred b_m11_barred 3 (some .int) :: TW) rm_m11_barred (va_Pc [rv V.1 r0, .int a1, .int a2] (Wd V M)) (QC V (some (.int r)) M' 0) 0 0 (Af V) := by
  refine met_of (fun x : Int32 => some (.int x)) (lv0 := [(0, rv V.1 r0), (1, .int a1), (2, .int a2)]) (by decide) (by simp [lg_sl, cat_rv, cat_i, cat_l, cat_f]) (by simp [lv_args, cat_rv, cat_i, cat_l, cat_f]) (fun C hl hR hC => ?_) h
  subst hl
  generalize mN M = n0 at hC ⊢
  unfold s_m11_barred
  refine Sm.aload_n hC d_m11_barred_0 rfl 0 rfl ?_
  refine Sm.iload_n hC d_m11_barred_1 rfl 1 rfl ?_
  refine Sm.callVi 11 (As := [.int a1]) (st := []) hC hR cw_m11_isPiece (tw_i 1060 (by decide +kernel)) (tw_i 1062 (by decide +kernel)) (tw_i 24 (by decide +kernel)) ⟨_, rfl, rfl⟩ (fun r9 M9 h9 => ok_m11_isPiece h9) rfl rfl (RW.of ⟨rfl, rfl, by decide, by decide⟩) (by simp) d_m11_barred_2 (fun v1 M2 => ?_)
  refine Sm.if_eq (tgt := 15) hC d_m11_barred_5 (by decide) ?_ ?_
  · refine Sm.sub [0] rfl ?_
    exact w_m11_barred_15 hC hR r0 M2
  · refine Sm.iload_n hC d_m11_barred_8 rfl 2 rfl ?_
    refine Sm.callSi (As := [.int a2]) (st := []) hC hR cw_m11_isPaper (tw_i 1150 (by decide +kernel)) (tw_i 1151 (by decide +kernel)) (fun r9 M9 h9 => ok_m11_isPaper h9) rfl rfl (RW.of ⟨rfl, rfl, by decide, by decide⟩) (by simp) d_m11_barred_9 (fun v3 M4 => ?_)
    refine Sm.if_ne (tgt := 24) hC d_m11_barred_12 (by decide) ?_ ?_
    · refine Sm.aload_n hC d_m11_barred_24 rfl 0 rfl ?_
      refine Sm.iload_n hC d_m11_barred_25 rfl 1 rfl ?_
      refine Sm.iload_n hC d_m11_barred_26 rfl 2 rfl ?_
      refine Sm.callVi 11 (As := [.int a1, .int a2]) (st := []) hC hR cw_m11_isBarred (tw_i 1153 (by decide +kernel)) (tw_i 1155 (by decide +kernel)) (tw_i 37 (by decide +kernel)) ⟨_, rfl, rfl⟩ (fun r9 M9 h9 => ok_m11_isBarred h9) rfl rfl (RW.of ⟨rfl, rfl, by decide, by decide⟩) (by simp) d_m11_barred_27 (fun v5 M6 => ?_)
      refine Sm.if_eq (tgt := 37) hC d_m11_barred_30 (by decide) ?_ ?_
      · refine Sm.iconst (v := 0) hC d_m11_barred_37 (by decide) ?_
        refine Sm.sub [] rfl ?_
        exact w_m11_barred_38 hC hR (0 : Int32) M6
      · refine Sm.iconst (v := 1) hC d_m11_barred_33 (by decide) ?_
        refine Sm.goto (tgt := 38) hC d_m11_barred_34 (by decide) ?_
        refine Sm.sub [] rfl ?_
        exact w_m11_barred_38 hC hR (1 : Int32) M6
    · refine Sm.sub [0] rfl ?_
      exact w_m11_barred_15 hC hR r0 M4
/-! NewsWireModel.waiting(I)I -/
theorem fl_m11_88 : FL "NewsWireModel" 88 11 36 2 true (.array .int) := ⟨_, _, _, _, rfl, in_c11, ty_c11, nm_c11, by decide, rfl, tw_i 901 (by decide +kernel), rfl, rfl, rfl, rfl⟩
theorem fl_m11_79 : FL "NewsWireModel" 79 11 33 2 true (.array .int) := ⟨_, _, _, _, rfl, in_c11, ty_c11, nm_c11, by decide, rfl, tw_i 898 (by decide +kernel), rfl, rfl, rfl, rfl⟩
abbrev b_m11_waiting : ByteArray := prog_13_method_34_code
def y_m11_waiting : MethodName := ⟨"NewsWireModel", "waiting", "(I)I"⟩
def rm_m11_waiting : Room := { frames := 1, cells := 0, slots := 0, locals := 60 }
theorem cw_m11_waiting : CW y_m11_waiting b_m11_waiting 4 (some .int) 1 := ⟨tw_i 66 (by decide +kernel), tw_i 1168 (by decide +kernel), by decide, by decide, by decide +kernel⟩
theorem d_m11_waiting_0 : decode b_m11_waiting 0 = .ok (.iconst 0, 1) := by decide +kernel
theorem d_m11_waiting_1 : decode b_m11_waiting 1 = .ok (.istore_n 2, 1) := by decide +kernel
theorem d_m11_waiting_2 : decode b_m11_waiting 2 = .ok (.iconst 0, 1) := by decide +kernel
theorem d_m11_waiting_3 : decode b_m11_waiting 3 = .ok (.istore_n 3, 1) := by decide +kernel
theorem d_m11_waiting_4 : decode b_m11_waiting 4 = .ok (.iload_n 3, 1) := by decide +kernel
theorem d_m11_waiting_5 : decode b_m11_waiting 5 = .ok (.aload_n 0, 1) := by decide +kernel
theorem d_m11_waiting_6 : decode b_m11_waiting 6 = .ok (.getfield 76, 3) := by decide +kernel
theorem d_m11_waiting_9 : decode b_m11_waiting 9 = .ok (.iload_n 1, 1) := by decide +kernel
theorem d_m11_waiting_10 : decode b_m11_waiting 10 = .ok (.iaload, 1) := by decide +kernel
theorem d_m11_waiting_11 : decode b_m11_waiting 11 = .ok (.if_icmp .ge 42, 3) := by decide +kernel
theorem d_m11_waiting_14 : decode b_m11_waiting 14 = .ok (.iload_n 2, 1) := by decide +kernel
theorem d_m11_waiting_15 : decode b_m11_waiting 15 = .ok (.aload_n 0, 1) := by decide +kernel
theorem d_m11_waiting_16 : decode b_m11_waiting 16 = .ok (.getfield 88, 3) := by decide +kernel
theorem d_m11_waiting_19 : decode b_m11_waiting 19 = .ok (.bipush 40, 2) := by decide +kernel
theorem d_m11_waiting_21 : decode b_m11_waiting 21 = .ok (.iload_n 1, 1) := by decide +kernel
theorem d_m11_waiting_22 : decode b_m11_waiting 22 = .ok (.imul, 1) := by decide +kernel
theorem d_m11_waiting_23 : decode b_m11_waiting 23 = .ok (.aload_n 0, 1) := by decide +kernel
theorem d_m11_waiting_24 : decode b_m11_waiting 24 = .ok (.getfield 79, 3) := by decide +kernel
theorem d_m11_waiting_27 : decode b_m11_waiting 27 = .ok (.bipush 40, 2) := by decide +kernel
theorem d_m11_waiting_29 : decode b_m11_waiting 29 = .ok (.iload_n 1, 1) := by decide +kernel
theorem d_m11_waiting_30 : decode b_m11_waiting 30 = .ok (.imul, 1) := by decide +kernel
theorem d_m11_waiting_31 : decode b_m11_waiting 31 = .ok (.iload_n 3, 1) := by decide +kernel
theorem d_m11_waiting_32 : decode b_m11_waiting 32 = .ok (.iadd, 1) := by decide +kernel
theorem d_m11_waiting_33 : decode b_m11_waiting 33 = .ok (.iaload, 1) := by decide +kernel
theorem d_m11_waiting_34 : decode b_m11_waiting 34 = .ok (.iadd, 1) := by decide +kernel
theorem d_m11_waiting_35 : decode b_m11_waiting 35 = .ok (.iaload, 1) := by decide +kernel
theorem d_m11_waiting_36 : decode b_m11_waiting 36 = .ok (.iconst (-1), 1) := by decide +kernel
theorem d_m11_waiting_37 : decode b_m11_waiting 37 = .ok (.if_icmp .ne 7, 3) := by decide +kernel
theorem d_m11_waiting_40 : decode b_m11_waiting 40 = .ok (.iconst 1, 1) := by decide +kernel
theorem d_m11_waiting_41 : decode b_m11_waiting 41 = .ok (.goto 4, 3) := by decide +kernel
theorem d_m11_waiting_44 : decode b_m11_waiting 44 = .ok (.iconst 0, 1) := by decide +kernel
theorem d_m11_waiting_45 : decode b_m11_waiting 45 = .ok (.iadd, 1) := by decide +kernel
theorem d_m11_waiting_46 : decode b_m11_waiting 46 = .ok (.istore_n 2, 1) := by decide +kernel
theorem d_m11_waiting_47 : decode b_m11_waiting 47 = .ok (.iinc 3 1, 3) := by decide +kernel
theorem d_m11_waiting_50 : decode b_m11_waiting 50 = .ok (.goto (-46), 3) := by decide +kernel
theorem d_m11_waiting_53 : decode b_m11_waiting 53 = .ok (.iload_n 2, 1) := by decide +kernel
theorem d_m11_waiting_54 : decode b_m11_waiting 54 = .ok (.ireturn, 1) := by decide +kernel
def s_m11_waiting_45 (k4 : Nat → Int32 → Int32 → Int32 → Mm → Option (Int32 × Mm)) (r0 : Nat) (x1 : Int32) (x3 : Int32) (t0 : Int32) (t1 : Int32) (M : Mm) : Option (Int32 × Mm) := k4 r0 x1 (t0 + t1) (x3 + 1) M
def s_m11_waiting_4  : Nat → Nat → Int32 → Int32 → Int32 → Mm → Option (Int32 × Mm)
  | 0, _, _, _, _, _ => none
  | n + 1, r0, x1, x2, x3, M => gR M r0 21 32 (fun v1 => aI M v1 0 x1 (fun v2 => (if v2 ≤ x3 then some (x2, M) else gR M r0 21 36 (fun v3 => gR M r0 21 33 (fun v4 => aI M v4 0 (((40 : Int32) * x1) + x3) (fun v5 => aI M v3 0 (((40 : Int32) * x1) + v5) (fun v6 => (if ¬ v6 = (-1 : Int32) then s_m11_waiting_45 (s_m11_waiting_4 n) r0 x1 x3 x2 (0 : Int32) M else s_m11_waiting_45 (s_m11_waiting_4 n) r0 x1 x3 x2 (1 : Int32) M))))))))
def s_m11_waiting (r0 : Nat) (a1 : Int32) (M : Mm) : Option (Int32 × Mm) := s_m11_waiting_4 FU r0 a1 (0 : Int32) (0 : Int32) M
set_option maxRecDepth 100000 in
set_option maxHeartbeats 4000000 in
theorem w_m11_waiting_45 {V : Ev} {C : Cx} {n0 : Nat} (hC : Cok V C y_m11_waiting.cls b_m11_waiting 4 n0 (some .int) y_m11_waiting.name) (hR : cR C = rm_m11_waiting) (k4 : Nat → Int32 → Int32 → Int32 → Mm → Option (Int32 × Mm)) (hk4 : ∀ (r0 : Nat) (x1 : Int32) (x2 : Int32) (x3 : Int32) (M : Mm), Sm V C 4 n0 n0 (qI V C) 4 [(0, rv V.1 r0), (1, .int x1), (2, .int x2), (3, .int x3)] [] M (k4 r0 x1 x2 x3 M)) : ∀ (r0 : Nat) (x1 : Int32) (x3 : Int32) (t0 : Int32) (t1 : Int32) (M : Mm), Sm V C 4 n0 n0 (qI V C) 45 [(0, rv V.1 r0), (1, .int x1), (3, .int x3)] [.int t1, .int t0] M (s_m11_waiting_45 k4 r0 x1 x3 t0 t1 M) := by
  intro r0 x1 x3 t0 t1 M
  unfold s_m11_waiting_45
  refine Sm.iadd hC d_m11_waiting_45 ?_
  refine Sm.istore_n (lv' := [(2, .int (t0 + t1)), (0, rv V.1 r0), (1, .int x1), (3, .int x3)]) hC d_m11_waiting_46 rfl (by decide) rfl ?_
  refine Sm.iinc (v := x3 + 1) (lv' := [(3, .int (x3 + 1)), (2, .int (t0 + t1)), (0, rv V.1 r0), (1, .int x1)]) hC d_m11_waiting_47 3 rfl rfl (by decide) rfl ?_
  refine Sm.goto (tgt := 4) hC d_m11_waiting_50 (by decide) ?_
  refine Sm.sub [2, 3, 1, 0] rfl ?_
  exact hk4 r0 x1 (t0 + t1) (x3 + 1) M
set_option maxRecDepth 100000 in
set_option maxHeartbeats 4000000 in
theorem w_m11_waiting_4 {V : Ev} {C : Cx} {n0 : Nat} (hC : Cok V C y_m11_waiting.cls b_m11_waiting 4 n0 (some .int) y_m11_waiting.name) (hR : cR C = rm_m11_waiting)  : ∀ (n : Nat) (r0 : Nat) (x1 : Int32) (x2 : Int32) (x3 : Int32) (M : Mm), Sm V C 4 n0 n0 (qI V C) 4 [(0, rv V.1 r0), (1, .int x1), (2, .int x2), (3, .int x3)] [] M (s_m11_waiting_4 n r0 x1 x2 x3 M) := by
  intro n
  induction n with
  | zero => exact fun r0 x1 x2 x3 M => Sm.none_
  | succ n ih =>
    intro r0 x1 x2 x3 M
    unfold s_m11_waiting_4
    refine Sm.iload_n hC d_m11_waiting_4 rfl 3 rfl ?_
    refine Sm.aload_n hC d_m11_waiting_5 rfl 0 rfl ?_
    refine Sm.getR hC fl_m11_76 rfl d_m11_waiting_6 (fun v1 => ?_)
    refine Sm.iload_n hC d_m11_waiting_9 rfl 1 rfl ?_
    refine Sm.iald hC d_m11_waiting_10 (fun v2 => ?_)
    refine Sm.icmp_ge (tgt := 53) hC d_m11_waiting_11 (by decide) ?_ ?_
    · refine Sm.iload_n hC d_m11_waiting_53 rfl 2 rfl ?_
      exact Sm.iret hC d_m11_waiting_54 rfl (Nat.sub_self _)
    · refine Sm.iload_n hC d_m11_waiting_14 rfl 2 rfl ?_
      refine Sm.aload_n hC d_m11_waiting_15 rfl 0 rfl ?_
      refine Sm.getR hC fl_m11_88 rfl d_m11_waiting_16 (fun v3 => ?_)
      refine Sm.bipush (v := 40) hC d_m11_waiting_19 (by decide) ?_
      refine Sm.iload_n hC d_m11_waiting_21 rfl 1 rfl ?_
      refine Sm.imul hC d_m11_waiting_22 ?_
      refine Sm.aload_n hC d_m11_waiting_23 rfl 0 rfl ?_
      refine Sm.getR hC fl_m11_79 rfl d_m11_waiting_24 (fun v4 => ?_)
      refine Sm.bipush (v := 40) hC d_m11_waiting_27 (by decide) ?_
      refine Sm.iload_n hC d_m11_waiting_29 rfl 1 rfl ?_
      refine Sm.imul hC d_m11_waiting_30 ?_
      refine Sm.iload_n hC d_m11_waiting_31 rfl 3 rfl ?_
      refine Sm.iadd hC d_m11_waiting_32 ?_
      refine Sm.iald hC d_m11_waiting_33 (fun v5 => ?_)
      refine Sm.iadd hC d_m11_waiting_34 ?_
      refine Sm.iald hC d_m11_waiting_35 (fun v6 => ?_)
      refine Sm.iconst (v := -1) hC d_m11_waiting_36 (by decide) ?_
      refine Sm.icmp_ne (tgt := 44) hC d_m11_waiting_37 (by decide) ?_ ?_
      · refine Sm.iconst (v := 0) hC d_m11_waiting_44 (by decide) ?_
        refine Sm.sub [0, 1, 3] rfl ?_
        exact w_m11_waiting_45 hC hR (s_m11_waiting_4 n) ih r0 x1 x3 x2 (0 : Int32) M
      · refine Sm.iconst (v := 1) hC d_m11_waiting_40 (by decide) ?_
        refine Sm.goto (tgt := 45) hC d_m11_waiting_41 (by decide) ?_
        refine Sm.sub [0, 1, 3] rfl ?_
        exact w_m11_waiting_45 hC hR (s_m11_waiting_4 n) ih r0 x1 x3 x2 (1 : Int32) M
set_option maxRecDepth 100000 in
set_option maxHeartbeats 4000000 in
theorem ok_m11_waiting {l : Launch} {V : Ev} {M M' : Mm} {r : Int32} {r0 : Nat} {a1 : Int32} (h : s_m11_waiting r0 a1 M = some (r, M')) : Met l y_m11_waiting (Cond.code y_m11_waiting b_m11_waiting 4 (some .int) :: TW) rm_m11_waiting (va_Pc [rv V.1 r0, .int a1] (Wd V M)) (QC V (some (.int r)) M' 0) 0 0 (Af V) := by
  refine met_of (fun x : Int32 => some (.int x)) (lv0 := [(0, rv V.1 r0), (1, .int a1)]) (by decide) (by simp [lg_sl, cat_rv, cat_i, cat_l, cat_f]) (by simp [lv_args, cat_rv, cat_i, cat_l, cat_f]) (fun C hl hR hC => ?_) h
  subst hl
  generalize mN M = n0 at hC ⊢
  unfold s_m11_waiting
  refine Sm.iconst (v := 0) hC d_m11_waiting_0 (by decide) ?_
  refine Sm.istore_n (lv' := [(2, .int (0 : Int32)), (0, rv V.1 r0), (1, .int a1)]) hC d_m11_waiting_1 rfl (by decide) rfl ?_
  refine Sm.iconst (v := 0) hC d_m11_waiting_2 (by decide) ?_
  refine Sm.istore_n (lv' := [(3, .int (0 : Int32)), (2, .int (0 : Int32)), (0, rv V.1 r0), (1, .int a1)]) hC d_m11_waiting_3 rfl (by decide) rfl ?_
  refine Sm.sub [2, 3, 1, 0] rfl ?_
  exact w_m11_waiting_4 hC hR FU r0 a1 (0 : Int32) (0 : Int32) M
