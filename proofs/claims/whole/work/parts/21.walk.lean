/-! NewsWireModel.file(II)I -/
theorem fl_m11_85 : FL "NewsWireModel" 85 11 35 2 true (.array .int) := ⟨_, _, _, _, rfl, in_c11, ty_c11, nm_c11, by decide, rfl, tw_i 900 (by decide +kernel), rfl, rfl, rfl, rfl⟩
abbrev b_m11_file : ByteArray := prog_13_method_35_code
def y_m11_file : MethodName := ⟨"NewsWireModel", "file", "(II)I"⟩
def rm_m11_file : Room := { frames := 3, cells := 0, slots := 0, locals := 103 }
theorem cw_m11_file : CW y_m11_file b_m11_file 4 (some .int) 2 := ⟨tw_i 66 (by decide +kernel), tw_i 1160 (by decide +kernel), by decide, by decide, by decide +kernel⟩
theorem d_m11_file_0 : decode b_m11_file 0 = .ok (.aload_n 0, 1) := by decide +kernel
theorem d_m11_file_1 : decode b_m11_file 1 = .ok (.iload_n 1, 1) := by decide +kernel
theorem d_m11_file_2 : decode b_m11_file 2 = .ok (.invokevirtual 152, 3) := by decide +kernel
theorem d_m11_file_5 : decode b_m11_file 5 = .ok (.ifCond .eq 11, 3) := by decide +kernel
theorem d_m11_file_8 : decode b_m11_file 8 = .ok (.aload_n 0, 1) := by decide +kernel
theorem d_m11_file_9 : decode b_m11_file 9 = .ok (.iload_n 2, 1) := by decide +kernel
theorem d_m11_file_10 : decode b_m11_file 10 = .ok (.invokevirtual 231, 3) := by decide +kernel
theorem d_m11_file_13 : decode b_m11_file 13 = .ok (.ifCond .ne 10, 3) := by decide +kernel
theorem d_m11_file_16 : decode b_m11_file 16 = .ok (.aload_n 0, 1) := by decide +kernel
theorem d_m11_file_17 : decode b_m11_file 17 = .ok (.bipush (-3), 2) := by decide +kernel
theorem d_m11_file_19 : decode b_m11_file 19 = .ok (.invokevirtual 139, 3) := by decide +kernel
theorem d_m11_file_22 : decode b_m11_file 22 = .ok (.ireturn, 1) := by decide +kernel
theorem d_m11_file_23 : decode b_m11_file 23 = .ok (.bipush 40, 2) := by decide +kernel
theorem d_m11_file_25 : decode b_m11_file 25 = .ok (.iload_n 2, 1) := by decide +kernel
theorem d_m11_file_26 : decode b_m11_file 26 = .ok (.imul, 1) := by decide +kernel
theorem d_m11_file_27 : decode b_m11_file 27 = .ok (.iload_n 1, 1) := by decide +kernel
theorem d_m11_file_28 : decode b_m11_file 28 = .ok (.iadd, 1) := by decide +kernel
theorem d_m11_file_29 : decode b_m11_file 29 = .ok (.istore_n 3, 1) := by decide +kernel
theorem d_m11_file_30 : decode b_m11_file 30 = .ok (.aload_n 0, 1) := by decide +kernel
theorem d_m11_file_31 : decode b_m11_file 31 = .ok (.getfield 28, 3) := by decide +kernel
theorem d_m11_file_34 : decode b_m11_file 34 = .ok (.iload_n 1, 1) := by decide +kernel
theorem d_m11_file_35 : decode b_m11_file 35 = .ok (.iaload, 1) := by decide +kernel
theorem d_m11_file_36 : decode b_m11_file 36 = .ok (.aload_n 0, 1) := by decide +kernel
theorem d_m11_file_37 : decode b_m11_file 37 = .ok (.getfield 13, 3) := by decide +kernel
theorem d_m11_file_40 : decode b_m11_file 40 = .ok (.iload_n 2, 1) := by decide +kernel
theorem d_m11_file_41 : decode b_m11_file 41 = .ok (.iaload, 1) := by decide +kernel
theorem d_m11_file_42 : decode b_m11_file 42 = .ok (.if_icmp .ne 13, 3) := by decide +kernel
theorem d_m11_file_45 : decode b_m11_file 45 = .ok (.aload_n 0, 1) := by decide +kernel
theorem d_m11_file_46 : decode b_m11_file 46 = .ok (.getfield 82, 3) := by decide +kernel
theorem d_m11_file_49 : decode b_m11_file 49 = .ok (.iload_n 3, 1) := by decide +kernel
theorem d_m11_file_50 : decode b_m11_file 50 = .ok (.iaload, 1) := by decide +kernel
theorem d_m11_file_51 : decode b_m11_file 51 = .ok (.iconst (-1), 1) := by decide +kernel
theorem d_m11_file_52 : decode b_m11_file 52 = .ok (.if_icmp .eq 10, 3) := by decide +kernel
theorem d_m11_file_55 : decode b_m11_file 55 = .ok (.aload_n 0, 1) := by decide +kernel
theorem d_m11_file_56 : decode b_m11_file 56 = .ok (.bipush (-7), 2) := by decide +kernel
theorem d_m11_file_58 : decode b_m11_file 58 = .ok (.invokevirtual 139, 3) := by decide +kernel
theorem d_m11_file_61 : decode b_m11_file 61 = .ok (.ireturn, 1) := by decide +kernel
theorem d_m11_file_62 : decode b_m11_file 62 = .ok (.aload_n 0, 1) := by decide +kernel
theorem d_m11_file_63 : decode b_m11_file 63 = .ok (.iload_n 2, 1) := by decide +kernel
theorem d_m11_file_64 : decode b_m11_file 64 = .ok (.invokevirtual 234, 3) := by decide +kernel
theorem d_m11_file_67 : decode b_m11_file 67 = .ok (.bipush 12, 2) := by decide +kernel
theorem d_m11_file_69 : decode b_m11_file 69 = .ok (.if_icmp .ne 10, 3) := by decide +kernel
theorem d_m11_file_72 : decode b_m11_file 72 = .ok (.aload_n 0, 1) := by decide +kernel
theorem d_m11_file_73 : decode b_m11_file 73 = .ok (.bipush (-8), 2) := by decide +kernel
theorem d_m11_file_75 : decode b_m11_file 75 = .ok (.invokevirtual 139, 3) := by decide +kernel
theorem d_m11_file_78 : decode b_m11_file 78 = .ok (.ireturn, 1) := by decide +kernel
theorem d_m11_file_79 : decode b_m11_file 79 = .ok (.aload_n 0, 1) := by decide +kernel
theorem d_m11_file_80 : decode b_m11_file 80 = .ok (.getfield 82, 3) := by decide +kernel
theorem d_m11_file_83 : decode b_m11_file 83 = .ok (.iload_n 3, 1) := by decide +kernel
theorem d_m11_file_84 : decode b_m11_file 84 = .ok (.aload_n 0, 1) := by decide +kernel
theorem d_m11_file_85 : decode b_m11_file 85 = .ok (.getfield 76, 3) := by decide +kernel
theorem d_m11_file_88 : decode b_m11_file 88 = .ok (.iload_n 2, 1) := by decide +kernel
theorem d_m11_file_89 : decode b_m11_file 89 = .ok (.iaload, 1) := by decide +kernel
theorem d_m11_file_90 : decode b_m11_file 90 = .ok (.iastore, 1) := by decide +kernel
theorem d_m11_file_91 : decode b_m11_file 91 = .ok (.aload_n 0, 1) := by decide +kernel
theorem d_m11_file_92 : decode b_m11_file 92 = .ok (.getfield 79, 3) := by decide +kernel
theorem d_m11_file_95 : decode b_m11_file 95 = .ok (.bipush 40, 2) := by decide +kernel
theorem d_m11_file_97 : decode b_m11_file 97 = .ok (.iload_n 2, 1) := by decide +kernel
theorem d_m11_file_98 : decode b_m11_file 98 = .ok (.imul, 1) := by decide +kernel
theorem d_m11_file_99 : decode b_m11_file 99 = .ok (.aload_n 0, 1) := by decide +kernel
theorem d_m11_file_100 : decode b_m11_file 100 = .ok (.getfield 76, 3) := by decide +kernel
theorem d_m11_file_103 : decode b_m11_file 103 = .ok (.iload_n 2, 1) := by decide +kernel
theorem d_m11_file_104 : decode b_m11_file 104 = .ok (.iaload, 1) := by decide +kernel
theorem d_m11_file_105 : decode b_m11_file 105 = .ok (.iadd, 1) := by decide +kernel
theorem d_m11_file_106 : decode b_m11_file 106 = .ok (.iload_n 1, 1) := by decide +kernel
theorem d_m11_file_107 : decode b_m11_file 107 = .ok (.iastore, 1) := by decide +kernel
theorem d_m11_file_108 : decode b_m11_file 108 = .ok (.aload_n 0, 1) := by decide +kernel
theorem d_m11_file_109 : decode b_m11_file 109 = .ok (.getfield 85, 3) := by decide +kernel
theorem d_m11_file_112 : decode b_m11_file 112 = .ok (.iload_n 3, 1) := by decide +kernel
theorem d_m11_file_113 : decode b_m11_file 113 = .ok (.iconst 0, 1) := by decide +kernel
theorem d_m11_file_114 : decode b_m11_file 114 = .ok (.iastore, 1) := by decide +kernel
theorem d_m11_file_115 : decode b_m11_file 115 = .ok (.aload_n 0, 1) := by decide +kernel
theorem d_m11_file_116 : decode b_m11_file 116 = .ok (.getfield 88, 3) := by decide +kernel
theorem d_m11_file_119 : decode b_m11_file 119 = .ok (.iload_n 3, 1) := by decide +kernel
theorem d_m11_file_120 : decode b_m11_file 120 = .ok (.iconst (-1), 1) := by decide +kernel
theorem d_m11_file_121 : decode b_m11_file 121 = .ok (.iastore, 1) := by decide +kernel
theorem d_m11_file_122 : decode b_m11_file 122 = .ok (.aload_n 0, 1) := by decide +kernel
theorem d_m11_file_123 : decode b_m11_file 123 = .ok (.getfield 76, 3) := by decide +kernel
theorem d_m11_file_126 : decode b_m11_file 126 = .ok (.iload_n 2, 1) := by decide +kernel
theorem d_m11_file_127 : decode b_m11_file 127 = .ok (.dup2, 1) := by decide +kernel
theorem d_m11_file_128 : decode b_m11_file 128 = .ok (.iaload, 1) := by decide +kernel
theorem d_m11_file_129 : decode b_m11_file 129 = .ok (.iconst 1, 1) := by decide +kernel
theorem d_m11_file_130 : decode b_m11_file 130 = .ok (.iadd, 1) := by decide +kernel
theorem d_m11_file_131 : decode b_m11_file 131 = .ok (.iastore, 1) := by decide +kernel
theorem d_m11_file_132 : decode b_m11_file 132 = .ok (.aload_n 0, 1) := by decide +kernel
theorem d_m11_file_133 : decode b_m11_file 133 = .ok (.iload_n 2, 1) := by decide +kernel
theorem d_m11_file_134 : decode b_m11_file 134 = .ok (.invokevirtual 234, 3) := by decide +kernel
theorem d_m11_file_137 : decode b_m11_file 137 = .ok (.ireturn, 1) := by decide +kernel
def s_m11_file_16  (r0 : Nat) (M : Mm) : Option (Int32 × Mm) := cl (has M r0 21) (s_m11_refused r0 (-3 : Int32) M) (fun v1 M2 => some (v1, M2))
def s_m11_file_55  (r0 : Nat) (M : Mm) : Option (Int32 × Mm) := cl (has M r0 21) (s_m11_refused r0 (-7 : Int32) M) (fun v1 M2 => some (v1, M2))
def s_m11_file (r0 : Nat) (a1 : Int32) (a2 : Int32) (M : Mm) : Option (Int32 × Mm) := cl (has M r0 21) (s_m11_isPiece r0 a1 M) (fun v1 M2 => (if v1 = 0 then s_m11_file_16 r0 M2 else cl (has M2 r0 21) (s_m11_isWire r0 a2 M2) (fun v3 M4 => (if ¬ v3 = 0 then gR M4 r0 21 9 (fun v5 => aI M4 v5 0 a1 (fun v6 => gR M4 r0 21 3 (fun v7 => aI M4 v7 0 a2 (fun v8 => (if ¬ v6 = v8 then s_m11_file_55 r0 M4 else gR M4 r0 21 34 (fun v9 => aI M4 v9 0 (((40 : Int32) * a2) + a1) (fun v10 => (if v10 = (-1 : Int32) then cl (has M4 r0 21) (s_m11_waiting r0 a2 M4) (fun v11 M12 => (if ¬ v11 = (12 : Int32) then gR M12 r0 21 34 (fun v13 => gR M12 r0 21 32 (fun v14 => aI M12 v14 0 a2 (fun v15 => sI M12 v13 0 (((40 : Int32) * a2) + a1) v15 (fun M16 => gR M16 r0 21 33 (fun v17 => gR M16 r0 21 32 (fun v18 => aI M16 v18 0 a2 (fun v19 => sI M16 v17 0 (((40 : Int32) * a2) + v19) a1 (fun M20 => gR M20 r0 21 35 (fun v21 => sI M20 v21 0 (((40 : Int32) * a2) + a1) (0 : Int32) (fun M22 => gR M22 r0 21 36 (fun v23 => sI M22 v23 0 (((40 : Int32) * a2) + a1) (-1 : Int32) (fun M24 => gR M24 r0 21 32 (fun v25 => aI M24 v25 0 a2 (fun v26 => sI M24 v25 0 a2 (v26 + (1 : Int32)) (fun M27 => cl (has M27 r0 21) (s_m11_waiting r0 a2 M27) (fun v28 M29 => some (v28, M29))))))))))))))))) else cl (has M12 r0 21) (s_m11_refused r0 (-8 : Int32) M12) (fun v30 M31 => some (v30, M31)))) else s_m11_file_55 r0 M4)))))))) else s_m11_file_16 r0 M4))))
set_option maxRecDepth 100000 in
set_option maxHeartbeats 4000000 in
theorem w_m11_file_16 {V : Ev} {C : Cx} {n0 : Nat} (hC : Cok V C y_m11_file.cls b_m11_file 4 n0 (some .int) y_m11_file.name) (hR : cR C = rm_m11_file)  : ∀ (r0 : Nat) (M : Mm), Sm V C 4 n0 n0 (qI V C) 16 [(0, rv V.1 r0)] [] M (s_m11_file_16 r0 M) := by
  intro r0 M
  unfold s_m11_file_16
  refine Sm.aload_n hC d_m11_file_16 rfl 0 rfl ?_
  refine Sm.bipush (v := -3) hC d_m11_file_17 (by decide) ?_
  refine Sm.callVi 11 (As := [.int (-3 : Int32)]) (st := []) hC hR cw_m11_refused (tw_i 1048 (by decide +kernel)) (tw_i 1050 (by decide +kernel)) (tw_i 23 (by decide +kernel)) ⟨_, rfl, rfl⟩ (fun r9 M9 h9 => ok_m11_refused h9) rfl rfl (RW.of ⟨rfl, rfl, by decide, by decide⟩) (by simp) d_m11_file_19 (fun v1 M2 => ?_)
  exact Sm.iret hC d_m11_file_22 rfl (Nat.sub_self _)
set_option maxRecDepth 100000 in
set_option maxHeartbeats 4000000 in
theorem w_m11_file_55 {V : Ev} {C : Cx} {n0 : Nat} (hC : Cok V C y_m11_file.cls b_m11_file 4 n0 (some .int) y_m11_file.name) (hR : cR C = rm_m11_file)  : ∀ (r0 : Nat) (M : Mm), Sm V C 4 n0 n0 (qI V C) 55 [(0, rv V.1 r0)] [] M (s_m11_file_55 r0 M) := by
  intro r0 M
  unfold s_m11_file_55
  refine Sm.aload_n hC d_m11_file_55 rfl 0 rfl ?_
  refine Sm.bipush (v := -7) hC d_m11_file_56 (by decide) ?_
  refine Sm.callVi 11 (As := [.int (-7 : Int32)]) (st := []) hC hR cw_m11_refused (tw_i 1048 (by decide +kernel)) (tw_i 1050 (by decide +kernel)) (tw_i 23 (by decide +kernel)) ⟨_, rfl, rfl⟩ (fun r9 M9 h9 => ok_m11_refused h9) rfl rfl (RW.of ⟨rfl, rfl, by decide, by decide⟩) (by simp) d_m11_file_58 (fun v1 M2 => ?_)
  exact Sm.iret hC d_m11_file_61 rfl (Nat.sub_self _)
set_option maxRecDepth 100000 in
set_option maxHeartbeats 4000000 in
theorem ok_m11_file {l : Launch} {V : Ev} {M M' : Mm} {r : Int32} {r0 : Nat} {a1 : Int32} {a2 : Int32} (h : s_m11_file r0 a1 a2 M = some (r, M')) : Met l y_m11_file (Cond.code y_m11_file b_m11_file 4 (some .int) :: TW) rm_m11_file (va_Pc [rv V.1 r0, .int a1, .int a2] (Wd V M)) (QC V (some (.int r)) M' 0) 0 0 (Af V) := by
  refine met_of (fun x : Int32 => some (.int x)) (lv0 := [(0, rv V.1 r0), (1, .int a1), (2, .int a2)]) (by decide) (by simp [lg_sl, cat_rv, cat_i, cat_l, cat_f]) (by simp [lv_args, cat_rv, cat_i, cat_l, cat_f]) (fun C hl hR hC => ?_) h
  subst hl
  generalize mN M = n0 at hC ⊢
  unfold s_m11_file
  refine Sm.aload_n hC d_m11_file_0 rfl 0 rfl ?_
  refine Sm.iload_n hC d_m11_file_1 rfl 1 rfl ?_
  refine Sm.callVi 11 (As := [.int a1]) (st := []) hC hR cw_m11_isPiece (tw_i 1060 (by decide +kernel)) (tw_i 1062 (by decide +kernel)) (tw_i 24 (by decide +kernel)) ⟨_, rfl, rfl⟩ (fun r9 M9 h9 => ok_m11_isPiece h9) rfl rfl (RW.of ⟨rfl, rfl, by decide, by decide⟩) (by simp) d_m11_file_2 (fun v1 M2 => ?_)
  refine Sm.if_eq (tgt := 16) hC d_m11_file_5 (by decide) ?_ ?_
  · refine Sm.sub [0] rfl ?_
    exact w_m11_file_16 hC hR r0 M2
  · refine Sm.aload_n hC d_m11_file_8 rfl 0 rfl ?_
    refine Sm.iload_n hC d_m11_file_9 rfl 2 rfl ?_
    refine Sm.callVi 11 (As := [.int a2]) (st := []) hC hR cw_m11_isWire (tw_i 1161 (by decide +kernel)) (tw_i 1163 (by decide +kernel)) (tw_i 38 (by decide +kernel)) ⟨_, rfl, rfl⟩ (fun r9 M9 h9 => ok_m11_isWire h9) rfl rfl (RW.of ⟨rfl, rfl, by decide, by decide⟩) (by simp) d_m11_file_10 (fun v3 M4 => ?_)
    refine Sm.if_ne (tgt := 23) hC d_m11_file_13 (by decide) ?_ ?_
    · refine Sm.bipush (v := 40) hC d_m11_file_23 (by decide) ?_
      refine Sm.iload_n hC d_m11_file_25 rfl 2 rfl ?_
      refine Sm.imul hC d_m11_file_26 ?_
      refine Sm.iload_n hC d_m11_file_27 rfl 1 rfl ?_
      refine Sm.iadd hC d_m11_file_28 ?_
      refine Sm.istore_n (lv' := [(3, .int (((40 : Int32) * a2) + a1)), (0, rv V.1 r0), (1, .int a1), (2, .int a2)]) hC d_m11_file_29 rfl (by decide) rfl ?_
      refine Sm.aload_n hC d_m11_file_30 rfl 1 rfl ?_
      refine Sm.getR hC fl_m11_28 rfl d_m11_file_31 (fun v5 => ?_)
      refine Sm.iload_n hC d_m11_file_34 rfl 2 rfl ?_
      refine Sm.iald hC d_m11_file_35 (fun v6 => ?_)
      refine Sm.aload_n hC d_m11_file_36 rfl 1 rfl ?_
      refine Sm.getR hC fl_m11_13 rfl d_m11_file_37 (fun v7 => ?_)
      refine Sm.iload_n hC d_m11_file_40 rfl 3 rfl ?_
      refine Sm.iald hC d_m11_file_41 (fun v8 => ?_)
      refine Sm.icmp_ne (tgt := 55) hC d_m11_file_42 (by decide) ?_ ?_
      · refine Sm.sub [1] rfl ?_
        exact w_m11_file_55 hC hR r0 M4
      · refine Sm.aload_n hC d_m11_file_45 rfl 1 rfl ?_
        refine Sm.getR hC fl_m11_82 rfl d_m11_file_46 (fun v9 => ?_)
        refine Sm.iload_n hC d_m11_file_49 rfl 0 rfl ?_
        refine Sm.iald hC d_m11_file_50 (fun v10 => ?_)
        refine Sm.iconst (v := -1) hC d_m11_file_51 (by decide) ?_
        refine Sm.icmp_eq (tgt := 62) hC d_m11_file_52 (by decide) ?_ ?_
        · refine Sm.aload_n hC d_m11_file_62 rfl 1 rfl ?_
          refine Sm.iload_n hC d_m11_file_63 rfl 3 rfl ?_
          refine Sm.callVi 11 (As := [.int a2]) (st := []) hC hR cw_m11_waiting (tw_i 1165 (by decide +kernel)) (tw_i 1167 (by decide +kernel)) (tw_i 39 (by decide +kernel)) ⟨_, rfl, rfl⟩ (fun r9 M9 h9 => ok_m11_waiting h9) rfl rfl (RW.of ⟨rfl, rfl, by decide, by decide⟩) (by simp) d_m11_file_64 (fun v11 M12 => ?_)
          refine Sm.bipush (v := 12) hC d_m11_file_67 (by decide) ?_
          refine Sm.icmp_ne (tgt := 79) hC d_m11_file_69 (by decide) ?_ ?_
          · refine Sm.aload_n hC d_m11_file_79 rfl 1 rfl ?_
            refine Sm.getR hC fl_m11_82 rfl d_m11_file_80 (fun v13 => ?_)
            refine Sm.iload_n hC d_m11_file_83 rfl 0 rfl ?_
            refine Sm.aload_n hC d_m11_file_84 rfl 1 rfl ?_
            refine Sm.getR hC fl_m11_76 rfl d_m11_file_85 (fun v14 => ?_)
            refine Sm.iload_n hC d_m11_file_88 rfl 3 rfl ?_
            refine Sm.iald hC d_m11_file_89 (fun v15 => ?_)
            refine Sm.iast hC d_m11_file_90 (fun M16 => ?_)
            refine Sm.aload_n hC d_m11_file_91 rfl 1 rfl ?_
            refine Sm.getR hC fl_m11_79 rfl d_m11_file_92 (fun v17 => ?_)
            refine Sm.bipush (v := 40) hC d_m11_file_95 (by decide) ?_
            refine Sm.iload_n hC d_m11_file_97 rfl 3 rfl ?_
            refine Sm.imul hC d_m11_file_98 ?_
            refine Sm.aload_n hC d_m11_file_99 rfl 1 rfl ?_
            refine Sm.getR hC fl_m11_76 rfl d_m11_file_100 (fun v18 => ?_)
            refine Sm.iload_n hC d_m11_file_103 rfl 3 rfl ?_
            refine Sm.iald hC d_m11_file_104 (fun v19 => ?_)
            refine Sm.iadd hC d_m11_file_105 ?_
            refine Sm.iload_n hC d_m11_file_106 rfl 2 rfl ?_
            refine Sm.iast hC d_m11_file_107 (fun M20 => ?_)
            refine Sm.aload_n hC d_m11_file_108 rfl 1 rfl ?_
            refine Sm.getR hC fl_m11_85 rfl d_m11_file_109 (fun v21 => ?_)
            refine Sm.iload_n hC d_m11_file_112 rfl 0 rfl ?_
            refine Sm.iconst (v := 0) hC d_m11_file_113 (by decide) ?_
            refine Sm.iast hC d_m11_file_114 (fun M22 => ?_)
            refine Sm.aload_n hC d_m11_file_115 rfl 1 rfl ?_
            refine Sm.getR hC fl_m11_88 rfl d_m11_file_116 (fun v23 => ?_)
            refine Sm.iload_n hC d_m11_file_119 rfl 0 rfl ?_
            refine Sm.iconst (v := -1) hC d_m11_file_120 (by decide) ?_
            refine Sm.iast hC d_m11_file_121 (fun M24 => ?_)
            refine Sm.aload_n hC d_m11_file_122 rfl 1 rfl ?_
            refine Sm.getR hC fl_m11_76 rfl d_m11_file_123 (fun v25 => ?_)
            refine Sm.iload_n hC d_m11_file_126 rfl 3 rfl ?_
            refine Sm.dup2 hC d_m11_file_127 rfl (cat_rv _ _) ?_
            refine Sm.iald hC d_m11_file_128 (fun v26 => ?_)
            refine Sm.iconst (v := 1) hC d_m11_file_129 (by decide) ?_
            refine Sm.iadd hC d_m11_file_130 ?_
            refine Sm.iast hC d_m11_file_131 (fun M27 => ?_)
            refine Sm.aload_n hC d_m11_file_132 rfl 1 rfl ?_
            refine Sm.iload_n hC d_m11_file_133 rfl 3 rfl ?_
            refine Sm.callVi 11 (As := [.int a2]) (st := []) hC hR cw_m11_waiting (tw_i 1165 (by decide +kernel)) (tw_i 1167 (by decide +kernel)) (tw_i 39 (by decide +kernel)) ⟨_, rfl, rfl⟩ (fun r9 M9 h9 => ok_m11_waiting h9) rfl rfl (RW.of ⟨rfl, rfl, by decide, by decide⟩) (by simp) d_m11_file_134 (fun v28 M29 => ?_)
            exact Sm.iret hC d_m11_file_137 rfl (Nat.sub_self _)
          · refine Sm.aload_n hC d_m11_file_72 rfl 1 rfl ?_
            refine Sm.bipush (v := -8) hC d_m11_file_73 (by decide) ?_
            refine Sm.callVi 11 (As := [.int (-8 : Int32)]) (st := []) hC hR cw_m11_refused (tw_i 1048 (by decide +kernel)) (tw_i 1050 (by decide +kernel)) (tw_i 23 (by decide +kernel)) ⟨_, rfl, rfl⟩ (fun r9 M9 h9 => ok_m11_refused h9) rfl rfl (RW.of ⟨rfl, rfl, by decide, by decide⟩) (by simp) d_m11_file_75 (fun v30 M31 => ?_)
            exact Sm.iret hC d_m11_file_78 rfl (Nat.sub_self _)
        · refine Sm.sub [1] rfl ?_
          exact w_m11_file_55 hC hR r0 M4
    · refine Sm.sub [0] rfl ?_
      exact w_m11_file_16 hC hR r0 M4
/-! NewsWireModel.forget()V -/
theorem fl_m11_237 : FL "NewsWireModel" 237 11 39 0 false .int := ⟨_, _, _, _, rfl, in_c11, ty_c11, nm_c11, by decide, rfl, tw_i 904 (by decide +kernel), rfl, rfl, rfl, rfl⟩
theorem fl_m11_100 : FL "NewsWireModel" 100 11 41 2 true (.array .int) := ⟨_, _, _, _, rfl, in_c11, ty_c11, nm_c11, by decide, rfl, tw_i 906 (by decide +kernel), rfl, rfl, rfl, rfl⟩
theorem fl_m11_97 : FL "NewsWireModel" 97 11 40 2 true (.array .int) := ⟨_, _, _, _, rfl, in_c11, ty_c11, nm_c11, by decide, rfl, tw_i 905 (by decide +kernel), rfl, rfl, rfl, rfl⟩
abbrev b_m11_forget : ByteArray := prog_13_method_36_code
def y_m11_forget : MethodName := ⟨"NewsWireModel", "forget", "()V"⟩
def rm_m11_forget : Room := { frames := 1, cells := 0, slots := 0, locals := 60 }
theorem cw_m11_forget : CW y_m11_forget b_m11_forget 3 none 0 := ⟨tw_i 66 (by decide +kernel), tw_i 1196 (by decide +kernel), by decide, by decide, by decide +kernel⟩
theorem d_m11_forget_0 : decode b_m11_forget 0 = .ok (.iconst 0, 1) := by decide +kernel
theorem d_m11_forget_1 : decode b_m11_forget 1 = .ok (.istore_n 1, 1) := by decide +kernel
theorem d_m11_forget_2 : decode b_m11_forget 2 = .ok (.iconst 0, 1) := by decide +kernel
theorem d_m11_forget_3 : decode b_m11_forget 3 = .ok (.istore_n 2, 1) := by decide +kernel
theorem d_m11_forget_4 : decode b_m11_forget 4 = .ok (.iload_n 2, 1) := by decide +kernel
theorem d_m11_forget_5 : decode b_m11_forget 5 = .ok (.aload_n 0, 1) := by decide +kernel
theorem d_m11_forget_6 : decode b_m11_forget 6 = .ok (.getfield 237, 3) := by decide +kernel
theorem d_m11_forget_9 : decode b_m11_forget 9 = .ok (.if_icmp .ge 52, 3) := by decide +kernel
theorem d_m11_forget_12 : decode b_m11_forget 12 = .ok (.aload_n 0, 1) := by decide +kernel
theorem d_m11_forget_13 : decode b_m11_forget 13 = .ok (.getfield 100, 3) := by decide +kernel
theorem d_m11_forget_16 : decode b_m11_forget 16 = .ok (.iload_n 2, 1) := by decide +kernel
theorem d_m11_forget_17 : decode b_m11_forget 17 = .ok (.iaload, 1) := by decide +kernel
theorem d_m11_forget_18 : decode b_m11_forget 18 = .ok (.aload_n 0, 1) := by decide +kernel
theorem d_m11_forget_19 : decode b_m11_forget 19 = .ok (.getfield 211, 3) := by decide +kernel
theorem d_m11_forget_22 : decode b_m11_forget 22 = .ok (.if_icmp .ge 6, 3) := by decide +kernel
theorem d_m11_forget_25 : decode b_m11_forget 25 = .ok (.goto 30, 3) := by decide +kernel
theorem d_m11_forget_28 : decode b_m11_forget 28 = .ok (.aload_n 0, 1) := by decide +kernel
theorem d_m11_forget_29 : decode b_m11_forget 29 = .ok (.getfield 97, 3) := by decide +kernel
theorem d_m11_forget_32 : decode b_m11_forget 32 = .ok (.iload_n 1, 1) := by decide +kernel
theorem d_m11_forget_33 : decode b_m11_forget 33 = .ok (.aload_n 0, 1) := by decide +kernel
theorem d_m11_forget_34 : decode b_m11_forget 34 = .ok (.getfield 97, 3) := by decide +kernel
theorem d_m11_forget_37 : decode b_m11_forget 37 = .ok (.iload_n 2, 1) := by decide +kernel
theorem d_m11_forget_38 : decode b_m11_forget 38 = .ok (.iaload, 1) := by decide +kernel
theorem d_m11_forget_39 : decode b_m11_forget 39 = .ok (.iastore, 1) := by decide +kernel
theorem d_m11_forget_40 : decode b_m11_forget 40 = .ok (.aload_n 0, 1) := by decide +kernel
theorem d_m11_forget_41 : decode b_m11_forget 41 = .ok (.getfield 100, 3) := by decide +kernel
theorem d_m11_forget_44 : decode b_m11_forget 44 = .ok (.iload_n 1, 1) := by decide +kernel
theorem d_m11_forget_45 : decode b_m11_forget 45 = .ok (.aload_n 0, 1) := by decide +kernel
theorem d_m11_forget_46 : decode b_m11_forget 46 = .ok (.getfield 100, 3) := by decide +kernel
theorem d_m11_forget_49 : decode b_m11_forget 49 = .ok (.iload_n 2, 1) := by decide +kernel
theorem d_m11_forget_50 : decode b_m11_forget 50 = .ok (.iaload, 1) := by decide +kernel
theorem d_m11_forget_51 : decode b_m11_forget 51 = .ok (.iastore, 1) := by decide +kernel
theorem d_m11_forget_52 : decode b_m11_forget 52 = .ok (.iinc 1 1, 3) := by decide +kernel
theorem d_m11_forget_55 : decode b_m11_forget 55 = .ok (.iinc 2 1, 3) := by decide +kernel
theorem d_m11_forget_58 : decode b_m11_forget 58 = .ok (.goto (-54), 3) := by decide +kernel
theorem d_m11_forget_61 : decode b_m11_forget 61 = .ok (.aload_n 0, 1) := by decide +kernel
theorem d_m11_forget_62 : decode b_m11_forget 62 = .ok (.iload_n 1, 1) := by decide +kernel
theorem d_m11_forget_63 : decode b_m11_forget 63 = .ok (.putfield 237, 3) := by decide +kernel
theorem d_m11_forget_66 : decode b_m11_forget 66 = .ok (.return_, 1) := by decide +kernel
def s_m11_forget_55 (k4 : Nat → Int32 → Int32 → Mm → Option (Unit × Mm)) (r0 : Nat) (x1 : Int32) (x2 : Int32) (M : Mm) : Option (Unit × Mm) := k4 r0 x1 (x2 + 1) M
def s_m11_forget_4  : Nat → Nat → Int32 → Int32 → Mm → Option (Unit × Mm)
  | 0, _, _, _, _ => none
  | n + 1, r0, x1, x2, M => gI M r0 21 39 (fun v1 => (if v1 ≤ x2 then pI M r0 21 39 x1 (fun M2 => some ((), M2)) else gR M r0 21 41 (fun v3 => aI M v3 0 x2 (fun v4 => gI M r0 21 31 (fun v5 => (if v5 ≤ v4 then gR M r0 21 40 (fun v6 => gR M r0 21 40 (fun v7 => aI M v7 0 x2 (fun v8 => sI M v6 0 x1 v8 (fun M9 => gR M9 r0 21 41 (fun v10 => gR M9 r0 21 41 (fun v11 => aI M9 v11 0 x2 (fun v12 => sI M9 v10 0 x1 v12 (fun M13 => s_m11_forget_55 (s_m11_forget_4 n) r0 (x1 + 1) x2 M13)))))))) else s_m11_forget_55 (s_m11_forget_4 n) r0 x1 x2 M))))))
def s_m11_forget (r0 : Nat) (M : Mm) : Option (Unit × Mm) := s_m11_forget_4 FU r0 (0 : Int32) (0 : Int32) M
set_option maxRecDepth 100000 in
set_option maxHeartbeats 4000000 in
theorem w_m11_forget_55 {V : Ev} {C : Cx} {n0 : Nat} (hC : Cok V C y_m11_forget.cls b_m11_forget 3 n0 none y_m11_forget.name) (hR : cR C = rm_m11_forget) (k4 : Nat → Int32 → Int32 → Mm → Option (Unit × Mm)) (hk4 : ∀ (r0 : Nat) (x1 : Int32) (x2 : Int32) (M : Mm), Sm V C 3 n0 n0 (qV V C) 4 [(0, rv V.1 r0), (1, .int x1), (2, .int x2)] [] M (k4 r0 x1 x2 M)) : ∀ (r0 : Nat) (x1 : Int32) (x2 : Int32) (M : Mm), Sm V C 3 n0 n0 (qV V C) 55 [(0, rv V.1 r0), (1, .int x1), (2, .int x2)] [] M (s_m11_forget_55 k4 r0 x1 x2 M) := by
  intro r0 x1 x2 M
  unfold s_m11_forget_55
  refine Sm.iinc (v := x2 + 1) (lv' := [(2, .int (x2 + 1)), (0, rv V.1 r0), (1, .int x1)]) hC d_m11_forget_55 2 rfl rfl (by decide) rfl ?_
  refine Sm.goto (tgt := 4) hC d_m11_forget_58 (by decide) ?_
  refine Sm.sub [1, 2, 0] rfl ?_
  exact hk4 r0 x1 (x2 + 1) M
set_option maxRecDepth 100000 in
set_option maxHeartbeats 4000000 in
theorem w_m11_forget_4 {V : Ev} {C : Cx} {n0 : Nat} (hC : Cok V C y_m11_forget.cls b_m11_forget 3 n0 none y_m11_forget.name) (hR : cR C = rm_m11_forget)  : ∀ (n : Nat) (r0 : Nat) (x1 : Int32) (x2 : Int32) (M : Mm), Sm V C 3 n0 n0 (qV V C) 4 [(0, rv V.1 r0), (1, .int x1), (2, .int x2)] [] M (s_m11_forget_4 n r0 x1 x2 M) := by
  intro n
  induction n with
  | zero => exact fun r0 x1 x2 M => Sm.none_
  | succ n ih =>
    intro r0 x1 x2 M
    unfold s_m11_forget_4
    refine Sm.iload_n hC d_m11_forget_4 rfl 2 rfl ?_
    refine Sm.aload_n hC d_m11_forget_5 rfl 0 rfl ?_
    refine Sm.getI hC fl_m11_237 rfl d_m11_forget_6 (fun v1 => ?_)
    refine Sm.icmp_ge (tgt := 61) hC d_m11_forget_9 (by decide) ?_ ?_
    · refine Sm.aload_n hC d_m11_forget_61 rfl 0 rfl ?_
      refine Sm.iload_n hC d_m11_forget_62 rfl 1 rfl ?_
      refine Sm.putI hC fl_m11_237 rfl d_m11_forget_63 (fun M2 => ?_)
      exact Sm.vret hC d_m11_forget_66 rfl (Nat.sub_self _)
    · refine Sm.aload_n hC d_m11_forget_12 rfl 0 rfl ?_
      refine Sm.getR hC fl_m11_100 rfl d_m11_forget_13 (fun v3 => ?_)
      refine Sm.iload_n hC d_m11_forget_16 rfl 2 rfl ?_
      refine Sm.iald hC d_m11_forget_17 (fun v4 => ?_)
      refine Sm.aload_n hC d_m11_forget_18 rfl 0 rfl ?_
      refine Sm.getI hC fl_m11_211 rfl d_m11_forget_19 (fun v5 => ?_)
      refine Sm.icmp_ge (tgt := 28) hC d_m11_forget_22 (by decide) ?_ ?_
      · refine Sm.aload_n hC d_m11_forget_28 rfl 0 rfl ?_
        refine Sm.getR hC fl_m11_97 rfl d_m11_forget_29 (fun v6 => ?_)
        refine Sm.iload_n hC d_m11_forget_32 rfl 1 rfl ?_
        refine Sm.aload_n hC d_m11_forget_33 rfl 0 rfl ?_
        refine Sm.getR hC fl_m11_97 rfl d_m11_forget_34 (fun v7 => ?_)
        refine Sm.iload_n hC d_m11_forget_37 rfl 2 rfl ?_
        refine Sm.iald hC d_m11_forget_38 (fun v8 => ?_)
        refine Sm.iast hC d_m11_forget_39 (fun M9 => ?_)
        refine Sm.aload_n hC d_m11_forget_40 rfl 0 rfl ?_
        refine Sm.getR hC fl_m11_100 rfl d_m11_forget_41 (fun v10 => ?_)
        refine Sm.iload_n hC d_m11_forget_44 rfl 1 rfl ?_
        refine Sm.aload_n hC d_m11_forget_45 rfl 0 rfl ?_
        refine Sm.getR hC fl_m11_100 rfl d_m11_forget_46 (fun v11 => ?_)
        refine Sm.iload_n hC d_m11_forget_49 rfl 2 rfl ?_
        refine Sm.iald hC d_m11_forget_50 (fun v12 => ?_)
        refine Sm.iast hC d_m11_forget_51 (fun M13 => ?_)
        refine Sm.iinc (v := x1 + 1) (lv' := [(1, .int (x1 + 1)), (0, rv V.1 r0), (2, .int x2)]) hC d_m11_forget_52 1 rfl rfl (by decide) (by simp [cat_rv]) ?_
        refine Sm.sub [1, 0, 2] rfl ?_
        exact w_m11_forget_55 hC hR (s_m11_forget_4 n) ih r0 (x1 + 1) x2 M13
      · refine Sm.goto (tgt := 55) hC d_m11_forget_25 (by decide) ?_
        exact w_m11_forget_55 hC hR (s_m11_forget_4 n) ih r0 x1 x2 M
set_option maxRecDepth 100000 in
set_option maxHeartbeats 4000000 in
theorem ok_m11_forget {l : Launch} {V : Ev} {M M' : Mm} {r : Unit} {r0 : Nat} (h : s_m11_forget r0 M = some (r, M')) : Met l y_m11_forget (Cond.code y_m11_forget b_m11_forget 3 none :: TW) rm_m11_forget (va_Pc [rv V.1 r0] (Wd V M)) (QC V none M' 0) 0 0 (Af V) := by
  refine met_of (fun _ : Unit => none) (lv0 := [(0, rv V.1 r0)]) (by decide) (by simp [lg_sl, cat_rv, cat_i, cat_l, cat_f]) (by simp [lv_args, cat_rv, cat_i, cat_l, cat_f]) (fun C hl hR hC => ?_) h
  subst hl
  generalize mN M = n0 at hC ⊢
  unfold s_m11_forget
  refine Sm.iconst (v := 0) hC d_m11_forget_0 (by decide) ?_
  refine Sm.istore_n (i := 1) (lv' := [(1, .int (0 : Int32)), (0, rv V.1 r0)]) hC d_m11_forget_1 rfl (by decide) (by simp [cat_rv, cat_i, cat_l, cat_f]) ?_
  refine Sm.iconst (v := 0) hC d_m11_forget_2 (by decide) ?_
  refine Sm.istore_n (lv' := [(2, .int (0 : Int32)), (1, .int (0 : Int32)), (0, rv V.1 r0)]) hC d_m11_forget_3 rfl (by decide) rfl ?_
  refine Sm.sub [2, 1, 0] rfl ?_
  exact w_m11_forget_4 hC hR FU r0 (0 : Int32) (0 : Int32) M
/-! NewsWireModel.isGarbled(II)Z -/
abbrev b_m11_isGarbled : ByteArray := prog_13_method_37_code
def y_m11_isGarbled : MethodName := ⟨"NewsWireModel", "isGarbled", "(II)Z"⟩
def rm_m11_isGarbled : Room := { frames := 1, cells := 0, slots := 0, locals := 60 }
theorem cw_m11_isGarbled : CW y_m11_isGarbled b_m11_isGarbled 5 (some .boolean) 2 := ⟨tw_i 66 (by decide +kernel), tw_i 1176 (by decide +kernel), by decide, by decide, by decide +kernel⟩
theorem d_m11_isGarbled_0 : decode b_m11_isGarbled 0 = .ok (.iconst 0, 1) := by decide +kernel
theorem d_m11_isGarbled_1 : decode b_m11_isGarbled 1 = .ok (.istore_n 3, 1) := by decide +kernel
theorem d_m11_isGarbled_2 : decode b_m11_isGarbled 2 = .ok (.iconst 0, 1) := by decide +kernel
theorem d_m11_isGarbled_3 : decode b_m11_isGarbled 3 = .ok (.istore 4, 2) := by decide +kernel
theorem d_m11_isGarbled_5 : decode b_m11_isGarbled 5 = .ok (.iload 4, 2) := by decide +kernel
theorem d_m11_isGarbled_7 : decode b_m11_isGarbled 7 = .ok (.aload_n 0, 1) := by decide +kernel
theorem d_m11_isGarbled_8 : decode b_m11_isGarbled 8 = .ok (.getfield 237, 3) := by decide +kernel
theorem d_m11_isGarbled_11 : decode b_m11_isGarbled 11 = .ok (.if_icmp .ge 41, 3) := by decide +kernel
theorem d_m11_isGarbled_14 : decode b_m11_isGarbled 14 = .ok (.iload_n 3, 1) := by decide +kernel
theorem d_m11_isGarbled_15 : decode b_m11_isGarbled 15 = .ok (.ifCond .ne 25, 3) := by decide +kernel
theorem d_m11_isGarbled_18 : decode b_m11_isGarbled 18 = .ok (.aload_n 0, 1) := by decide +kernel
theorem d_m11_isGarbled_19 : decode b_m11_isGarbled 19 = .ok (.getfield 97, 3) := by decide +kernel
theorem d_m11_isGarbled_22 : decode b_m11_isGarbled 22 = .ok (.iload 4, 2) := by decide +kernel
theorem d_m11_isGarbled_24 : decode b_m11_isGarbled 24 = .ok (.iaload, 1) := by decide +kernel
theorem d_m11_isGarbled_25 : decode b_m11_isGarbled 25 = .ok (.iload_n 1, 1) := by decide +kernel
theorem d_m11_isGarbled_26 : decode b_m11_isGarbled 26 = .ok (.if_icmp .ne 18, 3) := by decide +kernel
theorem d_m11_isGarbled_29 : decode b_m11_isGarbled 29 = .ok (.aload_n 0, 1) := by decide +kernel
theorem d_m11_isGarbled_30 : decode b_m11_isGarbled 30 = .ok (.getfield 100, 3) := by decide +kernel
theorem d_m11_isGarbled_33 : decode b_m11_isGarbled 33 = .ok (.iload 4, 2) := by decide +kernel
theorem d_m11_isGarbled_35 : decode b_m11_isGarbled 35 = .ok (.iaload, 1) := by decide +kernel
theorem d_m11_isGarbled_36 : decode b_m11_isGarbled 36 = .ok (.iload_n 2, 1) := by decide +kernel
theorem d_m11_isGarbled_37 : decode b_m11_isGarbled 37 = .ok (.if_icmp .ne 7, 3) := by decide +kernel
theorem d_m11_isGarbled_40 : decode b_m11_isGarbled 40 = .ok (.iconst 1, 1) := by decide +kernel
theorem d_m11_isGarbled_41 : decode b_m11_isGarbled 41 = .ok (.goto 4, 3) := by decide +kernel
theorem d_m11_isGarbled_44 : decode b_m11_isGarbled 44 = .ok (.iconst 0, 1) := by decide +kernel
theorem d_m11_isGarbled_45 : decode b_m11_isGarbled 45 = .ok (.istore_n 3, 1) := by decide +kernel
theorem d_m11_isGarbled_46 : decode b_m11_isGarbled 46 = .ok (.iinc 4 1, 3) := by decide +kernel
theorem d_m11_isGarbled_49 : decode b_m11_isGarbled 49 = .ok (.goto (-44), 3) := by decide +kernel
theorem d_m11_isGarbled_52 : decode b_m11_isGarbled 52 = .ok (.iload_n 3, 1) := by decide +kernel
theorem d_m11_isGarbled_53 : decode b_m11_isGarbled 53 = .ok (.ireturn, 1) := by decide +kernel
def s_m11_isGarbled_45 (k5 : Nat → Int32 → Int32 → Int32 → Int32 → Mm → Option (Int32 × Mm)) (r0 : Nat) (x1 : Int32) (x2 : Int32) (x4 : Int32) (t0 : Int32) (M : Mm) : Option (Int32 × Mm) := k5 r0 x1 x2 t0 (x4 + 1) M
def s_m11_isGarbled_40 (k5 : Nat → Int32 → Int32 → Int32 → Int32 → Mm → Option (Int32 × Mm)) (r0 : Nat) (x1 : Int32) (x2 : Int32) (x4 : Int32) (M : Mm) : Option (Int32 × Mm) := s_m11_isGarbled_45 k5 r0 x1 x2 x4 (1 : Int32) M
def s_m11_isGarbled_44 (k5 : Nat → Int32 → Int32 → Int32 → Int32 → Mm → Option (Int32 × Mm)) (r0 : Nat) (x1 : Int32) (x2 : Int32) (x4 : Int32) (M : Mm) : Option (Int32 × Mm) := s_m11_isGarbled_45 k5 r0 x1 x2 x4 (0 : Int32) M
def s_m11_isGarbled_5  : Nat → Nat → Int32 → Int32 → Int32 → Int32 → Mm → Option (Int32 × Mm)
  | 0, _, _, _, _, _, _ => none
  | n + 1, r0, x1, x2, x3, x4, M => gI M r0 21 39 (fun v1 => (if v1 ≤ x4 then rz x3 (some (x3, M)) else (if ¬ x3 = 0 then s_m11_isGarbled_40 (s_m11_isGarbled_5 n) r0 x1 x2 x4 M else gR M r0 21 40 (fun v2 => aI M v2 0 x4 (fun v3 => (if ¬ v3 = x1 then s_m11_isGarbled_44 (s_m11_isGarbled_5 n) r0 x1 x2 x4 M else gR M r0 21 41 (fun v4 => aI M v4 0 x4 (fun v5 => (if ¬ v5 = x2 then s_m11_isGarbled_44 (s_m11_isGarbled_5 n) r0 x1 x2 x4 M else s_m11_isGarbled_40 (s_m11_isGarbled_5 n) r0 x1 x2 x4 M)))))))))
def s_m11_isGarbled (r0 : Nat) (a1 : Int32) (a2 : Int32) (M : Mm) : Option (Int32 × Mm) := s_m11_isGarbled_5 FU r0 a1 a2 (0 : Int32) (0 : Int32) M
set_option maxRecDepth 100000 in
set_option maxHeartbeats 4000000 in
theorem w_m11_isGarbled_45 {V : Ev} {C : Cx} {n0 : Nat} (hC : Cok V C y_m11_isGarbled.cls b_m11_isGarbled 5 n0 (some .boolean) y_m11_isGarbled.name) (hR : cR C = rm_m11_isGarbled) (k5 : Nat → Int32 → Int32 → Int32 → Int32 → Mm → Option (Int32 × Mm)) (hk5 : ∀ (r0 : Nat) (x1 : Int32) (x2 : Int32) (x3 : Int32) (x4 : Int32) (M : Mm), Sm V C 5 n0 n0 (qI V C) 5 [(0, rv V.1 r0), (1, .int x1), (2, .int x2), (3, .int x3), (4, .int x4)] [] M (k5 r0 x1 x2 x3 x4 M)) : ∀ (r0 : Nat) (x1 : Int32) (x2 : Int32) (x4 : Int32) (t0 : Int32) (M : Mm), Sm V C 5 n0 n0 (qI V C) 45 [(0, rv V.1 r0), (1, .int x1), (2, .int x2), (4, .int x4)] [.int t0] M (s_m11_isGarbled_45 k5 r0 x1 x2 x4 t0 M) := by
  intro r0 x1 x2 x4 t0 M
  unfold s_m11_isGarbled_45
  refine Sm.istore_n (lv' := [(3, .int t0), (0, rv V.1 r0), (1, .int x1), (2, .int x2), (4, .int x4)]) hC d_m11_isGarbled_45 rfl (by decide) rfl ?_
  refine Sm.iinc (v := x4 + 1) (lv' := [(4, .int (x4 + 1)), (3, .int t0), (0, rv V.1 r0), (1, .int x1), (2, .int x2)]) hC d_m11_isGarbled_46 4 rfl rfl (by decide) rfl ?_
  refine Sm.goto (tgt := 5) hC d_m11_isGarbled_49 (by decide) ?_
  refine Sm.sub [2, 3, 4, 1, 0] rfl ?_
  exact hk5 r0 x1 x2 t0 (x4 + 1) M
set_option maxRecDepth 100000 in
set_option maxHeartbeats 4000000 in
theorem w_m11_isGarbled_40 {V : Ev} {C : Cx} {n0 : Nat} (hC : Cok V C y_m11_isGarbled.cls b_m11_isGarbled 5 n0 (some .boolean) y_m11_isGarbled.name) (hR : cR C = rm_m11_isGarbled) (k5 : Nat → Int32 → Int32 → Int32 → Int32 → Mm → Option (Int32 × Mm)) (hk5 : ∀ (r0 : Nat) (x1 : Int32) (x2 : Int32) (x3 : Int32) (x4 : Int32) (M : Mm), Sm V C 5 n0 n0 (qI V C) 5 [(0, rv V.1 r0), (1, .int x1), (2, .int x2), (3, .int x3), (4, .int x4)] [] M (k5 r0 x1 x2 x3 x4 M)) : ∀ (r0 : Nat) (x1 : Int32) (x2 : Int32) (x4 : Int32) (M : Mm), Sm V C 5 n0 n0 (qI V C) 40 [(0, rv V.1 r0), (1, .int x1), (2, .int x2), (4, .int x4)] [] M (s_m11_isGarbled_40 k5 r0 x1 x2 x4 M) := by
  intro r0 x1 x2 x4 M
  unfold s_m11_isGarbled_40
  refine Sm.iconst (v := 1) hC d_m11_isGarbled_40 (by decide) ?_
  refine Sm.goto (tgt := 45) hC d_m11_isGarbled_41 (by decide) ?_
  exact w_m11_isGarbled_45 hC hR k5 hk5 r0 x1 x2 x4 (1 : Int32) M
set_option maxRecDepth 100000 in
set_option maxHeartbeats 4000000 in
theorem w_m11_isGarbled_44 {V : Ev} {C : Cx} {n0 : Nat} (hC : Cok V C y_m11_isGarbled.cls b_m11_isGarbled 5 n0 (some .boolean) y_m11_isGarbled.name) (hR : cR C = rm_m11_isGarbled) (k5 : Nat → Int32 → Int32 → Int32 → Int32 → Mm → Option (Int32 × Mm)) (hk5 : ∀ (r0 : Nat) (x1 : Int32) (x2 : Int32) (x3 : Int32) (x4 : Int32) (M : Mm), Sm V C 5 n0 n0 (qI V C) 5 [(0, rv V.1 r0), (1, .int x1), (2, .int x2), (3, .int x3), (4, .int x4)] [] M (k5 r0 x1 x2 x3 x4 M)) : ∀ (r0 : Nat) (x1 : Int32) (x2 : Int32) (x4 : Int32) (M : Mm), Sm V C 5 n0 n0 (qI V C) 44 [(0, rv V.1 r0), (1, .int x1), (2, .int x2), (4, .int x4)] [] M (s_m11_isGarbled_44 k5 r0 x1 x2 x4 M) := by
  intro r0 x1 x2 x4 M
  unfold s_m11_isGarbled_44
  refine Sm.iconst (v := 0) hC d_m11_isGarbled_44 (by decide) ?_
  exact w_m11_isGarbled_45 hC hR k5 hk5 r0 x1 x2 x4 (0 : Int32) M
set_option maxRecDepth 100000 in
set_option maxHeartbeats 4000000 in
theorem w_m11_isGarbled_5 {V : Ev} {C : Cx} {n0 : Nat} (hC : Cok V C y_m11_isGarbled.cls b_m11_isGarbled 5 n0 (some .boolean) y_m11_isGarbled.name) (hR : cR C = rm_m11_isGarbled)  : ∀ (n : Nat) (r0 : Nat) (x1 : Int32) (x2 : Int32) (x3 : Int32) (x4 : Int32) (M : Mm), Sm V C 5 n0 n0 (qI V C) 5 [(0, rv V.1 r0), (1, .int x1), (2, .int x2), (3, .int x3), (4, .int x4)] [] M (s_m11_isGarbled_5 n r0 x1 x2 x3 x4 M) := by
  intro n
  induction n with
  | zero => exact fun r0 x1 x2 x3 x4 M => Sm.none_
  | succ n ih =>
    intro r0 x1 x2 x3 x4 M
    unfold s_m11_isGarbled_5
    refine Sm.iload hC d_m11_isGarbled_5 4 rfl ?_
    refine Sm.aload_n hC d_m11_isGarbled_7 rfl 0 rfl ?_
    refine Sm.getI hC fl_m11_237 rfl d_m11_isGarbled_8 (fun v1 => ?_)
    refine Sm.icmp_ge (tgt := 52) hC d_m11_isGarbled_11 (by decide) ?_ ?_
    · refine Sm.iload_n hC d_m11_isGarbled_52 rfl 3 rfl ?_
      exact Sm.zret hC d_m11_isGarbled_53 rfl (Nat.sub_self _)
    · refine Sm.iload_n hC d_m11_isGarbled_14 rfl 3 rfl ?_
      refine Sm.if_ne (tgt := 40) hC d_m11_isGarbled_15 (by decide) ?_ ?_
      · refine Sm.sub [0, 1, 2, 4] rfl ?_
        exact w_m11_isGarbled_40 hC hR (s_m11_isGarbled_5 n) ih r0 x1 x2 x4 M
      · refine Sm.aload_n hC d_m11_isGarbled_18 rfl 0 rfl ?_
        refine Sm.getR hC fl_m11_97 rfl d_m11_isGarbled_19 (fun v2 => ?_)
        refine Sm.iload hC d_m11_isGarbled_22 4 rfl ?_
        refine Sm.iald hC d_m11_isGarbled_24 (fun v3 => ?_)
        refine Sm.iload_n hC d_m11_isGarbled_25 rfl 1 rfl ?_
        refine Sm.icmp_ne (tgt := 44) hC d_m11_isGarbled_26 (by decide) ?_ ?_
        · refine Sm.sub [0, 1, 2, 4] rfl ?_
          exact w_m11_isGarbled_44 hC hR (s_m11_isGarbled_5 n) ih r0 x1 x2 x4 M
        · refine Sm.aload_n hC d_m11_isGarbled_29 rfl 0 rfl ?_
          refine Sm.getR hC fl_m11_100 rfl d_m11_isGarbled_30 (fun v4 => ?_)
          refine Sm.iload hC d_m11_isGarbled_33 4 rfl ?_
          refine Sm.iald hC d_m11_isGarbled_35 (fun v5 => ?_)
          refine Sm.iload_n hC d_m11_isGarbled_36 rfl 2 rfl ?_
          refine Sm.icmp_ne (tgt := 44) hC d_m11_isGarbled_37 (by decide) ?_ ?_
          · refine Sm.sub [0, 1, 2, 4] rfl ?_
            exact w_m11_isGarbled_44 hC hR (s_m11_isGarbled_5 n) ih r0 x1 x2 x4 M
          · refine Sm.sub [0, 1, 2, 4] rfl ?_
            exact w_m11_isGarbled_40 hC hR (s_m11_isGarbled_5 n) ih r0 x1 x2 x4 M
set_option maxRecDepth 100000 in
set_option maxHeartbeats 4000000 in
theorem ok_m11_isGarbled {l : Launch} {V : Ev} {M M' : Mm} {r : Int32} {r0 : Nat} {a1 : Int32} {a2 : Int32} (h : s_m11_isGarbled r0 a1 a2 M = some (r, M')) : Met l y_m11_isGarbled (Cond.code y_m11_isGarbled b_m11_isGarbled 5 (some .boolean) :: TW) rm_m11_isGarbled (va_Pc [rv V.1 r0, .int a1, .int a2] (Wd V M)) (QC V (some (.int r)) M' 0) 0 0 (Af V) := by
  refine met_of (fun x : Int32 => some (.int x)) (lv0 := [(0, rv V.1 r0), (1, .int a1), (2, .int a2)]) (by decide) (by simp [lg_sl, cat_rv, cat_i, cat_l, cat_f]) (by simp [lv_args, cat_rv, cat_i, cat_l, cat_f]) (fun C hl hR hC => ?_) h
  subst hl
  generalize mN M = n0 at hC ⊢
  unfold s_m11_isGarbled
  refine Sm.iconst (v := 0) hC d_m11_isGarbled_0 (by decide) ?_
  refine Sm.istore_n (lv' := [(3, .int (0 : Int32)), (0, rv V.1 r0), (1, .int a1), (2, .int a2)]) hC d_m11_isGarbled_1 rfl (by decide) rfl ?_
  refine Sm.iconst (v := 0) hC d_m11_isGarbled_2 (by decide) ?_
  refine Sm.istore (lv' := [(4, .int (0 : Int32)), (3, .int (0 : Int32)), (0, rv V.1 r0), (1, .int a1), (2, .int a2)]) hC d_m11_isGarbled_3 (by decide) rfl ?_
  refine Sm.sub [2, 3, 4, 1, 0] rfl ?_
  exact w_m11_isGarbled_5 hC hR FU r0 a1 a2 (0 : Int32) (0 : Int32) M
/-! NewsWireModel.garble(II)I -/
abbrev b_m11_garble : ByteArray := prog_13_method_38_code
def y_m11_garble : MethodName := ⟨"NewsWireModel", "garble", "(II)I"⟩
def rm_m11_garble : Room := { frames := 3, cells := 0, slots := 0, locals := 103 }
theorem cw_m11_garble : CW y_m11_garble b_m11_garble 3 (some .int) 2 := ⟨tw_i 66 (by decide +kernel), tw_i 1172 (by decide +kernel), by decide, by decide, by decide +kernel⟩
theorem d_m11_garble_0 : decode b_m11_garble 0 = .ok (.aload_n 0, 1) := by decide +kernel
theorem d_m11_garble_1 : decode b_m11_garble 1 = .ok (.iload_n 1, 1) := by decide +kernel
theorem d_m11_garble_2 : decode b_m11_garble 2 = .ok (.invokevirtual 231, 3) := by decide +kernel
theorem d_m11_garble_5 : decode b_m11_garble 5 = .ok (.ifCond .ne 10, 3) := by decide +kernel
theorem d_m11_garble_8 : decode b_m11_garble 8 = .ok (.aload_n 0, 1) := by decide +kernel
theorem d_m11_garble_9 : decode b_m11_garble 9 = .ok (.bipush (-3), 2) := by decide +kernel
theorem d_m11_garble_11 : decode b_m11_garble 11 = .ok (.invokevirtual 139, 3) := by decide +kernel
theorem d_m11_garble_14 : decode b_m11_garble 14 = .ok (.ireturn, 1) := by decide +kernel
theorem d_m11_garble_15 : decode b_m11_garble 15 = .ok (.iload_n 2, 1) := by decide +kernel
theorem d_m11_garble_16 : decode b_m11_garble 16 = .ok (.aload_n 0, 1) := by decide +kernel
theorem d_m11_garble_17 : decode b_m11_garble 17 = .ok (.getfield 211, 3) := by decide +kernel
theorem d_m11_garble_20 : decode b_m11_garble 20 = .ok (.ldc 156, 2) := by decide +kernel
theorem d_m11_garble_22 : decode b_m11_garble 22 = .ok (.invokestatic 135, 3) := by decide +kernel
theorem d_m11_garble_25 : decode b_m11_garble 25 = .ok (.ifCond .eq 12, 3) := by decide +kernel
theorem d_m11_garble_28 : decode b_m11_garble 28 = .ok (.aload_n 0, 1) := by decide +kernel
theorem d_m11_garble_29 : decode b_m11_garble 29 = .ok (.iload_n 1, 1) := by decide +kernel
theorem d_m11_garble_30 : decode b_m11_garble 30 = .ok (.iload_n 2, 1) := by decide +kernel
theorem d_m11_garble_31 : decode b_m11_garble 31 = .ok (.invokevirtual 240, 3) := by decide +kernel
theorem d_m11_garble_34 : decode b_m11_garble 34 = .ok (.ifCond .eq 10, 3) := by decide +kernel
theorem d_m11_garble_37 : decode b_m11_garble 37 = .ok (.aload_n 0, 1) := by decide +kernel
theorem d_m11_garble_38 : decode b_m11_garble 38 = .ok (.bipush (-7), 2) := by decide +kernel
theorem d_m11_garble_40 : decode b_m11_garble 40 = .ok (.invokevirtual 139, 3) := by decide +kernel
theorem d_m11_garble_43 : decode b_m11_garble 43 = .ok (.ireturn, 1) := by decide +kernel
theorem d_m11_garble_44 : decode b_m11_garble 44 = .ok (.aload_n 0, 1) := by decide +kernel
theorem d_m11_garble_45 : decode b_m11_garble 45 = .ok (.getfield 237, 3) := by decide +kernel
theorem d_m11_garble_48 : decode b_m11_garble 48 = .ok (.bipush 40, 2) := by decide +kernel
theorem d_m11_garble_50 : decode b_m11_garble 50 = .ok (.if_icmp .ne 10, 3) := by decide +kernel
theorem d_m11_garble_53 : decode b_m11_garble 53 = .ok (.aload_n 0, 1) := by decide +kernel
theorem d_m11_garble_54 : decode b_m11_garble 54 = .ok (.bipush (-8), 2) := by decide +kernel
theorem d_m11_garble_56 : decode b_m11_garble 56 = .ok (.invokevirtual 139, 3) := by decide +kernel
theorem d_m11_garble_59 : decode b_m11_garble 59 = .ok (.ireturn, 1) := by decide +kernel
theorem d_m11_garble_60 : decode b_m11_garble 60 = .ok (.aload_n 0, 1) := by decide +kernel
theorem d_m11_garble_61 : decode b_m11_garble 61 = .ok (.getfield 97, 3) := by decide +kernel
theorem d_m11_garble_64 : decode b_m11_garble 64 = .ok (.aload_n 0, 1) := by decide +kernel
theorem d_m11_garble_65 : decode b_m11_garble 65 = .ok (.getfield 237, 3) := by decide +kernel
theorem d_m11_garble_68 : decode b_m11_garble 68 = .ok (.iload_n 1, 1) := by decide +kernel
theorem d_m11_garble_69 : decode b_m11_garble 69 = .ok (.iastore, 1) := by decide +kernel
theorem d_m11_garble_70 : decode b_m11_garble 70 = .ok (.aload_n 0, 1) := by decide +kernel
theorem d_m11_garble_71 : decode b_m11_garble 71 = .ok (.getfield 100, 3) := by decide +kernel
theorem d_m11_garble_74 : decode b_m11_garble 74 = .ok (.aload_n 0, 1) := by decide +kernel
theorem d_m11_garble_75 : decode b_m11_garble 75 = .ok (.getfield 237, 3) := by decide +kernel
theorem d_m11_garble_78 : decode b_m11_garble 78 = .ok (.iload_n 2, 1) := by decide +kernel
theorem d_m11_garble_79 : decode b_m11_garble 79 = .ok (.iastore, 1) := by decide +kernel
theorem d_m11_garble_80 : decode b_m11_garble 80 = .ok (.aload_n 0, 1) := by decide +kernel
theorem d_m11_garble_81 : decode b_m11_garble 81 = .ok (.dup, 1) := by decide +kernel
theorem d_m11_garble_82 : decode b_m11_garble 82 = .ok (.getfield 237, 3) := by decide +kernel
theorem d_m11_garble_85 : decode b_m11_garble 85 = .ok (.iconst 1, 1) := by decide +kernel
theorem d_m11_garble_86 : decode b_m11_garble 86 = .ok (.iadd, 1) := by decide +kernel
theorem d_m11_garble_87 : decode b_m11_garble 87 = .ok (.putfield 237, 3) := by decide +kernel
theorem d_m11_garble_90 : decode b_m11_garble 90 = .ok (.aload_n 0, 1) := by decide +kernel
theorem d_m11_garble_91 : decode b_m11_garble 91 = .ok (.getfield 237, 3) := by decide +kernel
theorem d_m11_garble_94 : decode b_m11_garble 94 = .ok (.ireturn, 1) := by decide +kernel
def s_m11_garble_37  (r0 : Nat) (M : Mm) : Option (Int32 × Mm) := cl (has M r0 21) (s_m11_refused r0 (-7 : Int32) M) (fun v1 M2 => some (v1, M2))
def s_m11_garble (r0 : Nat) (a1 : Int32) (a2 : Int32) (M : Mm) : Option (Int32 × Mm) := cl (has M r0 21) (s_m11_isWire r0 a1 M) (fun v1 M2 => (if ¬ v1 = 0 then gI M2 r0 21 31 (fun v3 => cl true (s_m11_in a2 v3 (100000 : Int32) M2) (fun v4 M5 => (if v4 = 0 then s_m11_garble_37 r0 M5 else cl (has M5 r0 21) (s_m11_isGarbled r0 a1 a2 M5) (fun v6 M7 => (if v6 = 0 then gI M7 r0 21 39 (fun v8 => (if ¬ v8 = (40 : Int32) then gR M7 r0 21 40 (fun v9 => gI M7 r0 21 39 (fun v10 => sI M7 v9 0 v10 a1 (fun M11 => gR M11 r0 21 41 (fun v12 => gI M11 r0 21 39 (fun v13 => sI M11 v12 0 v13 a2 (fun M14 => gI M14 r0 21 39 (fun v15 => pI M14 r0 21 39 (v15 + (1 : Int32)) (fun M16 => gI M16 r0 21 39 (fun v17 => some (v17, M16)))))))))) else cl (has M7 r0 21) (s_m11_refused r0 (-8 : Int32) M7) (fun v18 M19 => some (v18, M19)))) else s_m11_garble_37 r0 M7))))) else cl (has M2 r0 21) (s_m11_refused r0 (-3 : Int32) M2) (fun v20 M21 => some (v20, M21))))
set_option maxRecDepth 100000 in
set_option maxHeartbeats 4000000 in
theorem w_m11_garble_37 {V : Ev} {C : Cx} {n0 : Nat} (hC : Cok V C y_m11_garble.cls b_m11_garble 3 n0 (some .int) y_m11_garble.name) (hR : cR C = rm_m11_garble)  : ∀ (r0 : Nat) (M : Mm), Sm V C 3 n0 n0 (qI V C) 37 [(0, rv V.1 r0)] [] M (s_m11_garble_37 r0 M) := by
  intro r0 M
  unfold s_m11_garble_37
  refine Sm.aload_n hC d_m11_garble_37 rfl 0 rfl ?_
  refine Sm.bipush (v := -7) hC d_m11_garble_38 (by decide) ?_
  refine Sm.callVi 11 (As := [.int (-7 : Int32)]) (st := []) hC hR cw_m11_refused (tw_i 1048 (by decide +kernel)) (tw_i 1050 (by decide +kernel)) (tw_i 23 (by decide +kernel)) ⟨_, rfl, rfl⟩ (fun r9 M9 h9 => ok_m11_refused h9) rfl rfl (RW.of ⟨rfl, rfl, by decide, by decide⟩) (by simp) d_m11_garble_40 (fun v1 M2 => ?_)
  exact Sm.iret hC d_m11_garble_43 rfl (Nat.sub_self _)
set_option maxRecDepth 100000 in
set_option maxHeartbeats 4000000 in
theorem ok_m11_garble {l : Launch} {V : Ev} {M M' : Mm} {r : Int32} {r0 : Nat} {a1 : Int32} {a2 : Int32} (h : s_m11_garble r0 a1 a2 M = some (r, M')) : Met l y_m11_garble (Cond.code y_m11_garble b_m11_garble 3 (some .int) :: TW) rm_m11_garble (va_Pc [rv V.1 r0, .int a1, .int a2] (Wd V M)) (QC V (some (.int r)) M' 0) 0 0 (Af V) := by
  refine met_of (fun x : Int32 => some (.int x)) (lv0 := [(0, rv V.1 r0), (1, .int a1), (2, .int a2)]) (by decide) (by simp [lg_sl, cat_rv, cat_i, cat_l, cat_f]) (by simp [lv_args, cat_rv, cat_i, cat_l, cat_f]) (fun C hl hR hC => ?_) h
  subst hl
  generalize mN M = n0 at hC ⊢
  unfold s_m11_garble
  refine Sm.aload_n hC d_m11_garble_0 rfl 0 rfl ?_
  refine Sm.iload_n hC d_m11_garble_1 rfl 1 rfl ?_
  refine Sm.callVi 11 (As := [.int a1]) (st := []) hC hR cw_m11_isWire (tw_i 1161 (by decide +kernel)) (tw_i 1163 (by decide +kernel)) (tw_i 38 (by decide +kernel)) ⟨_, rfl, rfl⟩ (fun r9 M9 h9 => ok_m11_isWire h9) rfl rfl (RW.of ⟨rfl, rfl, by decide, by decide⟩) (by simp) d_m11_garble_2 (fun v1 M2 => ?_)
  refine Sm.if_ne (tgt := 15) hC d_m11_garble_5 (by decide) ?_ ?_
  · refine Sm.iload_n hC d_m11_garble_15 rfl 2 rfl ?_
    refine Sm.aload_n hC d_m11_garble_16 rfl 0 rfl ?_
    refine Sm.getI hC fl_m11_211 rfl d_m11_garble_17 (fun v3 => ?_)
    refine Sm.ldc (v := 100000) hC d_m11_garble_20 (tw_i 1064 (by decide +kernel)) ?_
    refine Sm.callSi (As := [.int a2, .int v3, .int (100000 : Int32)]) (st := []) hC hR cw_m11_in (tw_i 1045 (by decide +kernel)) (tw_i 1046 (by decide +kernel)) (fun r9 M9 h9 => ok_m11_in h9) rfl rfl (RW.of ⟨rfl, rfl, by decide, by decide⟩) (by simp) d_m11_garble_22 (fun v4 M5 => ?_)
    refine Sm.if_eq (tgt := 37) hC d_m11_garble_25 (by decide) ?_ ?_
    · refine Sm.sub [0] rfl ?_
      exact w_m11_garble_37 hC hR r0 M5
    · refine Sm.aload_n hC d_m11_garble_28 rfl 0 rfl ?_
      refine Sm.iload_n hC d_m11_garble_29 rfl 1 rfl ?_
      refine Sm.iload_n hC d_m11_garble_30 rfl 2 rfl ?_
      refine Sm.callVi 11 (As := [.int a1, .int a2]) (st := []) hC hR cw_m11_isGarbled (tw_i 1173 (by decide +kernel)) (tw_i 1175 (by decide +kernel)) (tw_i 40 (by decide +kernel)) ⟨_, rfl, rfl⟩ (fun r9 M9 h9 => ok_m11_isGarbled h9) rfl rfl (RW.of ⟨rfl, rfl, by decide, by decide⟩) (by simp) d_m11_garble_31 (fun v6 M7 => ?_)
      refine Sm.if_eq (tgt := 44) hC d_m11_garble_34 (by decide) ?_ ?_
      · refine Sm.aload_n hC d_m11_garble_44 rfl 0 rfl ?_
        refine Sm.getI hC fl_m11_237 rfl d_m11_garble_45 (fun v8 => ?_)
        refine Sm.bipush (v := 40) hC d_m11_garble_48 (by decide) ?_
        refine Sm.icmp_ne (tgt := 60) hC d_m11_garble_50 (by decide) ?_ ?_
        · refine Sm.aload_n hC d_m11_garble_60 rfl 0 rfl ?_
          refine Sm.getR hC fl_m11_97 rfl d_m11_garble_61 (fun v9 => ?_)
          refine Sm.aload_n hC d_m11_garble_64 rfl 0 rfl ?_
          refine Sm.getI hC fl_m11_237 rfl d_m11_garble_65 (fun v10 => ?_)
          refine Sm.iload_n hC d_m11_garble_68 rfl 1 rfl ?_
          refine Sm.iast hC d_m11_garble_69 (fun M11 => ?_)
          refine Sm.aload_n hC d_m11_garble_70 rfl 0 rfl ?_
          refine Sm.getR hC fl_m11_100 rfl d_m11_garble_71 (fun v12 => ?_)
          refine Sm.aload_n hC d_m11_garble_74 rfl 0 rfl ?_
          refine Sm.getI hC fl_m11_237 rfl d_m11_garble_75 (fun v13 => ?_)
          refine Sm.iload_n hC d_m11_garble_78 rfl 2 rfl ?_
          refine Sm.iast hC d_m11_garble_79 (fun M14 => ?_)
          refine Sm.aload_n hC d_m11_garble_80 rfl 0 rfl ?_
          refine Sm.dup hC d_m11_garble_81 (cat_rv _ _) ?_
          refine Sm.getI hC fl_m11_237 rfl d_m11_garble_82 (fun v15 => ?_)
          refine Sm.iconst (v := 1) hC d_m11_garble_85 (by decide) ?_
          refine Sm.iadd hC d_m11_garble_86 ?_
          refine Sm.putI hC fl_m11_237 rfl d_m11_garble_87 (fun M16 => ?_)
          refine Sm.aload_n hC d_m11_garble_90 rfl 0 rfl ?_
          refine Sm.getI hC fl_m11_237 rfl d_m11_garble_91 (fun v17 => ?_)
          exact Sm.iret hC d_m11_garble_94 rfl (Nat.sub_self _)
        · refine Sm.aload_n hC d_m11_garble_53 rfl 0 rfl ?_
          refine Sm.bipush (v := -8) hC d_m11_garble_54 (by decide) ?_
          refine Sm.callVi 11 (As := [.int (-8 : Int32)]) (st := []) hC hR cw_m11_refused (tw_i 1048 (by decide +kernel)) (tw_i 1050 (by decide +kernel)) (tw_i 23 (by decide +kernel)) ⟨_, rfl, rfl⟩ (fun r9 M9 h9 => ok_m11_refused h9) rfl rfl (RW.of ⟨rfl, rfl, by decide, by decide⟩) (by simp) d_m11_garble_56 (fun v18 M19 => ?_)
          exact Sm.iret hC d_m11_garble_59 rfl (Nat.sub_self _)
      · refine Sm.sub [0] rfl ?_
        exact w_m11_garble_37 hC hR r0 M7
  · refine Sm.aload_n hC d_m11_garble_8 rfl 0 rfl ?_
    refine Sm.bipush (v := -3) hC d_m11_garble_9 (by decide) ?_
    refine Sm.callVi 11 (As := [.int (-3 : Int32)]) (st := []) hC hR cw_m11_refused (tw_i 1048 (by decide +kernel)) (tw_i 1050 (by decide +kernel)) (tw_i 23 (by decide +kernel)) ⟨_, rfl, rfl⟩ (fun r9 M9 h9 => ok_m11_refused h9) rfl rfl (RW.of ⟨rfl, rfl, by decide, by decide⟩) (by simp) d_m11_garble_11 (fun v20 M21 => ?_)
    exact Sm.iret hC d_m11_garble_14 rfl (Nat.sub_self _)
/-! NewsWireModel.nextOn(I)I -/
abbrev b_m11_nextOn : ByteArray := prog_13_method_39_code
def y_m11_nextOn : MethodName := ⟨"NewsWireModel", "nextOn", "(I)I"⟩
def rm_m11_nextOn : Room := { frames := 4, cells := 0, slots := 0, locals := 130 }
theorem cw_m11_nextOn : CW y_m11_nextOn b_m11_nextOn 5 (some .int) 1 := ⟨tw_i 66 (by decide +kernel), tw_i 1184 (by decide +kernel), by decide, by decide, by decide +kernel⟩
theorem d_m11_nextOn_0 : decode b_m11_nextOn 0 = .ok (.iconst (-1), 1) := by decide +kernel
theorem d_m11_nextOn_1 : decode b_m11_nextOn 1 = .ok (.istore_n 2, 1) := by decide +kernel
theorem d_m11_nextOn_2 : decode b_m11_nextOn 2 = .ok (.iconst 0, 1) := by decide +kernel
theorem d_m11_nextOn_3 : decode b_m11_nextOn 3 = .ok (.istore_n 3, 1) := by decide +kernel
theorem d_m11_nextOn_4 : decode b_m11_nextOn 4 = .ok (.iload_n 3, 1) := by decide +kernel
theorem d_m11_nextOn_5 : decode b_m11_nextOn 5 = .ok (.aload_n 0, 1) := by decide +kernel
theorem d_m11_nextOn_6 : decode b_m11_nextOn 6 = .ok (.getfield 76, 3) := by decide +kernel
theorem d_m11_nextOn_9 : decode b_m11_nextOn 9 = .ok (.iload_n 1, 1) := by decide +kernel
theorem d_m11_nextOn_10 : decode b_m11_nextOn 10 = .ok (.iaload, 1) := by decide +kernel
theorem d_m11_nextOn_11 : decode b_m11_nextOn 11 = .ok (.if_icmp .ge 60, 3) := by decide +kernel
theorem d_m11_nextOn_14 : decode b_m11_nextOn 14 = .ok (.aload_n 0, 1) := by decide +kernel
theorem d_m11_nextOn_15 : decode b_m11_nextOn 15 = .ok (.getfield 79, 3) := by decide +kernel
theorem d_m11_nextOn_18 : decode b_m11_nextOn 18 = .ok (.bipush 40, 2) := by decide +kernel
theorem d_m11_nextOn_20 : decode b_m11_nextOn 20 = .ok (.iload_n 1, 1) := by decide +kernel
theorem d_m11_nextOn_21 : decode b_m11_nextOn 21 = .ok (.imul, 1) := by decide +kernel
theorem d_m11_nextOn_22 : decode b_m11_nextOn 22 = .ok (.iload_n 3, 1) := by decide +kernel
theorem d_m11_nextOn_23 : decode b_m11_nextOn 23 = .ok (.iadd, 1) := by decide +kernel
theorem d_m11_nextOn_24 : decode b_m11_nextOn 24 = .ok (.iaload, 1) := by decide +kernel
theorem d_m11_nextOn_25 : decode b_m11_nextOn 25 = .ok (.istore 4, 2) := by decide +kernel
theorem d_m11_nextOn_27 : decode b_m11_nextOn 27 = .ok (.aload_n 0, 1) := by decide +kernel
theorem d_m11_nextOn_28 : decode b_m11_nextOn 28 = .ok (.getfield 88, 3) := by decide +kernel
theorem d_m11_nextOn_31 : decode b_m11_nextOn 31 = .ok (.bipush 40, 2) := by decide +kernel
theorem d_m11_nextOn_33 : decode b_m11_nextOn 33 = .ok (.iload_n 1, 1) := by decide +kernel
theorem d_m11_nextOn_34 : decode b_m11_nextOn 34 = .ok (.imul, 1) := by decide +kernel
theorem d_m11_nextOn_35 : decode b_m11_nextOn 35 = .ok (.iload 4, 2) := by decide +kernel
theorem d_m11_nextOn_37 : decode b_m11_nextOn 37 = .ok (.iadd, 1) := by decide +kernel
theorem d_m11_nextOn_38 : decode b_m11_nextOn 38 = .ok (.iaload, 1) := by decide +kernel
theorem d_m11_nextOn_39 : decode b_m11_nextOn 39 = .ok (.iconst (-1), 1) := by decide +kernel
theorem d_m11_nextOn_40 : decode b_m11_nextOn 40 = .ok (.if_icmp .ne 25, 3) := by decide +kernel
theorem d_m11_nextOn_43 : decode b_m11_nextOn 43 = .ok (.iload_n 2, 1) := by decide +kernel
theorem d_m11_nextOn_44 : decode b_m11_nextOn 44 = .ok (.iconst (-1), 1) := by decide +kernel
theorem d_m11_nextOn_45 : decode b_m11_nextOn 45 = .ok (.if_icmp .eq 17, 3) := by decide +kernel
theorem d_m11_nextOn_48 : decode b_m11_nextOn 48 = .ok (.aload_n 0, 1) := by decide +kernel
theorem d_m11_nextOn_49 : decode b_m11_nextOn 49 = .ok (.iload 4, 2) := by decide +kernel
theorem d_m11_nextOn_51 : decode b_m11_nextOn 51 = .ok (.invokevirtual 221, 3) := by decide +kernel
theorem d_m11_nextOn_54 : decode b_m11_nextOn 54 = .ok (.aload_n 0, 1) := by decide +kernel
theorem d_m11_nextOn_55 : decode b_m11_nextOn 55 = .ok (.iload_n 2, 1) := by decide +kernel
theorem d_m11_nextOn_56 : decode b_m11_nextOn 56 = .ok (.invokevirtual 221, 3) := by decide +kernel
theorem d_m11_nextOn_59 : decode b_m11_nextOn 59 = .ok (.if_icmp .le 6, 3) := by decide +kernel
theorem d_m11_nextOn_62 : decode b_m11_nextOn 62 = .ok (.iload 4, 2) := by decide +kernel
theorem d_m11_nextOn_64 : decode b_m11_nextOn 64 = .ok (.istore_n 2, 1) := by decide +kernel
theorem d_m11_nextOn_65 : decode b_m11_nextOn 65 = .ok (.iinc 3 1, 3) := by decide +kernel
theorem d_m11_nextOn_68 : decode b_m11_nextOn 68 = .ok (.goto (-64), 3) := by decide +kernel
theorem d_m11_nextOn_71 : decode b_m11_nextOn 71 = .ok (.iload_n 2, 1) := by decide +kernel
theorem d_m11_nextOn_72 : decode b_m11_nextOn 72 = .ok (.ireturn, 1) := by decide +kernel
def s_m11_nextOn_65 (k4 : Nat → Int32 → Int32 → Int32 → Mm → Option (Int32 × Mm)) (r0 : Nat) (x1 : Int32) (x2 : Int32) (x3 : Int32) (M : Mm) : Option (Int32 × Mm) := k4 r0 x1 x2 (x3 + 1) M
def s_m11_nextOn_62 (k4 : Nat → Int32 → Int32 → Int32 → Mm → Option (Int32 × Mm)) (r0 : Nat) (x1 : Int32) (x3 : Int32) (x4 : Int32) (M : Mm) : Option (Int32 × Mm) := s_m11_nextOn_65 k4 r0 x1 x4 x3 M
def s_m11_nextOn_4  : Nat → Nat → Int32 → Int32 → Int32 → Mm → Option (Int32 × Mm)
  | 0, _, _, _, _, _ => none
  | n + 1, r0, x1, x2, x3, M => gR M r0 21 32 (fun v1 => aI M v1 0 x1 (fun v2 => (if v2 ≤ x3 then some (x2, M) else gR M r0 21 33 (fun v3 => aI M v3 0 (((40 : Int32) * x1) + x3) (fun v4 => gR M r0 21 36 (fun v5 => aI M v5 0 (((40 : Int32) * x1) + v4) (fun v6 => (if ¬ v6 = (-1 : Int32) then s_m11_nextOn_65 (s_m11_nextOn_4 n) r0 x1 x2 x3 M else (if x2 = (-1 : Int32) then s_m11_nextOn_62 (s_m11_nextOn_4 n) r0 x1 x3 v4 M else cl (has M r0 21) (s_m11_rankOf r0 v4 M) (fun v7 M8 => cl (has M8 r0 21) (s_m11_rankOf r0 x2 M8) (fun v9 M10 => (if v7 ≤ v9 then s_m11_nextOn_65 (s_m11_nextOn_4 n) r0 x1 x2 x3 M10 else s_m11_nextOn_62 (s_m11_nextOn_4 n) r0 x1 x3 v4 M10))))))))))))
def s_m11_nextOn (r0 : Nat) (a1 : Int32) (M : Mm) : Option (Int32 × Mm) := s_m11_nextOn_4 FU r0 a1 (-1 : Int32) (0 : Int32) M
set_option maxRecDepth 100000 in
set_option maxHeartbeats 4000000 in
theorem w_m11_nextOn_65 {V : Ev} {C : Cx} {n0 : Nat} (hC : Cok V C y_m11_nextOn.cls b_m11_nextOn 5 n0 (some .int) y_m11_nextOn.name) (hR : cR C = rm_m11_nextOn) (k4 : Nat → Int32 → Int32 → Int32 → Mm → Option (Int32 × Mm)) (hk4 : ∀ (r0 : Nat) (x1 : Int32) (x2 : Int32) (x3 : Int32) (M : Mm), Sm V C 5 n0 n0 (qI V C) 4 [(0, rv V.1 r0), (1, .int x1), (2, .int x2), (3, .int x3)] [] M (k4 r0 x1 x2 x3 M)) : ∀ (r0 : Nat) (x1 : Int32) (x2 : Int32) (x3 : Int32) (M : Mm), Sm V C 5 n0 n0 (qI V C) 65 [(0, rv V.1 r0), (1, .int x1), (2, .int x2), (3, .int x3)] [] M (s_m11_nextOn_65 k4 r0 x1 x2 x3 M) := by
  intro r0 x1 x2 x3 M
  unfold s_m11_nextOn_65
  refine Sm.iinc (v := x3 + 1) (lv' := [(3, .int (x3 + 1)), (0, rv V.1 r0), (1, .int x1), (2, .int x2)]) hC d_m11_nextOn_65 3 rfl rfl (by decide) rfl ?_
  refine Sm.goto (tgt := 4) hC d_m11_nextOn_68 (by decide) ?_
  refine Sm.sub [1, 2, 3, 0] rfl ?_
  exact hk4 r0 x1 x2 (x3 + 1) M
set_option maxRecDepth 100000 in
set_option maxHeartbeats 4000000 in
theorem w_m11_nextOn_62 {V : Ev} {C : Cx} {n0 : Nat} (hC : Cok V C y_m11_nextOn.cls b_m11_nextOn 5 n0 (some .int) y_m11_nextOn.name) (hR : cR C = rm_m11_nextOn) (k4 : Nat → Int32 → Int32 → Int32 → Mm → Option (Int32 × Mm)) (hk4 : ∀ (r0 : Nat) (x1 : Int32) (x2 : Int32) (x3 : Int32) (M : Mm), Sm V C 5 n0 n0 (qI V C) 4 [(0, rv V.1 r0), (1, .int x1), (2, .int x2), (3, .int x3)] [] M (k4 r0 x1 x2 x3 M)) : ∀ (r0 : Nat) (x1 : Int32) (x3 : Int32) (x4 : Int32) (M : Mm), Sm V C 5 n0 n0 (qI V C) 62 [(0, rv V.1 r0), (1, .int x1), (3, .int x3), (4, .int x4)] [] M (s_m11_nextOn_62 k4 r0 x1 x3 x4 M) := by
  intro r0 x1 x3 x4 M
  unfold s_m11_nextOn_62
  refine Sm.iload hC d_m11_nextOn_62 3 rfl ?_
  refine Sm.istore_n (lv' := [(2, .int x4), (0, rv V.1 r0), (1, .int x1), (3, .int x3), (4, .int x4)]) hC d_m11_nextOn_64 rfl (by decide) rfl ?_
  refine Sm.sub [1, 2, 0, 3] rfl ?_
  exact w_m11_nextOn_65 hC hR k4 hk4 r0 x1 x4 x3 M
set_option maxRecDepth 100000 in
set_option maxHeartbeats 4000000 in
theorem w_m11_nextOn_4 {V : Ev} {C : Cx} {n0 : Nat} (hC : Cok V C y_m11_nextOn.cls b_m11_nextOn 5 n0 (some .int) y_m11_nextOn.name) (hR : cR C = rm_m11_nextOn)  : ∀ (n : Nat) (r0 : Nat) (x1 : Int32) (x2 : Int32) (x3 : Int32) (M : Mm), Sm V C 5 n0 n0 (qI V C) 4 [(0, rv V.1 r0), (1, .int x1), (2, .int x2), (3, .int x3)] [] M (s_m11_nextOn_4 n r0 x1 x2 x3 M) := by
  intro n
  induction n with
  | zero => exact fun r0 x1 x2 x3 M => Sm.none_
  | succ n ih =>
    intro r0 x1 x2 x3 M
    unfold s_m11_nextOn_4
    refine Sm.iload_n hC d_m11_nextOn_4 rfl 3 rfl ?_
    refine Sm.aload_n hC d_m11_nextOn_5 rfl 0 rfl ?_
    refine Sm.getR hC fl_m11_76 rfl d_m11_nextOn_6 (fun v1 => ?_)
    refine Sm.iload_n hC d_m11_nextOn_9 rfl 1 rfl ?_
    refine Sm.iald hC d_m11_nextOn_10 (fun v2 => ?_)
    refine Sm.icmp_ge (tgt := 71) hC d_m11_nextOn_11 (by decide) ?_ ?_
    · refine Sm.iload_n hC d_m11_nextOn_71 rfl 2 rfl ?_
      exact Sm.iret hC d_m11_nextOn_72 rfl (Nat.sub_self _)
    · refine Sm.aload_n hC d_m11_nextOn_14 rfl 0 rfl ?_
      refine Sm.getR hC fl_m11_79 rfl d_m11_nextOn_15 (fun v3 => ?_)
      refine Sm.bipush (v := 40) hC d_m11_nextOn_18 (by decide) ?_
      refine Sm.iload_n hC d_m11_nextOn_20 rfl 1 rfl ?_
      refine Sm.imul hC d_m11_nextOn_21 ?_
      refine Sm.iload_n hC d_m11_nextOn_22 rfl 3 rfl ?_
      refine Sm.iadd hC d_m11_nextOn_23 ?_
      refine Sm.iald hC d_m11_nextOn_24 (fun v4 => ?_)
      refine Sm.istore (lv' := [(4, .int v4), (0, rv V.1 r0), (1, .int x1), (2, .int x2), (3, .int x3)]) hC d_m11_nextOn_25 (by decide) rfl ?_
      refine Sm.aload_n hC d_m11_nextOn_27 rfl 1 rfl ?_
      refine Sm.getR hC fl_m11_88 rfl d_m11_nextOn_28 (fun v5 => ?_)
      refine Sm.bipush (v := 40) hC d_m11_nextOn_31 (by decide) ?_
      refine Sm.iload_n hC d_m11_nextOn_33 rfl 2 rfl ?_
      refine Sm.imul hC d_m11_nextOn_34 ?_
      refine Sm.iload hC d_m11_nextOn_35 0 rfl ?_
      refine Sm.iadd hC d_m11_nextOn_37 ?_
      refine Sm.iald hC d_m11_nextOn_38 (fun v6 => ?_)
      refine Sm.iconst (v := -1) hC d_m11_nextOn_39 (by decide) ?_
      refine Sm.icmp_ne (tgt := 65) hC d_m11_nextOn_40 (by decide) ?_ ?_
      · refine Sm.sub [1, 2, 3, 4] rfl ?_
        exact w_m11_nextOn_65 hC hR (s_m11_nextOn_4 n) ih r0 x1 x2 x3 M
      · refine Sm.iload_n hC d_m11_nextOn_43 rfl 3 rfl ?_
        refine Sm.iconst (v := -1) hC d_m11_nextOn_44 (by decide) ?_
        refine Sm.icmp_eq (tgt := 62) hC d_m11_nextOn_45 (by decide) ?_ ?_
        · refine Sm.sub [1, 2, 4, 0] rfl ?_
          exact w_m11_nextOn_62 hC hR (s_m11_nextOn_4 n) ih r0 x1 x3 v4 M
        · refine Sm.aload_n hC d_m11_nextOn_48 rfl 1 rfl ?_
          refine Sm.iload hC d_m11_nextOn_49 0 rfl ?_
          refine Sm.callVi 11 (As := [.int v4]) (st := []) hC hR cw_m11_rankOf (tw_i 1142 (by decide +kernel)) (tw_i 1144 (by decide +kernel)) (tw_i 36 (by decide +kernel)) ⟨_, rfl, rfl⟩ (fun r9 M9 h9 => ok_m11_rankOf h9) rfl rfl (RW.of ⟨rfl, rfl, by decide, by decide⟩) (by simp) d_m11_nextOn_51 (fun v7 M8 => ?_)
          refine Sm.aload_n hC d_m11_nextOn_54 rfl 1 rfl ?_
          refine Sm.iload_n hC d_m11_nextOn_55 rfl 3 rfl ?_
          refine Sm.callVi 11 (As := [.int x2]) (st := [.int v7]) hC hR cw_m11_rankOf (tw_i 1142 (by decide +kernel)) (tw_i 1144 (by decide +kernel)) (tw_i 36 (by decide +kernel)) ⟨_, rfl, rfl⟩ (fun r9 M9 h9 => ok_m11_rankOf h9) rfl rfl (RW.of ⟨rfl, rfl, by decide, by decide⟩) (by simp) d_m11_nextOn_56 (fun v9 M10 => ?_)
          refine Sm.icmp_le (tgt := 65) hC d_m11_nextOn_59 (by decide) ?_ ?_
          · refine Sm.sub [1, 2, 3, 4] rfl ?_
            exact w_m11_nextOn_65 hC hR (s_m11_nextOn_4 n) ih r0 x1 x2 x3 M10
          · refine Sm.sub [1, 2, 4, 0] rfl ?_
            exact w_m11_nextOn_62 hC hR (s_m11_nextOn_4 n) ih r0 x1 x3 v4 M10
set_option maxRecDepth 100000 in
set_option maxHeartbeats 4000000 in
theorem ok_m11_nextOn {l : Launch} {V : Ev} {M M' : Mm} {r : Int32} {r0 : Nat} {a1 : Int32} (h : s_m11_nextOn r0 a1 M = some (r, M')) : Met l y_m11_nextOn (Cond.code y_m11_nextOn b_m11_nextOn 5 (some .int) :: TW) rm_m11_nextOn (va_Pc [rv V.1 r0, .int a1] (Wd V M)) (QC V (some (.int r)) M' 0) 0 0 (Af V) := by
  refine met_of (fun x : Int32 => some (.int x)) (lv0 := [(0, rv V.1 r0), (1, .int a1)]) (by decide) (by simp [lg_sl, cat_rv, cat_i, cat_l, cat_f]) (by simp [lv_args, cat_rv, cat_i, cat_l, cat_f]) (fun C hl hR hC => ?_) h
  subst hl
  generalize mN M = n0 at hC ⊢
  unfold s_m11_nextOn
  refine Sm.iconst (v := -1) hC d_m11_nextOn_0 (by decide) ?_
  refine Sm.istore_n (lv' := [(2, .int (-1 : Int32)), (0, rv V.1 r0), (1, .int a1)]) hC d_m11_nextOn_1 rfl (by decide) rfl ?_
  refine Sm.iconst (v := 0) hC d_m11_nextOn_2 (by decide) ?_
  refine Sm.istore_n (lv' := [(3, .int (0 : Int32)), (2, .int (-1 : Int32)), (0, rv V.1 r0), (1, .int a1)]) hC d_m11_nextOn_3 rfl (by decide) rfl ?_
  refine Sm.sub [2, 3, 1, 0] rfl ?_
  exact w_m11_nextOn_4 hC hR FU r0 a1 (-1 : Int32) (0 : Int32) M
/-! NewsWireModel.hear(II)V -/
theorem fl_m11_243 : FL "NewsWireModel" 243 11 43 0 false .int := ⟨_, _, _, _, rfl, in_c11, ty_c11, nm_c11, by decide, rfl, tw_i 908 (by decide +kernel), rfl, rfl, rfl, rfl⟩
theorem fl_m11_94 : FL "NewsWireModel" 94 11 38 2 true (.array .int) := ⟨_, _, _, _, rfl, in_c11, ty_c11, nm_c11, by decide, rfl, tw_i 903 (by decide +kernel), rfl, rfl, rfl, rfl⟩
abbrev b_m11_hear : ByteArray := prog_13_method_40_code
def y_m11_hear : MethodName := ⟨"NewsWireModel", "hear", "(II)V"⟩
def rm_m11_hear : Room := { frames := 4, cells := 0, slots := 0, locals := 132 }
theorem cw_m11_hear : CW y_m11_hear b_m11_hear 6 none 2 := ⟨tw_i 66 (by decide +kernel), tw_i 1188 (by decide +kernel), by decide, by decide, by decide +kernel⟩
theorem d_m11_hear_0 : decode b_m11_hear 0 = .ok (.bipush 40, 2) := by decide +kernel
theorem d_m11_hear_2 : decode b_m11_hear 2 = .ok (.iload_n 1, 1) := by decide +kernel
theorem d_m11_hear_3 : decode b_m11_hear 3 = .ok (.imul, 1) := by decide +kernel
theorem d_m11_hear_4 : decode b_m11_hear 4 = .ok (.iload_n 2, 1) := by decide +kernel
theorem d_m11_hear_5 : decode b_m11_hear 5 = .ok (.iadd, 1) := by decide +kernel
theorem d_m11_hear_6 : decode b_m11_hear 6 = .ok (.istore_n 3, 1) := by decide +kernel
theorem d_m11_hear_7 : decode b_m11_hear 7 = .ok (.aload_n 0, 1) := by decide +kernel
theorem d_m11_hear_8 : decode b_m11_hear 8 = .ok (.dup, 1) := by decide +kernel
theorem d_m11_hear_9 : decode b_m11_hear 9 = .ok (.getfield 243, 3) := by decide +kernel
theorem d_m11_hear_12 : decode b_m11_hear 12 = .ok (.iconst 1, 1) := by decide +kernel
theorem d_m11_hear_13 : decode b_m11_hear 13 = .ok (.iadd, 1) := by decide +kernel
theorem d_m11_hear_14 : decode b_m11_hear 14 = .ok (.putfield 243, 3) := by decide +kernel
theorem d_m11_hear_17 : decode b_m11_hear 17 = .ok (.aload_n 0, 1) := by decide +kernel
theorem d_m11_hear_18 : decode b_m11_hear 18 = .ok (.getfield 85, 3) := by decide +kernel
theorem d_m11_hear_21 : decode b_m11_hear 21 = .ok (.iload_n 3, 1) := by decide +kernel
theorem d_m11_hear_22 : decode b_m11_hear 22 = .ok (.dup2, 1) := by decide +kernel
theorem d_m11_hear_23 : decode b_m11_hear 23 = .ok (.iaload, 1) := by decide +kernel
theorem d_m11_hear_24 : decode b_m11_hear 24 = .ok (.iconst 1, 1) := by decide +kernel
theorem d_m11_hear_25 : decode b_m11_hear 25 = .ok (.iadd, 1) := by decide +kernel
theorem d_m11_hear_26 : decode b_m11_hear 26 = .ok (.iastore, 1) := by decide +kernel
theorem d_m11_hear_27 : decode b_m11_hear 27 = .ok (.aload_n 0, 1) := by decide +kernel
theorem d_m11_hear_28 : decode b_m11_hear 28 = .ok (.getfield 85, 3) := by decide +kernel
theorem d_m11_hear_31 : decode b_m11_hear 31 = .ok (.iload_n 3, 1) := by decide +kernel
theorem d_m11_hear_32 : decode b_m11_hear 32 = .ok (.iaload, 1) := by decide +kernel
theorem d_m11_hear_33 : decode b_m11_hear 33 = .ok (.aload_n 0, 1) := by decide +kernel
theorem d_m11_hear_34 : decode b_m11_hear 34 = .ok (.getfield 34, 3) := by decide +kernel
theorem d_m11_hear_37 : decode b_m11_hear 37 = .ok (.iload_n 2, 1) := by decide +kernel
theorem d_m11_hear_38 : decode b_m11_hear 38 = .ok (.iaload, 1) := by decide +kernel
theorem d_m11_hear_39 : decode b_m11_hear 39 = .ok (.if_icmp .ne 7, 3) := by decide +kernel
theorem d_m11_hear_42 : decode b_m11_hear 42 = .ok (.iconst 1, 1) := by decide +kernel
theorem d_m11_hear_43 : decode b_m11_hear 43 = .ok (.goto 4, 3) := by decide +kernel
theorem d_m11_hear_46 : decode b_m11_hear 46 = .ok (.iconst 0, 1) := by decide +kernel
theorem d_m11_hear_47 : decode b_m11_hear 47 = .ok (.istore 4, 2) := by decide +kernel
theorem d_m11_hear_49 : decode b_m11_hear 49 = .ok (.iconst 0, 1) := by decide +kernel
theorem d_m11_hear_50 : decode b_m11_hear 50 = .ok (.istore 5, 2) := by decide +kernel
theorem d_m11_hear_52 : decode b_m11_hear 52 = .ok (.iload 5, 2) := by decide +kernel
theorem d_m11_hear_54 : decode b_m11_hear 54 = .ok (.bipush 8, 2) := by decide +kernel
theorem d_m11_hear_56 : decode b_m11_hear 56 = .ok (.if_icmp .ge 90, 3) := by decide +kernel
theorem d_m11_hear_59 : decode b_m11_hear 59 = .ok (.aload_n 0, 1) := by decide +kernel
theorem d_m11_hear_60 : decode b_m11_hear 60 = .ok (.getfield 16, 3) := by decide +kernel
theorem d_m11_hear_63 : decode b_m11_hear 63 = .ok (.iload_n 1, 1) := by decide +kernel
theorem d_m11_hear_64 : decode b_m11_hear 64 = .ok (.iaload, 1) := by decide +kernel
theorem d_m11_hear_65 : decode b_m11_hear 65 = .ok (.iload 5, 2) := by decide +kernel
theorem d_m11_hear_67 : decode b_m11_hear 67 = .ok (.ishr, 1) := by decide +kernel
theorem d_m11_hear_68 : decode b_m11_hear 68 = .ok (.iconst 1, 1) := by decide +kernel
theorem d_m11_hear_69 : decode b_m11_hear 69 = .ok (.iand, 1) := by decide +kernel
theorem d_m11_hear_70 : decode b_m11_hear 70 = .ok (.ifCond .eq 70, 3) := by decide +kernel
theorem d_m11_hear_73 : decode b_m11_hear 73 = .ok (.aload_n 0, 1) := by decide +kernel
theorem d_m11_hear_74 : decode b_m11_hear 74 = .ok (.iload_n 2, 1) := by decide +kernel
theorem d_m11_hear_75 : decode b_m11_hear 75 = .ok (.iload 5, 2) := by decide +kernel
theorem d_m11_hear_77 : decode b_m11_hear 77 = .ok (.invokevirtual 227, 3) := by decide +kernel
theorem d_m11_hear_80 : decode b_m11_hear 80 = .ok (.ifCond .eq 6, 3) := by decide +kernel
theorem d_m11_hear_83 : decode b_m11_hear 83 = .ok (.goto 57, 3) := by decide +kernel
theorem d_m11_hear_86 : decode b_m11_hear 86 = .ok (.aload_n 0, 1) := by decide +kernel
theorem d_m11_hear_87 : decode b_m11_hear 87 = .ok (.getfield 94, 3) := by decide +kernel
theorem d_m11_hear_90 : decode b_m11_hear 90 = .ok (.iload 5, 2) := by decide +kernel
theorem d_m11_hear_92 : decode b_m11_hear 92 = .ok (.dup2, 1) := by decide +kernel
theorem d_m11_hear_93 : decode b_m11_hear 93 = .ok (.iaload, 1) := by decide +kernel
theorem d_m11_hear_94 : decode b_m11_hear 94 = .ok (.aload_n 0, 1) := by decide +kernel
theorem d_m11_hear_95 : decode b_m11_hear 95 = .ok (.iload_n 2, 1) := by decide +kernel
theorem d_m11_hear_96 : decode b_m11_hear 96 = .ok (.iload 5, 2) := by decide +kernel
theorem d_m11_hear_98 : decode b_m11_hear 98 = .ok (.invokevirtual 246, 3) := by decide +kernel
theorem d_m11_hear_101 : decode b_m11_hear 101 = .ok (.iadd, 1) := by decide +kernel
theorem d_m11_hear_102 : decode b_m11_hear 102 = .ok (.iastore, 1) := by decide +kernel
theorem d_m11_hear_103 : decode b_m11_hear 103 = .ok (.iload 4, 2) := by decide +kernel
theorem d_m11_hear_105 : decode b_m11_hear 105 = .ok (.ifCond .eq 35, 3) := by decide +kernel
theorem d_m11_hear_108 : decode b_m11_hear 108 = .ok (.aload_n 0, 1) := by decide +kernel
theorem d_m11_hear_109 : decode b_m11_hear 109 = .ok (.getfield 91, 3) := by decide +kernel
theorem d_m11_hear_112 : decode b_m11_hear 112 = .ok (.bipush 40, 2) := by decide +kernel
theorem d_m11_hear_114 : decode b_m11_hear 114 = .ok (.iload 5, 2) := by decide +kernel
theorem d_m11_hear_116 : decode b_m11_hear 116 = .ok (.imul, 1) := by decide +kernel
theorem d_m11_hear_117 : decode b_m11_hear 117 = .ok (.iload_n 2, 1) := by decide +kernel
theorem d_m11_hear_118 : decode b_m11_hear 118 = .ok (.iadd, 1) := by decide +kernel
theorem d_m11_hear_119 : decode b_m11_hear 119 = .ok (.iaload, 1) := by decide +kernel
theorem d_m11_hear_120 : decode b_m11_hear 120 = .ok (.iconst (-1), 1) := by decide +kernel
theorem d_m11_hear_121 : decode b_m11_hear 121 = .ok (.if_icmp .ne 19, 3) := by decide +kernel
theorem d_m11_hear_124 : decode b_m11_hear 124 = .ok (.aload_n 0, 1) := by decide +kernel
theorem d_m11_hear_125 : decode b_m11_hear 125 = .ok (.getfield 91, 3) := by decide +kernel
theorem d_m11_hear_128 : decode b_m11_hear 128 = .ok (.bipush 40, 2) := by decide +kernel
theorem d_m11_hear_130 : decode b_m11_hear 130 = .ok (.iload 5, 2) := by decide +kernel
theorem d_m11_hear_132 : decode b_m11_hear 132 = .ok (.imul, 1) := by decide +kernel
theorem d_m11_hear_133 : decode b_m11_hear 133 = .ok (.iload_n 2, 1) := by decide +kernel
theorem d_m11_hear_134 : decode b_m11_hear 134 = .ok (.iadd, 1) := by decide +kernel
theorem d_m11_hear_135 : decode b_m11_hear 135 = .ok (.aload_n 0, 1) := by decide +kernel
theorem d_m11_hear_136 : decode b_m11_hear 136 = .ok (.getfield 211, 3) := by decide +kernel
theorem d_m11_hear_139 : decode b_m11_hear 139 = .ok (.iastore, 1) := by decide +kernel
theorem d_m11_hear_140 : decode b_m11_hear 140 = .ok (.iinc 5 1, 3) := by decide +kernel
theorem d_m11_hear_143 : decode b_m11_hear 143 = .ok (.goto (-91), 3) := by decide +kernel
theorem d_m11_hear_146 : decode b_m11_hear 146 = .ok (.aload_n 0, 1) := by decide +kernel
theorem d_m11_hear_147 : decode b_m11_hear 147 = .ok (.getfield 88, 3) := by decide +kernel
theorem d_m11_hear_150 : decode b_m11_hear 150 = .ok (.iload_n 3, 1) := by decide +kernel
theorem d_m11_hear_151 : decode b_m11_hear 151 = .ok (.iload 4, 2) := by decide +kernel
theorem d_m11_hear_153 : decode b_m11_hear 153 = .ok (.ifCond .eq 10, 3) := by decide +kernel
theorem d_m11_hear_156 : decode b_m11_hear 156 = .ok (.aload_n 0, 1) := by decide +kernel
theorem d_m11_hear_157 : decode b_m11_hear 157 = .ok (.getfield 211, 3) := by decide +kernel
theorem d_m11_hear_160 : decode b_m11_hear 160 = .ok (.goto 4, 3) := by decide +kernel
theorem d_m11_hear_163 : decode b_m11_hear 163 = .ok (.iconst (-1), 1) := by decide +kernel
theorem d_m11_hear_164 : decode b_m11_hear 164 = .ok (.iastore, 1) := by decide +kernel
theorem d_m11_hear_165 : decode b_m11_hear 165 = .ok (.return_, 1) := by decide +kernel
def s_m11_hear_164  (t0 : Nat) (t1 : Int32) (t2 : Int32) (M : Mm) : Option (Unit × Mm) := sI M t0 0 t1 t2 (fun M1 => some ((), M1))
def s_m11_hear_140 (k52 : Nat → Int32 → Int32 → Int32 → Int32 → Int32 → Mm → Option (Unit × Mm)) (r0 : Nat) (x1 : Int32) (x2 : Int32) (x3 : Int32) (x4 : Int32) (x5 : Int32) (M : Mm) : Option (Unit × Mm) := k52 r0 x1 x2 x3 x4 (x5 + 1) M
def s_m11_hear_52  : Nat → Nat → Int32 → Int32 → Int32 → Int32 → Int32 → Mm → Option (Unit × Mm)
  | 0, _, _, _, _, _, _, _ => none
  | n + 1, r0, x1, x2, x3, x4, x5, M => (if (8 : Int32) ≤ x5 then gR M r0 21 36 (fun v1 => (if x4 = 0 then s_m11_hear_164 v1 x3 (-1 : Int32) M else gI M r0 21 31 (fun v2 => s_m11_hear_164 v1 x3 v2 M))) else gR M r0 21 4 (fun v3 => aI M v3 0 x1 (fun v4 => (if ((v4 >>> (x5 &&& 31)) &&& (1 : Int32)) = 0 then s_m11_hear_140 (s_m11_hear_52 n) r0 x1 x2 x3 x4 x5 M else cl (has M r0 21) (s_m11_isBarred r0 x2 x5 M) (fun v5 M6 => (if v5 = 0 then gR M6 r0 21 38 (fun v7 => aI M6 v7 0 x5 (fun v8 => cl (has M6 r0 21) (s_m11_costOf r0 x2 x5 M6) (fun v9 M10 => sI M10 v7 0 x5 (v8 + v9) (fun M11 => (if x4 = 0 then s_m11_hear_140 (s_m11_hear_52 n) r0 x1 x2 x3 x4 x5 M11 else gR M11 r0 21 37 (fun v12 => aI M11 v12 0 (((40 : Int32) * x5) + x2) (fun v13 => (if ¬ v13 = (-1 : Int32) then s_m11_hear_140 (s_m11_hear_52 n) r0 x1 x2 x3 x4 x5 M11 else gR M11 r0 21 37 (fun v14 => gI M11 r0 21 31 (fun v15 => sI M11 v14 0 (((40 : Int32) * x5) + x2) v15 (fun M16 => s_m11_hear_140 (s_m11_hear_52 n) r0 x1 x2 x3 x4 x5 M16))))))))))) else s_m11_hear_140 (s_m11_hear_52 n) r0 x1 x2 x3 x4 x5 M6))))))
def s_m11_hear_47  (r0 : Nat) (x1 : Int32) (x2 : Int32) (x3 : Int32) (t0 : Int32) (M : Mm) : Option (Unit × Mm) := s_m11_hear_52 FU r0 x1 x2 x3 t0 (0 : Int32) M
def s_m11_hear (r0 : Nat) (a1 : Int32) (a2 : Int32) (M : Mm) : Option (Unit × Mm) := gI M r0 21 43 (fun v1 => pI M r0 21 43 (v1 + (1 : Int32)) (fun M2 => gR M2 r0 21 35 (fun v3 => aI M2 v3 0 (((40 : Int32) * a1) + a2) (fun v4 => sI M2 v3 0 (((40 : Int32) * a1) + a2) (v4 + (1 : Int32)) (fun M5 => gR M5 r0 21 35 (fun v6 => aI M5 v6 0 (((40 : Int32) * a1) + a2) (fun v7 => gR M5 r0 21 11 (fun v8 => aI M5 v8 0 a2 (fun v9 => (if ¬ v7 = v9 then s_m11_hear_47 r0 a1 a2 (((40 : Int32) * a1) + a2) (0 : Int32) M5 else s_m11_hear_47 r0 a1 a2 (((40 : Int32) * a1) + a2) (1 : Int32) M5))))))))))
set_option maxRecDepth 100000 in
set_option maxHeartbeats 4000000 in
theorem w_m11_hear_164 {V : Ev} {C : Cx} {n0 : Nat} (hC : Cok V C y_m11_hear.cls b_m11_hear 6 n0 none y_m11_hear.name) (hR : cR C = rm_m11_hear)  : ∀ (t0 : Nat) (t1 : Int32) (t2 : Int32) (M : Mm), Sm V C 6 n0 n0 (qV V C) 164 [] [.int t2, .int t1, rv V.1 t0] M (s_m11_hear_164 t0 t1 t2 M) := by
  intro t0 t1 t2 M
  unfold s_m11_hear_164
  refine Sm.iast hC d_m11_hear_164 (fun M1 => ?_)
  exact Sm.vret hC d_m11_hear_165 rfl (Nat.sub_self _)
set_option maxRecDepth 100000 in
set_option maxHeartbeats 4000000 in
theorem w_m11_hear_140 {V : Ev} {C : Cx} {n0 : Nat} (hC : Cok V C y_m11_hear.cls b_m11_hear 6 n0 none y_m11_hear.name) (hR : cR C = rm_m11_hear) (k52 : Nat → Int32 → Int32 → Int32 → Int32 → Int32 → Mm → Option (Unit × Mm)) (hk52 : ∀ (r0 : Nat) (x1 : Int32) (x2 : Int32) (x3 : Int32) (x4 : Int32) (x5 : Int32) (M : Mm), Sm V C 6 n0 n0 (qV V C) 52 [(0, rv V.1 r0), (1, .int x1), (2, .int x2), (3, .int x3), (4, .int x4), (5, .int x5)] [] M (k52 r0 x1 x2 x3 x4 x5 M)) : ∀ (r0 : Nat) (x1 : Int32) (x2 : Int32) (x3 : Int32) (x4 : Int32) (x5 : Int32) (M : Mm), Sm V C 6 n0 n0 (qV V C) 140 [(0, rv V.1 r0), (1, .int x1), (2, .int x2), (3, .int x3), (4, .int x4), (5, .int x5)] [] M (s_m11_hear_140 k52 r0 x1 x2 x3 x4 x5 M) := by
  intro r0 x1 x2 x3 x4 x5 M
  unfold s_m11_hear_140
  refine Sm.iinc (v := x5 + 1) (lv' := [(5, .int (x5 + 1)), (0, rv V.1 r0), (1, .int x1), (2, .int x2), (3, .int x3), (4, .int x4)]) hC d_m11_hear_140 5 rfl rfl (by decide) rfl ?_
  refine Sm.goto (tgt := 52) hC d_m11_hear_143 (by decide) ?_
  refine Sm.sub [1, 2, 3, 4, 5, 0] rfl ?_
  exact hk52 r0 x1 x2 x3 x4 (x5 + 1) M
set_option maxRecDepth 100000 in
set_option maxHeartbeats 4000000 in
theorem w_m11_hear_52 {V : Ev} {C : Cx} {n0 : Nat} (hC : Cok V C y_m11_hear.cls b_m11_hear 6 n0 none y_m11_hear.name) (hR : cR C = rm_m11_hear)  : ∀ (n : Nat) (r0 : Nat) (x1 : Int32) (x2 : Int32) (x3 : Int32) (x4 : Int32) (x5 : Int32) (M : Mm), Sm V C 6 n0 n0 (qV V C) 52 [(0, rv V.1 r0), (1, .int x1), (2, .int x2), (3, .int x3), (4, .int x4), (5, .int x5)] [] M (s_m11_hear_52 n r0 x1 x2 x3 x4 x5 M) := by
  intro n
  induction n with
  | zero => exact fun r0 x1 x2 x3 x4 x5 M => Sm.none_
  | succ n ih =>
    intro r0 x1 x2 x3 x4 x5 M
    unfold s_m11_hear_52
    refine Sm.iload hC d_m11_hear_52 5 rfl ?_
    refine Sm.bipush (v := 8) hC d_m11_hear_54 (by decide) ?_
    refine Sm.icmp_ge (tgt := 146) hC d_m11_hear_56 (by decide) ?_ ?_
    · refine Sm.aload_n hC d_m11_hear_146 rfl 0 rfl ?_
      refine Sm.getR hC fl_m11_88 rfl d_m11_hear_147 (fun v1 => ?_)
      refine Sm.iload_n hC d_m11_hear_150 rfl 3 rfl ?_
      refine Sm.iload hC d_m11_hear_151 4 rfl ?_
      refine Sm.if_eq (tgt := 163) hC d_m11_hear_153 (by decide) ?_ ?_
      · refine Sm.iconst (v := -1) hC d_m11_hear_163 (by decide) ?_
        refine Sm.sub [] rfl ?_
        exact w_m11_hear_164 hC hR v1 x3 (-1 : Int32) M
      · refine Sm.aload_n hC d_m11_hear_156 rfl 0 rfl ?_
        refine Sm.getI hC fl_m11_211 rfl d_m11_hear_157 (fun v2 => ?_)
        refine Sm.goto (tgt := 164) hC d_m11_hear_160 (by decide) ?_
        refine Sm.sub [] rfl ?_
        exact w_m11_hear_164 hC hR v1 x3 v2 M
    · refine Sm.aload_n hC d_m11_hear_59 rfl 0 rfl ?_
      refine Sm.getR hC fl_m11_16 rfl d_m11_hear_60 (fun v3 => ?_)
      refine Sm.iload_n hC d_m11_hear_63 rfl 1 rfl ?_
      refine Sm.iald hC d_m11_hear_64 (fun v4 => ?_)
      refine Sm.iload hC d_m11_hear_65 5 rfl ?_
      refine Sm.ishr hC d_m11_hear_67 ?_
      refine Sm.iconst (v := 1) hC d_m11_hear_68 (by decide) ?_
      refine Sm.iand hC d_m11_hear_69 ?_
      refine Sm.if_eq (tgt := 140) hC d_m11_hear_70 (by decide) ?_ ?_
      · exact w_m11_hear_140 hC hR (s_m11_hear_52 n) ih r0 x1 x2 x3 x4 x5 M
      · refine Sm.aload_n hC d_m11_hear_73 rfl 0 rfl ?_
        refine Sm.iload_n hC d_m11_hear_74 rfl 2 rfl ?_
        refine Sm.iload hC d_m11_hear_75 5 rfl ?_
        refine Sm.callVi 11 (As := [.int x2, .int x5]) (st := []) hC hR cw_m11_isBarred (tw_i 1153 (by decide +kernel)) (tw_i 1155 (by decide +kernel)) (tw_i 37 (by decide +kernel)) ⟨_, rfl, rfl⟩ (fun r9 M9 h9 => ok_m11_isBarred h9) rfl rfl (RW.of ⟨rfl, rfl, by decide, by decide⟩) (by simp) d_m11_hear_77 (fun v5 M6 => ?_)
        refine Sm.if_eq (tgt := 86) hC d_m11_hear_80 (by decide) ?_ ?_
        · refine Sm.aload_n hC d_m11_hear_86 rfl 0 rfl ?_
          refine Sm.getR hC fl_m11_94 rfl d_m11_hear_87 (fun v7 => ?_)
          refine Sm.iload hC d_m11_hear_90 5 rfl ?_
          refine Sm.dup2 hC d_m11_hear_92 rfl (cat_rv _ _) ?_
          refine Sm.iald hC d_m11_hear_93 (fun v8 => ?_)
          refine Sm.aload_n hC d_m11_hear_94 rfl 0 rfl ?_
          refine Sm.iload_n hC d_m11_hear_95 rfl 2 rfl ?_
          refine Sm.iload hC d_m11_hear_96 5 rfl ?_
          refine Sm.callVi 11 (As := [.int x2, .int x5]) (st := [.int v8, .int x5, rv V.1 v7]) hC hR cw_m11_costOf (tw_i 1189 (by decide +kernel)) (tw_i 1191 (by decide +kernel)) (tw_i 43 (by decide +kernel)) ⟨_, rfl, rfl⟩ (fun r9 M9 h9 => ok_m11_costOf h9) rfl rfl (RW.of ⟨rfl, rfl, by decide, by decide⟩) (by simp) d_m11_hear_98 (fun v9 M10 => ?_)
          refine Sm.iadd hC d_m11_hear_101 ?_
          refine Sm.iast hC d_m11_hear_102 (fun M11 => ?_)
          refine Sm.iload hC d_m11_hear_103 4 rfl ?_
          refine Sm.if_eq (tgt := 140) hC d_m11_hear_105 (by decide) ?_ ?_
          · exact w_m11_hear_140 hC hR (s_m11_hear_52 n) ih r0 x1 x2 x3 x4 x5 M11
          · refine Sm.aload_n hC d_m11_hear_108 rfl 0 rfl ?_
            refine Sm.getR hC fl_m11_91 rfl d_m11_hear_109 (fun v12 => ?_)
            refine Sm.bipush (v := 40) hC d_m11_hear_112 (by decide) ?_
            refine Sm.iload hC d_m11_hear_114 5 rfl ?_
            refine Sm.imul hC d_m11_hear_116 ?_
            refine Sm.iload_n hC d_m11_hear_117 rfl 2 rfl ?_
            refine Sm.iadd hC d_m11_hear_118 ?_
            refine Sm.iald hC d_m11_hear_119 (fun v13 => ?_)
            refine Sm.iconst (v := -1) hC d_m11_hear_120 (by decide) ?_
            refine Sm.icmp_ne (tgt := 140) hC d_m11_hear_121 (by decide) ?_ ?_
            · exact w_m11_hear_140 hC hR (s_m11_hear_52 n) ih r0 x1 x2 x3 x4 x5 M11
            · refine Sm.aload_n hC d_m11_hear_124 rfl 0 rfl ?_
              refine Sm.getR hC fl_m11_91 rfl d_m11_hear_125 (fun v14 => ?_)
              refine Sm.bipush (v := 40) hC d_m11_hear_128 (by decide) ?_
              refine Sm.iload hC d_m11_hear_130 5 rfl ?_
              refine Sm.imul hC d_m11_hear_132 ?_
              refine Sm.iload_n hC d_m11_hear_133 rfl 2 rfl ?_
              refine Sm.iadd hC d_m11_hear_134 ?_
              refine Sm.aload_n hC d_m11_hear_135 rfl 0 rfl ?_
              refine Sm.getI hC fl_m11_211 rfl d_m11_hear_136 (fun v15 => ?_)
              refine Sm.iast hC d_m11_hear_139 (fun M16 => ?_)
              exact w_m11_hear_140 hC hR (s_m11_hear_52 n) ih r0 x1 x2 x3 x4 x5 M16
        · refine Sm.goto (tgt := 140) hC d_m11_hear_83 (by decide) ?_
          exact w_m11_hear_140 hC hR (s_m11_hear_52 n) ih r0 x1 x2 x3 x4 x5 M6
set_option maxRecDepth 100000 in
set_option maxHeartbeats 4000000 in
theorem w_m11_hear_47 {V : Ev} {C : Cx} {n0 : Nat} (hC : Cok V C y_m11_hear.cls b_m11_hear 6 n0 none y_m11_hear.name) (hR : cR C = rm_m11_hear)  : ∀ (r0 : Nat) (x1 : Int32) (x2 : Int32) (x3 : Int32) (t0 : Int32) (M : Mm), Sm V C 6 n0 n0 (qV V C) 47 [(0, rv V.1 r0), (1, .int x1), (2, .int x2), (3, .int x3)] [.int t0] M (s_m11_hear_47 r0 x1 x2 x3 t0 M) := by
  intro r0 x1 x2 x3 t0 M
  unfold s_m11_hear_47
  refine Sm.istore (lv' := [(4, .int t0), (0, rv V.1 r0), (1, .int x1), (2, .int x2), (3, .int x3)]) hC d_m11_hear_47 (by decide) rfl ?_
  refine Sm.iconst (v := 0) hC d_m11_hear_49 (by decide) ?_
  refine Sm.istore (lv' := [(5, .int (0 : Int32)), (4, .int t0), (0, rv V.1 r0), (1, .int x1), (2, .int x2), (3, .int x3)]) hC d_m11_hear_50 (by decide) rfl ?_
  refine Sm.sub [2, 3, 4, 5, 1, 0] rfl ?_
  exact w_m11_hear_52 hC hR FU r0 x1 x2 x3 t0 (0 : Int32) M
set_option maxRecDepth 100000 in
set_option maxHeartbeats 4000000 in
theorem ok_m11_hear {l : Launch} {V : Ev} {M M' : Mm} {r : Unit} {r0 : Nat} {a1 : Int32} {a2 : Int32} (h : s_m11_hear r0 a1 a2 M = some (r, M')) : Met l y_m11_hear (Cond.code y_m11_hear b_m11_hear 6 none :: TW) rm_m11_hear (va_Pc [rv V.1 r0, .int a1, .int a2] (Wd V M)) (QC V none M' 0) 0 0 (Af V) := by
  refine met_of (fun _ : Unit => none) (lv0 := [(0, rv V.1 r0), (1, .int a1), (2, .int a2)]) (by decide) (by simp [lg_sl, cat_rv, cat_i, cat_l, cat_f]) (by simp [lv_args, cat_rv, cat_i, cat_l, cat_f]) (fun C hl hR hC => ?_) h
  subst hl
  generalize mN M = n0 at hC ⊢
  unfold s_m11_hear
  refine Sm.bipush (v := 40) hC d_m11_hear_0 (by decide) ?_
  refine Sm.iload_n hC d_m11_hear_2 rfl 1 rfl ?_
  refine Sm.imul hC d_m11_hear_3 ?_
  refine Sm.iload_n hC d_m11_hear_4 rfl 2 rfl ?_
  refine Sm.iadd hC d_m11_hear_5 ?_
  refine Sm.istore_n (lv' := [(3, .int (((40 : Int32) * a1) + a2)), (0, rv V.1 r0), (1, .int a1), (2, .int a2)]) hC d_m11_hear_6 rfl (by decide) rfl ?_
  refine Sm.aload_n hC d_m11_hear_7 rfl 1 rfl ?_
  refine Sm.dup hC d_m11_hear_8 (cat_rv _ _) ?_
  refine Sm.getI hC fl_m11_243 rfl d_m11_hear_9 (fun v1 => ?_)
  refine Sm.iconst (v := 1) hC d_m11_hear_12 (by decide) ?_
  refine Sm.iadd hC d_m11_hear_13 ?_
  refine Sm.putI hC fl_m11_243 rfl d_m11_hear_14 (fun M2 => ?_)
  refine Sm.aload_n hC d_m11_hear_17 rfl 1 rfl ?_
  refine Sm.getR hC fl_m11_85 rfl d_m11_hear_18 (fun v3 => ?_)
  refine Sm.iload_n hC d_m11_hear_21 rfl 0 rfl ?_
  refine Sm.dup2 hC d_m11_hear_22 rfl (cat_rv _ _) ?_
  refine Sm.iald hC d_m11_hear_23 (fun v4 => ?_)
  refine Sm.iconst (v := 1) hC d_m11_hear_24 (by decide) ?_
  refine Sm.iadd hC d_m11_hear_25 ?_
  refine Sm.iast hC d_m11_hear_26 (fun M5 => ?_)
  refine Sm.aload_n hC d_m11_hear_27 rfl 1 rfl ?_
  refine Sm.getR hC fl_m11_85 rfl d_m11_hear_28 (fun v6 => ?_)
  refine Sm.iload_n hC d_m11_hear_31 rfl 0 rfl ?_
  refine Sm.iald hC d_m11_hear_32 (fun v7 => ?_)
  refine Sm.aload_n hC d_m11_hear_33 rfl 1 rfl ?_
  refine Sm.getR hC fl_m11_34 rfl d_m11_hear_34 (fun v8 => ?_)
  refine Sm.iload_n hC d_m11_hear_37 rfl 3 rfl ?_
  refine Sm.iald hC d_m11_hear_38 (fun v9 => ?_)
  refine Sm.icmp_ne (tgt := 46) hC d_m11_hear_39 (by decide) ?_ ?_
  · refine Sm.iconst (v := 0) hC d_m11_hear_46 (by decide) ?_
    refine Sm.sub [1, 2, 3, 0] rfl ?_
    exact w_m11_hear_47 hC hR r0 a1 a2 (((40 : Int32) * a1) + a2) (0 : Int32) M5
  · refine Sm.iconst (v := 1) hC d_m11_hear_42 (by decide) ?_
    refine Sm.goto (tgt := 47) hC d_m11_hear_43 (by decide) ?_
    refine Sm.sub [1, 2, 3, 0] rfl ?_
    exact w_m11_hear_47 hC hR r0 a1 a2 (((40 : Int32) * a1) + a2) (1 : Int32) M5
