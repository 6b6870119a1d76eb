/-! NewsWireModel.from(III)I -/
abbrev b_m11_from : ByteArray := prog_13_method_56_code
def y_m11_from : MethodName := ⟨"NewsWireModel", "from", "(III)I"⟩
def rm_m11_from : Room := { frames := 6, cells := 0, slots := 0, locals := 182 }
theorem cw_m11_from : CW y_m11_from b_m11_from 4 (some .int) 3 := ⟨tw_i 66 (by decide +kernel), tw_i 1256 (by decide +kernel), by decide, by decide, by decide +kernel⟩
theorem d_m11_from_0 : decode b_m11_from 0 = .ok (.aload_n 0, 1) := by decide +kernel
theorem d_m11_from_1 : decode b_m11_from 1 = .ok (.iload_n 1, 1) := by decide +kernel
theorem d_m11_from_2 : decode b_m11_from 2 = .ok (.iload_n 2, 1) := by decide +kernel
theorem d_m11_from_3 : decode b_m11_from 3 = .ok (.invokevirtual 295, 3) := by decide +kernel
theorem d_m11_from_6 : decode b_m11_from 6 = .ok (.ifCond .ne 10, 3) := by decide +kernel
theorem d_m11_from_9 : decode b_m11_from 9 = .ok (.aload_n 0, 1) := by decide +kernel
theorem d_m11_from_10 : decode b_m11_from 10 = .ok (.bipush (-3), 2) := by decide +kernel
theorem d_m11_from_12 : decode b_m11_from 12 = .ok (.invokevirtual 139, 3) := by decide +kernel
theorem d_m11_from_15 : decode b_m11_from 15 = .ok (.ireturn, 1) := by decide +kernel
theorem d_m11_from_16 : decode b_m11_from 16 = .ok (.aload_n 0, 1) := by decide +kernel
theorem d_m11_from_17 : decode b_m11_from 17 = .ok (.iload_n 1, 1) := by decide +kernel
theorem d_m11_from_18 : decode b_m11_from 18 = .ok (.iload_n 2, 1) := by decide +kernel
theorem d_m11_from_19 : decode b_m11_from 19 = .ok (.invokevirtual 298, 3) := by decide +kernel
theorem d_m11_from_22 : decode b_m11_from 22 = .ok (.iload_n 3, 1) := by decide +kernel
theorem d_m11_from_23 : decode b_m11_from 23 = .ok (.iconst 0, 1) := by decide +kernel
theorem d_m11_from_24 : decode b_m11_from 24 = .ok (.aload_n 0, 1) := by decide +kernel
theorem d_m11_from_25 : decode b_m11_from 25 = .ok (.getfield 266, 3) := by decide +kernel
theorem d_m11_from_28 : decode b_m11_from 28 = .ok (.iconst 1, 1) := by decide +kernel
theorem d_m11_from_29 : decode b_m11_from 29 = .ok (.isub, 1) := by decide +kernel
theorem d_m11_from_30 : decode b_m11_from 30 = .ok (.invokestatic 135, 3) := by decide +kernel
theorem d_m11_from_33 : decode b_m11_from 33 = .ok (.ifCond .eq 12, 3) := by decide +kernel
theorem d_m11_from_36 : decode b_m11_from 36 = .ok (.aload_n 0, 1) := by decide +kernel
theorem d_m11_from_37 : decode b_m11_from 37 = .ok (.getfield 106, 3) := by decide +kernel
theorem d_m11_from_40 : decode b_m11_from 40 = .ok (.iload_n 3, 1) := by decide +kernel
theorem d_m11_from_41 : decode b_m11_from 41 = .ok (.iaload, 1) := by decide +kernel
theorem d_m11_from_42 : decode b_m11_from 42 = .ok (.goto 9, 3) := by decide +kernel
theorem d_m11_from_45 : decode b_m11_from 45 = .ok (.aload_n 0, 1) := by decide +kernel
theorem d_m11_from_46 : decode b_m11_from 46 = .ok (.bipush (-3), 2) := by decide +kernel
theorem d_m11_from_48 : decode b_m11_from 48 = .ok (.invokevirtual 139, 3) := by decide +kernel
theorem d_m11_from_51 : decode b_m11_from 51 = .ok (.ireturn, 1) := by decide +kernel
def s_m11_from_51  (t0 : Int32) (M : Mm) : Option (Int32 × Mm) := some (t0, M)
def s_m11_from (r0 : Nat) (a1 : Int32) (a2 : Int32) (a3 : Int32) (M : Mm) : Option (Int32 × Mm) := cl (has M r0 21) (s_m11_isText r0 a1 a2 M) (fun v1 M2 => (if ¬ v1 = 0 then cl (has M2 r0 21) (s_m11_make r0 a1 a2 M2) (fun _ M3 => gI M3 r0 21 46 (fun v4 => cl true (s_m11_in a3 (0 : Int32) (v4 - (1 : Int32)) M3) (fun v5 M6 => (if v5 = 0 then cl (has M6 r0 21) (s_m11_refused r0 (-3 : Int32) M6) (fun v7 M8 => s_m11_from_51 v7 M8) else gR M6 r0 21 45 (fun v9 => aI M6 v9 0 a3 (fun v10 => s_m11_from_51 v10 M6)))))) else cl (has M2 r0 21) (s_m11_refused r0 (-3 : Int32) M2) (fun v11 M12 => some (v11, M12))))
set_option maxRecDepth 100000 in
set_option maxHeartbeats 4000000 in
theorem w_m11_from_51 {V : Ev} {C : Cx} {n0 : Nat} (hC : Cok V C y_m11_from.cls b_m11_from 4 n0 (some .int) y_m11_from.name) (hR : cR C = rm_m11_from)  : ∀ (t0 : Int32) (M : Mm), Sm V C 4 n0 n0 (qI V C) 51 [] [.int t0] M (s_m11_from_51 t0 M) := by
  intro t0 M
  unfold s_m11_from_51
  exact Sm.iret hC d_m11_from_51 rfl (Nat.sub_self _)
set_option maxRecDepth 100000 in
set_option maxHeartbeats 4000000 in
theorem ok_m11_from {l : Launch} {V : Ev} {M M' : Mm} {r : Int32} {r0 : Nat} {a1 : Int32} {a2 : Int32} {a3 : Int32} (h : s_m11_from r0 a1 a2 a3 M = some (r, M')) : Met l y_m11_from (Cond.code y_m11_from b_m11_from 4 (some .int) :: TW) rm_m11_from (va_Pc [rv V.1 r0, .int a1, .int a2, .int a3] (Wd V M)) (QC V (some (.int r)) M' 0) 0 0 (Af V) := by
  refine met_of (fun x : Int32 => some (.int x)) (lv0 := [(0, rv V.1 r0), (1, .int a1), (2, .int a2), (3, .int a3)]) (by decide) (by simp [lg_sl, cat_rv, cat_i, cat_l, cat_f]) (by simp [lv_args, cat_rv, cat_i, cat_l, cat_f]) (fun C hl hR hC => ?_) h
  subst hl
  generalize mN M = n0 at hC ⊢
  unfold s_m11_from
  refine Sm.aload_n hC d_m11_from_0 rfl 0 rfl ?_
  refine Sm.iload_n hC d_m11_from_1 rfl 1 rfl ?_
  refine Sm.iload_n hC d_m11_from_2 rfl 2 rfl ?_
  refine Sm.callVi 11 (As := [.int a1, .int a2]) (st := []) hC hR cw_m11_isText (tw_i 1217 (by decide +kernel)) (tw_i 1219 (by decide +kernel)) (tw_i 45 (by decide +kernel)) ⟨_, rfl, rfl⟩ (fun r9 M9 h9 => ok_m11_isText h9) rfl rfl (RW.of ⟨rfl, rfl, by decide, by decide⟩) (by simp) d_m11_from_3 (fun v1 M2 => ?_)
  refine Sm.if_ne (tgt := 16) hC d_m11_from_6 (by decide) ?_ ?_
  · refine Sm.aload_n hC d_m11_from_16 rfl 0 rfl ?_
    refine Sm.iload_n hC d_m11_from_17 rfl 1 rfl ?_
    refine Sm.iload_n hC d_m11_from_18 rfl 2 rfl ?_
    refine Sm.callVv 11 (As := [.int a1, .int a2]) (st := []) hC hR cw_m11_make (tw_i 1221 (by decide +kernel)) (tw_i 1223 (by decide +kernel)) (tw_i 46 (by decide +kernel)) ⟨_, rfl, rfl⟩ (fun r9 M9 h9 => ok_m11_make h9) rfl rfl (RW.of ⟨rfl, rfl, by decide, by decide⟩) (by simp) d_m11_from_19 (fun _ M3 => ?_)
    refine Sm.iload_n hC d_m11_from_22 rfl 3 rfl ?_
    refine Sm.iconst (v := 0) hC d_m11_from_23 (by decide) ?_
    refine Sm.aload_n hC d_m11_from_24 rfl 0 rfl ?_
    refine Sm.getI hC fl_m11_266 rfl d_m11_from_25 (fun v4 => ?_)
    refine Sm.iconst (v := 1) hC d_m11_from_28 (by decide) ?_
    refine Sm.isub hC d_m11_from_29 ?_
    refine Sm.callSi (As := [.int a3, .int (0 : Int32), .int (v4 - (1 : Int32))]) (st := []) hC hR cw_m11_in (tw_i 1045 (by decide +kernel)) (tw_i 1046 (by decide +kernel)) (fun r9 M9 h9 => ok_m11_in h9) rfl rfl (RW.of ⟨rfl, rfl, by decide, by decide⟩) (by simp) d_m11_from_30 (fun v5 M6 => ?_)
    refine Sm.if_eq (tgt := 45) hC d_m11_from_33 (by decide) ?_ ?_
    · refine Sm.aload_n hC d_m11_from_45 rfl 0 rfl ?_
      refine Sm.bipush (v := -3) hC d_m11_from_46 (by decide) ?_
      refine Sm.callVi 11 (As := [.int (-3 : Int32)]) (st := []) hC hR cw_m11_refused (tw_i 1048 (by decide +kernel)) (tw_i 1050 (by decide +kernel)) (tw_i 23 (by decide +kernel)) ⟨_, rfl, rfl⟩ (fun r9 M9 h9 => ok_m11_refused h9) rfl rfl (RW.of ⟨rfl, rfl, by decide, by decide⟩) (by simp) d_m11_from_48 (fun v7 M8 => ?_)
      refine Sm.sub [] rfl ?_
      exact w_m11_from_51 hC hR v7 M8
    · refine Sm.aload_n hC d_m11_from_36 rfl 0 rfl ?_
      refine Sm.getR hC fl_m11_106 rfl d_m11_from_37 (fun v9 => ?_)
      refine Sm.iload_n hC d_m11_from_40 rfl 3 rfl ?_
      refine Sm.iald hC d_m11_from_41 (fun v10 => ?_)
      refine Sm.goto (tgt := 51) hC d_m11_from_42 (by decide) ?_
      refine Sm.sub [] rfl ?_
      exact w_m11_from_51 hC hR v10 M6
  · refine Sm.aload_n hC d_m11_from_9 rfl 0 rfl ?_
    refine Sm.bipush (v := -3) hC d_m11_from_10 (by decide) ?_
    refine Sm.callVi 11 (As := [.int (-3 : Int32)]) (st := []) hC hR cw_m11_refused (tw_i 1048 (by decide +kernel)) (tw_i 1050 (by decide +kernel)) (tw_i 23 (by decide +kernel)) ⟨_, rfl, rfl⟩ (fun r9 M9 h9 => ok_m11_refused h9) rfl rfl (RW.of ⟨rfl, rfl, by decide, by decide⟩) (by simp) d_m11_from_12 (fun v11 M12 => ?_)
    exact Sm.iret hC d_m11_from_15 rfl (Nat.sub_self _)
/-! NewsWireModel.edition(I)I -/
theorem fl_m11_115 : FL "NewsWireModel" 115 11 52 2 true (.array .boolean) := ⟨_, _, _, _, rfl, in_c11, ty_c11, nm_c11, by decide, rfl, tw_i 917 (by decide +kernel), rfl, rfl, rfl, rfl⟩
theorem fl_m11_119 : FL "NewsWireModel" 119 11 53 2 true (.array .int) := ⟨_, _, _, _, rfl, in_c11, ty_c11, nm_c11, by decide, rfl, tw_i 918 (by decide +kernel), rfl, rfl, rfl, rfl⟩
theorem fl_m11_122 : FL "NewsWireModel" 122 11 54 2 true (.array .int) := ⟨_, _, _, _, rfl, in_c11, ty_c11, nm_c11, by decide, rfl, tw_i 919 (by decide +kernel), rfl, rfl, rfl, rfl⟩
theorem fl_m11_125 : FL "NewsWireModel" 125 11 55 2 true (.array .boolean) := ⟨_, _, _, _, rfl, in_c11, ty_c11, nm_c11, by decide, rfl, tw_i 920 (by decide +kernel), rfl, rfl, rfl, rfl⟩
abbrev b_m11_edition : ByteArray := prog_13_method_57_code
def y_m11_edition : MethodName := ⟨"NewsWireModel", "edition", "(I)I"⟩
def rm_m11_edition : Room := { frames := 5, cells := 0, slots := 0, locals := 160 }
theorem cw_m11_edition : CW y_m11_edition b_m11_edition 3 (some .int) 1 := ⟨tw_i 66 (by decide +kernel), tw_i 1260 (by decide +kernel), by decide, by decide, by decide +kernel⟩
theorem d_m11_edition_0 : decode b_m11_edition 0 = .ok (.iload_n 1, 1) := by decide +kernel
theorem d_m11_edition_1 : decode b_m11_edition 1 = .ok (.invokestatic 224, 3) := by decide +kernel
theorem d_m11_edition_4 : decode b_m11_edition 4 = .ok (.ifCond .ne 10, 3) := by decide +kernel
theorem d_m11_edition_7 : decode b_m11_edition 7 = .ok (.aload_n 0, 1) := by decide +kernel
theorem d_m11_edition_8 : decode b_m11_edition 8 = .ok (.bipush (-3), 2) := by decide +kernel
theorem d_m11_edition_10 : decode b_m11_edition 10 = .ok (.invokevirtual 139, 3) := by decide +kernel
theorem d_m11_edition_13 : decode b_m11_edition 13 = .ok (.ireturn, 1) := by decide +kernel
theorem d_m11_edition_14 : decode b_m11_edition 14 = .ok (.aload_n 0, 1) := by decide +kernel
theorem d_m11_edition_15 : decode b_m11_edition 15 = .ok (.iconst 0, 1) := by decide +kernel
theorem d_m11_edition_16 : decode b_m11_edition 16 = .ok (.putfield 266, 3) := by decide +kernel
theorem d_m11_edition_19 : decode b_m11_edition 19 = .ok (.iconst 0, 1) := by decide +kernel
theorem d_m11_edition_20 : decode b_m11_edition 20 = .ok (.istore_n 2, 1) := by decide +kernel
theorem d_m11_edition_21 : decode b_m11_edition 21 = .ok (.iload_n 2, 1) := by decide +kernel
theorem d_m11_edition_22 : decode b_m11_edition 22 = .ok (.bipush 8, 2) := by decide +kernel
theorem d_m11_edition_24 : decode b_m11_edition 24 = .ok (.if_icmp .ge 19, 3) := by decide +kernel
theorem d_m11_edition_27 : decode b_m11_edition 27 = .ok (.aload_n 0, 1) := by decide +kernel
theorem d_m11_edition_28 : decode b_m11_edition 28 = .ok (.iload_n 2, 1) := by decide +kernel
theorem d_m11_edition_29 : decode b_m11_edition 29 = .ok (.iload_n 1, 1) := by decide +kernel
theorem d_m11_edition_30 : decode b_m11_edition 30 = .ok (.aload_n 0, 1) := by decide +kernel
theorem d_m11_edition_31 : decode b_m11_edition 31 = .ok (.getfield 211, 3) := by decide +kernel
theorem d_m11_edition_34 : decode b_m11_edition 34 = .ok (.invokevirtual 292, 3) := by decide +kernel
theorem d_m11_edition_37 : decode b_m11_edition 37 = .ok (.iinc 2 1, 3) := by decide +kernel
theorem d_m11_edition_40 : decode b_m11_edition 40 = .ok (.goto (-19), 3) := by decide +kernel
theorem d_m11_edition_43 : decode b_m11_edition 43 = .ok (.iconst 0, 1) := by decide +kernel
theorem d_m11_edition_44 : decode b_m11_edition 44 = .ok (.istore_n 2, 1) := by decide +kernel
theorem d_m11_edition_45 : decode b_m11_edition 45 = .ok (.iload_n 2, 1) := by decide +kernel
theorem d_m11_edition_46 : decode b_m11_edition 46 = .ok (.bipush 40, 2) := by decide +kernel
theorem d_m11_edition_48 : decode b_m11_edition 48 = .ok (.if_icmp .ge 21, 3) := by decide +kernel
theorem d_m11_edition_51 : decode b_m11_edition 51 = .ok (.aload_n 0, 1) := by decide +kernel
theorem d_m11_edition_52 : decode b_m11_edition 52 = .ok (.getfield 125, 3) := by decide +kernel
theorem d_m11_edition_55 : decode b_m11_edition 55 = .ok (.bipush 40, 2) := by decide +kernel
theorem d_m11_edition_57 : decode b_m11_edition 57 = .ok (.iload_n 1, 1) := by decide +kernel
theorem d_m11_edition_58 : decode b_m11_edition 58 = .ok (.imul, 1) := by decide +kernel
theorem d_m11_edition_59 : decode b_m11_edition 59 = .ok (.iload_n 2, 1) := by decide +kernel
theorem d_m11_edition_60 : decode b_m11_edition 60 = .ok (.iadd, 1) := by decide +kernel
theorem d_m11_edition_61 : decode b_m11_edition 61 = .ok (.iconst 0, 1) := by decide +kernel
theorem d_m11_edition_62 : decode b_m11_edition 62 = .ok (.bastore, 1) := by decide +kernel
theorem d_m11_edition_63 : decode b_m11_edition 63 = .ok (.iinc 2 1, 3) := by decide +kernel
theorem d_m11_edition_66 : decode b_m11_edition 66 = .ok (.goto (-21), 3) := by decide +kernel
theorem d_m11_edition_69 : decode b_m11_edition 69 = .ok (.iconst 0, 1) := by decide +kernel
theorem d_m11_edition_70 : decode b_m11_edition 70 = .ok (.istore_n 2, 1) := by decide +kernel
theorem d_m11_edition_71 : decode b_m11_edition 71 = .ok (.iload_n 2, 1) := by decide +kernel
theorem d_m11_edition_72 : decode b_m11_edition 72 = .ok (.aload_n 0, 1) := by decide +kernel
theorem d_m11_edition_73 : decode b_m11_edition 73 = .ok (.getfield 266, 3) := by decide +kernel
theorem d_m11_edition_76 : decode b_m11_edition 76 = .ok (.if_icmp .ge 26, 3) := by decide +kernel
theorem d_m11_edition_79 : decode b_m11_edition 79 = .ok (.aload_n 0, 1) := by decide +kernel
theorem d_m11_edition_80 : decode b_m11_edition 80 = .ok (.getfield 125, 3) := by decide +kernel
theorem d_m11_edition_83 : decode b_m11_edition 83 = .ok (.bipush 40, 2) := by decide +kernel
theorem d_m11_edition_85 : decode b_m11_edition 85 = .ok (.iload_n 1, 1) := by decide +kernel
theorem d_m11_edition_86 : decode b_m11_edition 86 = .ok (.imul, 1) := by decide +kernel
theorem d_m11_edition_87 : decode b_m11_edition 87 = .ok (.aload_n 0, 1) := by decide +kernel
theorem d_m11_edition_88 : decode b_m11_edition 88 = .ok (.getfield 106, 3) := by decide +kernel
theorem d_m11_edition_91 : decode b_m11_edition 91 = .ok (.iload_n 2, 1) := by decide +kernel
theorem d_m11_edition_92 : decode b_m11_edition 92 = .ok (.iaload, 1) := by decide +kernel
theorem d_m11_edition_93 : decode b_m11_edition 93 = .ok (.iadd, 1) := by decide +kernel
theorem d_m11_edition_94 : decode b_m11_edition 94 = .ok (.iconst 1, 1) := by decide +kernel
theorem d_m11_edition_95 : decode b_m11_edition 95 = .ok (.bastore, 1) := by decide +kernel
theorem d_m11_edition_96 : decode b_m11_edition 96 = .ok (.iinc 2 1, 3) := by decide +kernel
theorem d_m11_edition_99 : decode b_m11_edition 99 = .ok (.goto (-28), 3) := by decide +kernel
theorem d_m11_edition_102 : decode b_m11_edition 102 = .ok (.aload_n 0, 1) := by decide +kernel
theorem d_m11_edition_103 : decode b_m11_edition 103 = .ok (.getfield 115, 3) := by decide +kernel
theorem d_m11_edition_106 : decode b_m11_edition 106 = .ok (.iload_n 1, 1) := by decide +kernel
theorem d_m11_edition_107 : decode b_m11_edition 107 = .ok (.iconst 1, 1) := by decide +kernel
theorem d_m11_edition_108 : decode b_m11_edition 108 = .ok (.bastore, 1) := by decide +kernel
theorem d_m11_edition_109 : decode b_m11_edition 109 = .ok (.aload_n 0, 1) := by decide +kernel
theorem d_m11_edition_110 : decode b_m11_edition 110 = .ok (.getfield 119, 3) := by decide +kernel
theorem d_m11_edition_113 : decode b_m11_edition 113 = .ok (.iload_n 1, 1) := by decide +kernel
theorem d_m11_edition_114 : decode b_m11_edition 114 = .ok (.aload_n 0, 1) := by decide +kernel
theorem d_m11_edition_115 : decode b_m11_edition 115 = .ok (.getfield 211, 3) := by decide +kernel
theorem d_m11_edition_118 : decode b_m11_edition 118 = .ok (.iastore, 1) := by decide +kernel
theorem d_m11_edition_119 : decode b_m11_edition 119 = .ok (.aload_n 0, 1) := by decide +kernel
theorem d_m11_edition_120 : decode b_m11_edition 120 = .ok (.getfield 122, 3) := by decide +kernel
theorem d_m11_edition_123 : decode b_m11_edition 123 = .ok (.iload_n 1, 1) := by decide +kernel
theorem d_m11_edition_124 : decode b_m11_edition 124 = .ok (.aload_n 0, 1) := by decide +kernel
theorem d_m11_edition_125 : decode b_m11_edition 125 = .ok (.getfield 266, 3) := by decide +kernel
theorem d_m11_edition_128 : decode b_m11_edition 128 = .ok (.iastore, 1) := by decide +kernel
theorem d_m11_edition_129 : decode b_m11_edition 129 = .ok (.aload_n 0, 1) := by decide +kernel
theorem d_m11_edition_130 : decode b_m11_edition 130 = .ok (.getfield 266, 3) := by decide +kernel
theorem d_m11_edition_133 : decode b_m11_edition 133 = .ok (.ireturn, 1) := by decide +kernel
def s_m11_edition_71  : Nat → Nat → Int32 → Int32 → Mm → Option (Int32 × Mm)
  | 0, _, _, _, _ => none
  | n + 1, r0, x1, x2, M => gI M r0 21 46 (fun v1 => (if v1 ≤ x2 then gR M r0 21 52 (fun v2 => sI M v2 1 x1 (1 : Int32) (fun M3 => gR M3 r0 21 53 (fun v4 => gI M3 r0 21 31 (fun v5 => sI M3 v4 0 x1 v5 (fun M6 => gR M6 r0 21 54 (fun v7 => gI M6 r0 21 46 (fun v8 => sI M6 v7 0 x1 v8 (fun M9 => gI M9 r0 21 46 (fun v10 => some (v10, M9)))))))))) else gR M r0 21 55 (fun v11 => gR M r0 21 45 (fun v12 => aI M v12 0 x2 (fun v13 => sI M v11 1 (((40 : Int32) * x1) + v13) (1 : Int32) (fun M14 => (s_m11_edition_71 n) r0 x1 (x2 + 1) M14))))))
def s_m11_edition_45  : Nat → Nat → Int32 → Int32 → Mm → Option (Int32 × Mm)
  | 0, _, _, _, _ => none
  | n + 1, r0, x1, x2, M => (if (40 : Int32) ≤ x2 then s_m11_edition_71 FU r0 x1 (0 : Int32) M else gR M r0 21 55 (fun v1 => sI M v1 1 (((40 : Int32) * x1) + x2) (0 : Int32) (fun M2 => (s_m11_edition_45 n) r0 x1 (x2 + 1) M2)))
def s_m11_edition_21  : Nat → Nat → Int32 → Int32 → Mm → Option (Int32 × Mm)
  | 0, _, _, _, _ => none
  | n + 1, r0, x1, x2, M => (if (8 : Int32) ≤ x2 then s_m11_edition_45 FU r0 x1 (0 : Int32) M else gI M r0 21 31 (fun v1 => cl (has M r0 21) (s_m11_layAll r0 x2 x1 v1 M) (fun _ M2 => (s_m11_edition_21 n) r0 x1 (x2 + 1) M2)))
def s_m11_edition (r0 : Nat) (a1 : Int32) (M : Mm) : Option (Int32 × Mm) := cl true (s_m11_isPaper a1 M) (fun v1 M2 => (if ¬ v1 = 0 then pI M2 r0 21 46 (0 : Int32) (fun M3 => s_m11_edition_21 FU r0 a1 (0 : Int32) M3) else cl (has M2 r0 21) (s_m11_refused r0 (-3 : Int32) M2) (fun v4 M5 => some (v4, M5))))
set_option maxRecDepth 100000 in
set_option maxHeartbeats 4000000 in
theorem w_m11_edition_71 {V : Ev} {C : Cx} {n0 : Nat} (hC : Cok V C y_m11_edition.cls b_m11_edition 3 n0 (some .int) y_m11_edition.name) (hR : cR C = rm_m11_edition)  : ∀ (n : Nat) (r0 : Nat) (x1 : Int32) (x2 : Int32) (M : Mm), Sm V C 3 n0 n0 (qI V C) 71 [(0, rv V.1 r0), (1, .int x1), (2, .int x2)] [] M (s_m11_edition_71 n r0 x1 x2 M) := by
  intro n
  induction n with
  | zero => exact fun r0 x1 x2 M => Sm.none_
  | succ n ih =>
    intro r0 x1 x2 M
    unfold s_m11_edition_71
    refine Sm.iload_n hC d_m11_edition_71 rfl 2 rfl ?_
    refine Sm.aload_n hC d_m11_edition_72 rfl 0 rfl ?_
    refine Sm.getI hC fl_m11_266 rfl d_m11_edition_73 (fun v1 => ?_)
    refine Sm.icmp_ge (tgt := 102) hC d_m11_edition_76 (by decide) ?_ ?_
    · refine Sm.aload_n hC d_m11_edition_102 rfl 0 rfl ?_
      refine Sm.getR hC fl_m11_115 rfl d_m11_edition_103 (fun v2 => ?_)
      refine Sm.iload_n hC d_m11_edition_106 rfl 1 rfl ?_
      refine Sm.iconst (v := 1) hC d_m11_edition_107 (by decide) ?_
      refine Sm.zast hC d_m11_edition_108 (by decide) (fun M3 => ?_)
      refine Sm.aload_n hC d_m11_edition_109 rfl 0 rfl ?_
      refine Sm.getR hC fl_m11_119 rfl d_m11_edition_110 (fun v4 => ?_)
      refine Sm.iload_n hC d_m11_edition_113 rfl 1 rfl ?_
      refine Sm.aload_n hC d_m11_edition_114 rfl 0 rfl ?_
      refine Sm.getI hC fl_m11_211 rfl d_m11_edition_115 (fun v5 => ?_)
      refine Sm.iast hC d_m11_edition_118 (fun M6 => ?_)
      refine Sm.aload_n hC d_m11_edition_119 rfl 0 rfl ?_
      refine Sm.getR hC fl_m11_122 rfl d_m11_edition_120 (fun v7 => ?_)
      refine Sm.iload_n hC d_m11_edition_123 rfl 1 rfl ?_
      refine Sm.aload_n hC d_m11_edition_124 rfl 0 rfl ?_
      refine Sm.getI hC fl_m11_266 rfl d_m11_edition_125 (fun v8 => ?_)
      refine Sm.iast hC d_m11_edition_128 (fun M9 => ?_)
      refine Sm.aload_n hC d_m11_edition_129 rfl 0 rfl ?_
      refine Sm.getI hC fl_m11_266 rfl d_m11_edition_130 (fun v10 => ?_)
      exact Sm.iret hC d_m11_edition_133 rfl (Nat.sub_self _)
    · refine Sm.aload_n hC d_m11_edition_79 rfl 0 rfl ?_
      refine Sm.getR hC fl_m11_125 rfl d_m11_edition_80 (fun v11 => ?_)
      refine Sm.bipush (v := 40) hC d_m11_edition_83 (by decide) ?_
      refine Sm.iload_n hC d_m11_edition_85 rfl 1 rfl ?_
      refine Sm.imul hC d_m11_edition_86 ?_
      refine Sm.aload_n hC d_m11_edition_87 rfl 0 rfl ?_
      refine Sm.getR hC fl_m11_106 rfl d_m11_edition_88 (fun v12 => ?_)
      refine Sm.iload_n hC d_m11_edition_91 rfl 2 rfl ?_
      refine Sm.iald hC d_m11_edition_92 (fun v13 => ?_)
      refine Sm.iadd hC d_m11_edition_93 ?_
      refine Sm.iconst (v := 1) hC d_m11_edition_94 (by decide) ?_
      refine Sm.zast hC d_m11_edition_95 (by decide) (fun M14 => ?_)
      refine Sm.iinc (v := x2 + 1) (lv' := [(2, .int (x2 + 1)), (0, rv V.1 r0), (1, .int x1)]) hC d_m11_edition_96 2 rfl rfl (by decide) rfl ?_
      refine Sm.goto (tgt := 71) hC d_m11_edition_99 (by decide) ?_
      refine Sm.sub [1, 2, 0] rfl ?_
      exact ih r0 x1 (x2 + 1) M14
set_option maxRecDepth 100000 in
set_option maxHeartbeats 4000000 in
theorem w_m11_edition_45 {V : Ev} {C : Cx} {n0 : Nat} (hC : Cok V C y_m11_edition.cls b_m11_edition 3 n0 (some .int) y_m11_edition.name) (hR : cR C = rm_m11_edition)  : ∀ (n : Nat) (r0 : Nat) (x1 : Int32) (x2 : Int32) (M : Mm), Sm V C 3 n0 n0 (qI V C) 45 [(0, rv V.1 r0), (1, .int x1), (2, .int x2)] [] M (s_m11_edition_45 n r0 x1 x2 M) := by
  intro n
  induction n with
  | zero => exact fun r0 x1 x2 M => Sm.none_
  | succ n ih =>
    intro r0 x1 x2 M
    unfold s_m11_edition_45
    refine Sm.iload_n hC d_m11_edition_45 rfl 2 rfl ?_
    refine Sm.bipush (v := 40) hC d_m11_edition_46 (by decide) ?_
    refine Sm.icmp_ge (tgt := 69) hC d_m11_edition_48 (by decide) ?_ ?_
    · refine Sm.iconst (v := 0) hC d_m11_edition_69 (by decide) ?_
      refine Sm.istore_n (lv' := [(2, .int (0 : Int32)), (0, rv V.1 r0), (1, .int x1)]) hC d_m11_edition_70 rfl (by decide) rfl ?_
      refine Sm.sub [1, 2, 0] rfl ?_
      exact w_m11_edition_71 hC hR FU r0 x1 (0 : Int32) M
    · refine Sm.aload_n hC d_m11_edition_51 rfl 0 rfl ?_
      refine Sm.getR hC fl_m11_125 rfl d_m11_edition_52 (fun v1 => ?_)
      refine Sm.bipush (v := 40) hC d_m11_edition_55 (by decide) ?_
      refine Sm.iload_n hC d_m11_edition_57 rfl 1 rfl ?_
      refine Sm.imul hC d_m11_edition_58 ?_
      refine Sm.iload_n hC d_m11_edition_59 rfl 2 rfl ?_
      refine Sm.iadd hC d_m11_edition_60 ?_
      refine Sm.iconst (v := 0) hC d_m11_edition_61 (by decide) ?_
      refine Sm.zast hC d_m11_edition_62 (by decide) (fun M2 => ?_)
      refine Sm.iinc (v := x2 + 1) (lv' := [(2, .int (x2 + 1)), (0, rv V.1 r0), (1, .int x1)]) hC d_m11_edition_63 2 rfl rfl (by decide) rfl ?_
      refine Sm.goto (tgt := 45) hC d_m11_edition_66 (by decide) ?_
      refine Sm.sub [1, 2, 0] rfl ?_
      exact ih r0 x1 (x2 + 1) M2
set_option maxRecDepth 100000 in
set_option maxHeartbeats 4000000 in
theorem w_m11_edition_21 {V : Ev} {C : Cx} {n0 : Nat} (hC : Cok V C y_m11_edition.cls b_m11_edition 3 n0 (some .int) y_m11_edition.name) (hR : cR C = rm_m11_edition)  : ∀ (n : Nat) (r0 : Nat) (x1 : Int32) (x2 : Int32) (M : Mm), Sm V C 3 n0 n0 (qI V C) 21 [(0, rv V.1 r0), (1, .int x1), (2, .int x2)] [] M (s_m11_edition_21 n r0 x1 x2 M) := by
  intro n
  induction n with
  | zero => exact fun r0 x1 x2 M => Sm.none_
  | succ n ih =>
    intro r0 x1 x2 M
    unfold s_m11_edition_21
    refine Sm.iload_n hC d_m11_edition_21 rfl 2 rfl ?_
    refine Sm.bipush (v := 8) hC d_m11_edition_22 (by decide) ?_
    refine Sm.icmp_ge (tgt := 43) hC d_m11_edition_24 (by decide) ?_ ?_
    · refine Sm.iconst (v := 0) hC d_m11_edition_43 (by decide) ?_
      refine Sm.istore_n (lv' := [(2, .int (0 : Int32)), (0, rv V.1 r0), (1, .int x1)]) hC d_m11_edition_44 rfl (by decide) rfl ?_
      refine Sm.sub [1, 2, 0] rfl ?_
      exact w_m11_edition_45 hC hR FU r0 x1 (0 : Int32) M
    · refine Sm.aload_n hC d_m11_edition_27 rfl 0 rfl ?_
      refine Sm.iload_n hC d_m11_edition_28 rfl 2 rfl ?_
      refine Sm.iload_n hC d_m11_edition_29 rfl 1 rfl ?_
      refine Sm.aload_n hC d_m11_edition_30 rfl 0 rfl ?_
      refine Sm.getI hC fl_m11_211 rfl d_m11_edition_31 (fun v1 => ?_)
      refine Sm.callVv 11 (As := [.int x2, .int x1, .int v1]) (st := []) hC hR cw_m11_layAll (tw_i 1225 (by decide +kernel)) (tw_i 1227 (by decide +kernel)) (tw_i 47 (by decide +kernel)) ⟨_, rfl, rfl⟩ (fun r9 M9 h9 => ok_m11_layAll h9) rfl rfl (RW.of ⟨rfl, rfl, by decide, by decide⟩) (by simp) d_m11_edition_34 (fun _ M2 => ?_)
      refine Sm.iinc (v := x2 + 1) (lv' := [(2, .int (x2 + 1)), (0, rv V.1 r0), (1, .int x1)]) hC d_m11_edition_37 2 rfl rfl (by decide) rfl ?_
      refine Sm.goto (tgt := 21) hC d_m11_edition_40 (by decide) ?_
      refine Sm.sub [1, 2, 0] rfl ?_
      exact ih r0 x1 (x2 + 1) M2
set_option maxRecDepth 100000 in
set_option maxHeartbeats 4000000 in
theorem ok_m11_edition {l : Launch} {V : Ev} {M M' : Mm} {r : Int32} {r0 : Nat} {a1 : Int32} (h : s_m11_edition r0 a1 M = some (r, M')) : Met l y_m11_edition (Cond.code y_m11_edition b_m11_edition 3 (some .int) :: TW) rm_m11_edition (va_Pc [rv V.1 r0, .int a1] (Wd V M)) (QC V (some (.int r)) M' 0) 0 0 (Af V) := by
  refine met_of (fun x : Int32 => some (.int x)) (lv0 := [(0, rv V.1 r0), (1, .int a1)]) (by decide) (by simp [lg_sl, cat_rv, cat_i, cat_l, cat_f]) (by simp [lv_args, cat_rv, cat_i, cat_l, cat_f]) (fun C hl hR hC => ?_) h
  subst hl
  generalize mN M = n0 at hC ⊢
  unfold s_m11_edition
  refine Sm.iload_n hC d_m11_edition_0 rfl 1 rfl ?_
  refine Sm.callSi (As := [.int a1]) (st := []) hC hR cw_m11_isPaper (tw_i 1150 (by decide +kernel)) (tw_i 1151 (by decide +kernel)) (fun r9 M9 h9 => ok_m11_isPaper h9) rfl rfl (RW.of ⟨rfl, rfl, by decide, by decide⟩) (by simp) d_m11_edition_1 (fun v1 M2 => ?_)
  refine Sm.if_ne (tgt := 14) hC d_m11_edition_4 (by decide) ?_ ?_
  · refine Sm.aload_n hC d_m11_edition_14 rfl 0 rfl ?_
    refine Sm.iconst (v := 0) hC d_m11_edition_15 (by decide) ?_
    refine Sm.putI hC fl_m11_266 rfl d_m11_edition_16 (fun M3 => ?_)
    refine Sm.iconst (v := 0) hC d_m11_edition_19 (by decide) ?_
    refine Sm.istore_n (lv' := [(2, .int (0 : Int32)), (0, rv V.1 r0), (1, .int a1)]) hC d_m11_edition_20 rfl (by decide) rfl ?_
    refine Sm.sub [1, 2, 0] rfl ?_
    exact w_m11_edition_21 hC hR FU r0 a1 (0 : Int32) M3
  · refine Sm.aload_n hC d_m11_edition_7 rfl 0 rfl ?_
    refine Sm.bipush (v := -3) hC d_m11_edition_8 (by decide) ?_
    refine Sm.callVi 11 (As := [.int (-3 : Int32)]) (st := []) hC hR cw_m11_refused (tw_i 1048 (by decide +kernel)) (tw_i 1050 (by decide +kernel)) (tw_i 23 (by decide +kernel)) ⟨_, rfl, rfl⟩ (fun r9 M9 h9 => ok_m11_refused h9) rfl rfl (RW.of ⟨rfl, rfl, by decide, by decide⟩) (by simp) d_m11_edition_10 (fun v4 M5 => ?_)
    exact Sm.iret hC d_m11_edition_13 rfl (Nat.sub_self _)
/-! NewsWireModel.isBehind(II)Z -/
abbrev b_m11_isBehind : ByteArray := prog_13_method_58_code
def y_m11_isBehind : MethodName := ⟨"NewsWireModel", "isBehind", "(II)Z"⟩
def rm_m11_isBehind : Room := { frames := 1, cells := 0, slots := 0, locals := 60 }
theorem cw_m11_isBehind : CW y_m11_isBehind b_m11_isBehind 3 (some .boolean) 2 := ⟨tw_i 66 (by decide +kernel), tw_i 1268 (by decide +kernel), by decide, by decide, by decide +kernel⟩
theorem d_m11_isBehind_0 : decode b_m11_isBehind 0 = .ok (.aload_n 0, 1) := by decide +kernel
theorem d_m11_isBehind_1 : decode b_m11_isBehind 1 = .ok (.getfield 22, 3) := by decide +kernel
theorem d_m11_isBehind_4 : decode b_m11_isBehind 4 = .ok (.iload_n 1, 1) := by decide +kernel
theorem d_m11_isBehind_5 : decode b_m11_isBehind 5 = .ok (.iaload, 1) := by decide +kernel
theorem d_m11_isBehind_6 : decode b_m11_isBehind 6 = .ok (.iconst 4, 1) := by decide +kernel
theorem d_m11_isBehind_7 : decode b_m11_isBehind 7 = .ok (.if_icmp .eq 13, 3) := by decide +kernel
theorem d_m11_isBehind_10 : decode b_m11_isBehind 10 = .ok (.aload_n 0, 1) := by decide +kernel
theorem d_m11_isBehind_11 : decode b_m11_isBehind 11 = .ok (.getfield 22, 3) := by decide +kernel
theorem d_m11_isBehind_14 : decode b_m11_isBehind 14 = .ok (.iload_n 1, 1) := by decide +kernel
theorem d_m11_isBehind_15 : decode b_m11_isBehind 15 = .ok (.iaload, 1) := by decide +kernel
theorem d_m11_isBehind_16 : decode b_m11_isBehind 16 = .ok (.iconst 3, 1) := by decide +kernel
theorem d_m11_isBehind_17 : decode b_m11_isBehind 17 = .ok (.if_icmp .ne 61, 3) := by decide +kernel
theorem d_m11_isBehind_20 : decode b_m11_isBehind 20 = .ok (.aload_n 0, 1) := by decide +kernel
theorem d_m11_isBehind_21 : decode b_m11_isBehind 21 = .ok (.getfield 91, 3) := by decide +kernel
theorem d_m11_isBehind_24 : decode b_m11_isBehind 24 = .ok (.bipush 40, 2) := by decide +kernel
theorem d_m11_isBehind_26 : decode b_m11_isBehind 26 = .ok (.iload_n 2, 1) := by decide +kernel
theorem d_m11_isBehind_27 : decode b_m11_isBehind 27 = .ok (.imul, 1) := by decide +kernel
theorem d_m11_isBehind_28 : decode b_m11_isBehind 28 = .ok (.iload_n 1, 1) := by decide +kernel
theorem d_m11_isBehind_29 : decode b_m11_isBehind 29 = .ok (.iadd, 1) := by decide +kernel
theorem d_m11_isBehind_30 : decode b_m11_isBehind 30 = .ok (.iaload, 1) := by decide +kernel
theorem d_m11_isBehind_31 : decode b_m11_isBehind 31 = .ok (.iconst (-1), 1) := by decide +kernel
theorem d_m11_isBehind_32 : decode b_m11_isBehind 32 = .ok (.if_icmp .eq 46, 3) := by decide +kernel
theorem d_m11_isBehind_35 : decode b_m11_isBehind 35 = .ok (.aload_n 0, 1) := by decide +kernel
theorem d_m11_isBehind_36 : decode b_m11_isBehind 36 = .ok (.getfield 91, 3) := by decide +kernel
theorem d_m11_isBehind_39 : decode b_m11_isBehind 39 = .ok (.bipush 40, 2) := by decide +kernel
theorem d_m11_isBehind_41 : decode b_m11_isBehind 41 = .ok (.iload_n 2, 1) := by decide +kernel
theorem d_m11_isBehind_42 : decode b_m11_isBehind 42 = .ok (.imul, 1) := by decide +kernel
theorem d_m11_isBehind_43 : decode b_m11_isBehind 43 = .ok (.iload_n 1, 1) := by decide +kernel
theorem d_m11_isBehind_44 : decode b_m11_isBehind 44 = .ok (.iadd, 1) := by decide +kernel
theorem d_m11_isBehind_45 : decode b_m11_isBehind 45 = .ok (.iaload, 1) := by decide +kernel
theorem d_m11_isBehind_46 : decode b_m11_isBehind 46 = .ok (.aload_n 0, 1) := by decide +kernel
theorem d_m11_isBehind_47 : decode b_m11_isBehind 47 = .ok (.getfield 119, 3) := by decide +kernel
theorem d_m11_isBehind_50 : decode b_m11_isBehind 50 = .ok (.iload_n 2, 1) := by decide +kernel
theorem d_m11_isBehind_51 : decode b_m11_isBehind 51 = .ok (.iaload, 1) := by decide +kernel
theorem d_m11_isBehind_52 : decode b_m11_isBehind 52 = .ok (.if_icmp .lt 26, 3) := by decide +kernel
theorem d_m11_isBehind_55 : decode b_m11_isBehind 55 = .ok (.aload_n 0, 1) := by decide +kernel
theorem d_m11_isBehind_56 : decode b_m11_isBehind 56 = .ok (.getfield 125, 3) := by decide +kernel
theorem d_m11_isBehind_59 : decode b_m11_isBehind 59 = .ok (.bipush 40, 2) := by decide +kernel
theorem d_m11_isBehind_61 : decode b_m11_isBehind 61 = .ok (.iload_n 2, 1) := by decide +kernel
theorem d_m11_isBehind_62 : decode b_m11_isBehind 62 = .ok (.imul, 1) := by decide +kernel
theorem d_m11_isBehind_63 : decode b_m11_isBehind 63 = .ok (.aload_n 0, 1) := by decide +kernel
theorem d_m11_isBehind_64 : decode b_m11_isBehind 64 = .ok (.getfield 37, 3) := by decide +kernel
theorem d_m11_isBehind_67 : decode b_m11_isBehind 67 = .ok (.iload_n 1, 1) := by decide +kernel
theorem d_m11_isBehind_68 : decode b_m11_isBehind 68 = .ok (.iaload, 1) := by decide +kernel
theorem d_m11_isBehind_69 : decode b_m11_isBehind 69 = .ok (.iadd, 1) := by decide +kernel
theorem d_m11_isBehind_70 : decode b_m11_isBehind 70 = .ok (.baload, 1) := by decide +kernel
theorem d_m11_isBehind_71 : decode b_m11_isBehind 71 = .ok (.ifCond .eq 7, 3) := by decide +kernel
theorem d_m11_isBehind_74 : decode b_m11_isBehind 74 = .ok (.iconst 1, 1) := by decide +kernel
theorem d_m11_isBehind_75 : decode b_m11_isBehind 75 = .ok (.goto 4, 3) := by decide +kernel
theorem d_m11_isBehind_78 : decode b_m11_isBehind 78 = .ok (.iconst 0, 1) := by decide +kernel
theorem d_m11_isBehind_79 : decode b_m11_isBehind 79 = .ok (.ireturn, 1) := by decide +kernel
def s_m11_isBehind_79  (t0 : Int32) (M : Mm) : Option (Int32 × Mm) := rz t0 (some (t0, M))
def s_m11_isBehind_78   (M : Mm) : Option (Int32 × Mm) := s_m11_isBehind_79 (0 : Int32) M
def s_m11_isBehind_20  (r0 : Nat) (x1 : Int32) (x2 : Int32) (M : Mm) : Option (Int32 × Mm) := gR M r0 21 37 (fun v1 => aI M v1 0 (((40 : Int32) * x2) + x1) (fun v2 => (if v2 = (-1 : Int32) then s_m11_isBehind_78 M else gR M r0 21 37 (fun v3 => aI M v3 0 (((40 : Int32) * x2) + x1) (fun v4 => gR M r0 21 53 (fun v5 => aI M v5 0 x2 (fun v6 => (if v4 < v6 then s_m11_isBehind_78 M else gR M r0 21 55 (fun v7 => gR M r0 21 12 (fun v8 => aI M v8 0 x1 (fun v9 => aI M v7 1 (((40 : Int32) * x2) + v9) (fun v10 => (if v10 = 0 then s_m11_isBehind_78 M else s_m11_isBehind_79 (1 : Int32) M)))))))))))))
def s_m11_isBehind (r0 : Nat) (a1 : Int32) (a2 : Int32) (M : Mm) : Option (Int32 × Mm) := gR M r0 21 7 (fun v1 => aI M v1 0 a1 (fun v2 => (if v2 = (4 : Int32) then s_m11_isBehind_20 r0 a1 a2 M else gR M r0 21 7 (fun v3 => aI M v3 0 a1 (fun v4 => (if ¬ v4 = (3 : Int32) then s_m11_isBehind_78 M else s_m11_isBehind_20 r0 a1 a2 M))))))
set_option maxRecDepth 100000 in
set_option maxHeartbeats 4000000 in
theorem w_m11_isBehind_79 {V : Ev} {C : Cx} {n0 : Nat} (hC : Cok V C y_m11_isBehind.cls b_m11_isBehind 3 n0 (some .boolean) y_m11_isBehind.name) (hR : cR C = rm_m11_isBehind)  : ∀ (t0 : Int32) (M : Mm), Sm V C 3 n0 n0 (qI V C) 79 [] [.int t0] M (s_m11_isBehind_79 t0 M) := by
  intro t0 M
  unfold s_m11_isBehind_79
  exact Sm.zret hC d_m11_isBehind_79 rfl (Nat.sub_self _)
set_option maxRecDepth 100000 in
set_option maxHeartbeats 4000000 in
theorem w_m11_isBehind_78 {V : Ev} {C : Cx} {n0 : Nat} (hC : Cok V C y_m11_isBehind.cls b_m11_isBehind 3 n0 (some .boolean) y_m11_isBehind.name) (hR : cR C = rm_m11_isBehind)  : ∀  (M : Mm), Sm V C 3 n0 n0 (qI V C) 78 [] [] M (s_m11_isBehind_78 M) := by
  intro M
  unfold s_m11_isBehind_78
  refine Sm.iconst (v := 0) hC d_m11_isBehind_78 (by decide) ?_
  exact w_m11_isBehind_79 hC hR (0 : Int32) M
set_option maxRecDepth 100000 in
set_option maxHeartbeats 4000000 in
theorem w_m11_isBehind_20 {V : Ev} {C : Cx} {n0 : Nat} (hC : Cok V C y_m11_isBehind.cls b_m11_isBehind 3 n0 (some .boolean) y_m11_isBehind.name) (hR : cR C = rm_m11_isBehind)  : ∀ (r0 : Nat) (x1 : Int32) (x2 : Int32) (M : Mm), Sm V C 3 n0 n0 (qI V C) 20 [(0, rv V.1 r0), (1, .int x1), (2, .int x2)] [] M (s_m11_isBehind_20 r0 x1 x2 M) := by
  intro r0 x1 x2 M
  unfold s_m11_isBehind_20
  refine Sm.aload_n hC d_m11_isBehind_20 rfl 0 rfl ?_
  refine Sm.getR hC fl_m11_91 rfl d_m11_isBehind_21 (fun v1 => ?_)
  refine Sm.bipush (v := 40) hC d_m11_isBehind_24 (by decide) ?_
  refine Sm.iload_n hC d_m11_isBehind_26 rfl 2 rfl ?_
  refine Sm.imul hC d_m11_isBehind_27 ?_
  refine Sm.iload_n hC d_m11_isBehind_28 rfl 1 rfl ?_
  refine Sm.iadd hC d_m11_isBehind_29 ?_
  refine Sm.iald hC d_m11_isBehind_30 (fun v2 => ?_)
  refine Sm.iconst (v := -1) hC d_m11_isBehind_31 (by decide) ?_
  refine Sm.icmp_eq (tgt := 78) hC d_m11_isBehind_32 (by decide) ?_ ?_
  · refine Sm.sub [] rfl ?_
    exact w_m11_isBehind_78 hC hR M
  · refine Sm.aload_n hC d_m11_isBehind_35 rfl 0 rfl ?_
    refine Sm.getR hC fl_m11_91 rfl d_m11_isBehind_36 (fun v3 => ?_)
    refine Sm.bipush (v := 40) hC d_m11_isBehind_39 (by decide) ?_
    refine Sm.iload_n hC d_m11_isBehind_41 rfl 2 rfl ?_
    refine Sm.imul hC d_m11_isBehind_42 ?_
    refine Sm.iload_n hC d_m11_isBehind_43 rfl 1 rfl ?_
    refine Sm.iadd hC d_m11_isBehind_44 ?_
    refine Sm.iald hC d_m11_isBehind_45 (fun v4 => ?_)
    refine Sm.aload_n hC d_m11_isBehind_46 rfl 0 rfl ?_
    refine Sm.getR hC fl_m11_119 rfl d_m11_isBehind_47 (fun v5 => ?_)
    refine Sm.iload_n hC d_m11_isBehind_50 rfl 2 rfl ?_
    refine Sm.iald hC d_m11_isBehind_51 (fun v6 => ?_)
    refine Sm.icmp_lt (tgt := 78) hC d_m11_isBehind_52 (by decide) ?_ ?_
    · refine Sm.sub [] rfl ?_
      exact w_m11_isBehind_78 hC hR M
    · refine Sm.aload_n hC d_m11_isBehind_55 rfl 0 rfl ?_
      refine Sm.getR hC fl_m11_125 rfl d_m11_isBehind_56 (fun v7 => ?_)
      refine Sm.bipush (v := 40) hC d_m11_isBehind_59 (by decide) ?_
      refine Sm.iload_n hC d_m11_isBehind_61 rfl 2 rfl ?_
      refine Sm.imul hC d_m11_isBehind_62 ?_
      refine Sm.aload_n hC d_m11_isBehind_63 rfl 0 rfl ?_
      refine Sm.getR hC fl_m11_37 rfl d_m11_isBehind_64 (fun v8 => ?_)
      refine Sm.iload_n hC d_m11_isBehind_67 rfl 1 rfl ?_
      refine Sm.iald hC d_m11_isBehind_68 (fun v9 => ?_)
      refine Sm.iadd hC d_m11_isBehind_69 ?_
      refine Sm.zald hC d_m11_isBehind_70 (fun v10 => ?_)
      refine Sm.if_eq (tgt := 78) hC d_m11_isBehind_71 (by decide) ?_ ?_
      · refine Sm.sub [] rfl ?_
        exact w_m11_isBehind_78 hC hR M
      · refine Sm.iconst (v := 1) hC d_m11_isBehind_74 (by decide) ?_
        refine Sm.goto (tgt := 79) hC d_m11_isBehind_75 (by decide) ?_
        refine Sm.sub [] rfl ?_
        exact w_m11_isBehind_79 hC hR (1 : Int32) M
set_option maxRecDepth 100000 in
set_option maxHeartbeats 4000000 in
theorem ok_m11_isBehind {l : Launch} {V : Ev} {M M' : Mm} {r : Int32} {r0 : Nat} {a1 : Int32} {a2 : Int32} (h : s_m11_isBehind r0 a1 a2 M = some (r, M')) : Met l y_m11_isBehind (Cond.code y_m11_isBehind b_m11_isBehind 3 (some .boolean) :: TW) rm_m11_isBehind (va_Pc [rv V.1 r0, .int a1, .int a2] (Wd V M)) (QC V (some (.int r)) M' 0) 0 0 (Af V) := by
  refine met_of (fun x : Int32 => some (.int x)) (lv0 := [(0, rv V.1 r0), (1, .int a1), (2, .int a2)]) (by decide) (by simp [lg_sl, cat_rv, cat_i, cat_l, cat_f]) (by simp [lv_args, cat_rv, cat_i, cat_l, cat_f]) (fun C hl hR hC => ?_) h
  subst hl
  generalize mN M = n0 at hC ⊢
  unfold s_m11_isBehind
  refine Sm.aload_n hC d_m11_isBehind_0 rfl 0 rfl ?_
  refine Sm.getR hC fl_m11_22 rfl d_m11_isBehind_1 (fun v1 => ?_)
  refine Sm.iload_n hC d_m11_isBehind_4 rfl 1 rfl ?_
  refine Sm.iald hC d_m11_isBehind_5 (fun v2 => ?_)
  refine Sm.iconst (v := 4) hC d_m11_isBehind_6 (by decide) ?_
  refine Sm.icmp_eq (tgt := 20) hC d_m11_isBehind_7 (by decide) ?_ ?_
  · exact w_m11_isBehind_20 hC hR r0 a1 a2 M
  · refine Sm.aload_n hC d_m11_isBehind_10 rfl 0 rfl ?_
    refine Sm.getR hC fl_m11_22 rfl d_m11_isBehind_11 (fun v3 => ?_)
    refine Sm.iload_n hC d_m11_isBehind_14 rfl 1 rfl ?_
    refine Sm.iald hC d_m11_isBehind_15 (fun v4 => ?_)
    refine Sm.iconst (v := 3) hC d_m11_isBehind_16 (by decide) ?_
    refine Sm.icmp_ne (tgt := 78) hC d_m11_isBehind_17 (by decide) ?_ ?_
    · refine Sm.sub [] rfl ?_
      exact w_m11_isBehind_78 hC hR M
    · exact w_m11_isBehind_20 hC hR r0 a1 a2 M
/-! NewsWireModel.printed(II)I -/
abbrev b_m11_printed : ByteArray := prog_13_method_59_code
def y_m11_printed : MethodName := ⟨"NewsWireModel", "printed", "(II)I"⟩
def rm_m11_printed : Room := { frames := 3, cells := 0, slots := 0, locals := 102 }
theorem cw_m11_printed : CW y_m11_printed b_m11_printed 6 (some .int) 2 := ⟨tw_i 66 (by decide +kernel), tw_i 1264 (by decide +kernel), by decide, by decide, by decide +kernel⟩
theorem d_m11_printed_0 : decode b_m11_printed 0 = .ok (.iload_n 1, 1) := by decide +kernel
theorem d_m11_printed_1 : decode b_m11_printed 1 = .ok (.invokestatic 224, 3) := by decide +kernel
theorem d_m11_printed_4 : decode b_m11_printed 4 = .ok (.ifCond .ne 10, 3) := by decide +kernel
theorem d_m11_printed_7 : decode b_m11_printed 7 = .ok (.aload_n 0, 1) := by decide +kernel
theorem d_m11_printed_8 : decode b_m11_printed 8 = .ok (.bipush (-3), 2) := by decide +kernel
theorem d_m11_printed_10 : decode b_m11_printed 10 = .ok (.invokevirtual 139, 3) := by decide +kernel
theorem d_m11_printed_13 : decode b_m11_printed 13 = .ok (.ireturn, 1) := by decide +kernel
theorem d_m11_printed_14 : decode b_m11_printed 14 = .ok (.aload_n 0, 1) := by decide +kernel
theorem d_m11_printed_15 : decode b_m11_printed 15 = .ok (.getfield 115, 3) := by decide +kernel
theorem d_m11_printed_18 : decode b_m11_printed 18 = .ok (.iload_n 1, 1) := by decide +kernel
theorem d_m11_printed_19 : decode b_m11_printed 19 = .ok (.baload, 1) := by decide +kernel
theorem d_m11_printed_20 : decode b_m11_printed 20 = .ok (.ifCond .ne 10, 3) := by decide +kernel
theorem d_m11_printed_23 : decode b_m11_printed 23 = .ok (.aload_n 0, 1) := by decide +kernel
theorem d_m11_printed_24 : decode b_m11_printed 24 = .ok (.bipush (-2), 2) := by decide +kernel
theorem d_m11_printed_26 : decode b_m11_printed 26 = .ok (.invokevirtual 139, 3) := by decide +kernel
theorem d_m11_printed_29 : decode b_m11_printed 29 = .ok (.ireturn, 1) := by decide +kernel
theorem d_m11_printed_30 : decode b_m11_printed 30 = .ok (.iconst 0, 1) := by decide +kernel
theorem d_m11_printed_31 : decode b_m11_printed 31 = .ok (.istore_n 3, 1) := by decide +kernel
theorem d_m11_printed_32 : decode b_m11_printed 32 = .ok (.iconst (-1), 1) := by decide +kernel
theorem d_m11_printed_33 : decode b_m11_printed 33 = .ok (.istore 4, 2) := by decide +kernel
theorem d_m11_printed_35 : decode b_m11_printed 35 = .ok (.aload_n 0, 1) := by decide +kernel
theorem d_m11_printed_36 : decode b_m11_printed 36 = .ok (.getfield 143, 3) := by decide +kernel
theorem d_m11_printed_39 : decode b_m11_printed 39 = .ok (.iconst 1, 1) := by decide +kernel
theorem d_m11_printed_40 : decode b_m11_printed 40 = .ok (.isub, 1) := by decide +kernel
theorem d_m11_printed_41 : decode b_m11_printed 41 = .ok (.istore 5, 2) := by decide +kernel
theorem d_m11_printed_43 : decode b_m11_printed 43 = .ok (.iload 5, 2) := by decide +kernel
theorem d_m11_printed_45 : decode b_m11_printed 45 = .ok (.ifCond .lt 29, 3) := by decide +kernel
theorem d_m11_printed_48 : decode b_m11_printed 48 = .ok (.aload_n 0, 1) := by decide +kernel
theorem d_m11_printed_49 : decode b_m11_printed 49 = .ok (.iload 5, 2) := by decide +kernel
theorem d_m11_printed_51 : decode b_m11_printed 51 = .ok (.iload_n 1, 1) := by decide +kernel
theorem d_m11_printed_52 : decode b_m11_printed 52 = .ok (.invokevirtual 301, 3) := by decide +kernel
theorem d_m11_printed_55 : decode b_m11_printed 55 = .ok (.ifCond .ne 6, 3) := by decide +kernel
theorem d_m11_printed_58 : decode b_m11_printed 58 = .ok (.goto 10, 3) := by decide +kernel
theorem d_m11_printed_61 : decode b_m11_printed 61 = .ok (.iinc 3 1, 3) := by decide +kernel
theorem d_m11_printed_64 : decode b_m11_printed 64 = .ok (.iload 5, 2) := by decide +kernel
theorem d_m11_printed_66 : decode b_m11_printed 66 = .ok (.istore 4, 2) := by decide +kernel
theorem d_m11_printed_68 : decode b_m11_printed 68 = .ok (.iinc 5 (-1), 3) := by decide +kernel
theorem d_m11_printed_71 : decode b_m11_printed 71 = .ok (.goto (-28), 3) := by decide +kernel
theorem d_m11_printed_74 : decode b_m11_printed 74 = .ok (.iload_n 2, 1) := by decide +kernel
theorem d_m11_printed_75 : decode b_m11_printed 75 = .ok (.tableswitch 48 0 3 #[29, 36, 43, 45], 29) := by decide +kernel
theorem d_m11_printed_104 : decode b_m11_printed 104 = .ok (.aload_n 0, 1) := by decide +kernel
theorem d_m11_printed_105 : decode b_m11_printed 105 = .ok (.getfield 119, 3) := by decide +kernel
theorem d_m11_printed_108 : decode b_m11_printed 108 = .ok (.iload_n 1, 1) := by decide +kernel
theorem d_m11_printed_109 : decode b_m11_printed 109 = .ok (.iaload, 1) := by decide +kernel
theorem d_m11_printed_110 : decode b_m11_printed 110 = .ok (.ireturn, 1) := by decide +kernel
theorem d_m11_printed_111 : decode b_m11_printed 111 = .ok (.aload_n 0, 1) := by decide +kernel
theorem d_m11_printed_112 : decode b_m11_printed 112 = .ok (.getfield 122, 3) := by decide +kernel
theorem d_m11_printed_115 : decode b_m11_printed 115 = .ok (.iload_n 1, 1) := by decide +kernel
theorem d_m11_printed_116 : decode b_m11_printed 116 = .ok (.iaload, 1) := by decide +kernel
theorem d_m11_printed_117 : decode b_m11_printed 117 = .ok (.ireturn, 1) := by decide +kernel
theorem d_m11_printed_118 : decode b_m11_printed 118 = .ok (.iload_n 3, 1) := by decide +kernel
theorem d_m11_printed_119 : decode b_m11_printed 119 = .ok (.ireturn, 1) := by decide +kernel
theorem d_m11_printed_120 : decode b_m11_printed 120 = .ok (.iload 4, 2) := by decide +kernel
theorem d_m11_printed_122 : decode b_m11_printed 122 = .ok (.ireturn, 1) := by decide +kernel
theorem d_m11_printed_123 : decode b_m11_printed 123 = .ok (.aload_n 0, 1) := by decide +kernel
theorem d_m11_printed_124 : decode b_m11_printed 124 = .ok (.bipush (-7), 2) := by decide +kernel
theorem d_m11_printed_126 : decode b_m11_printed 126 = .ok (.invokevirtual 139, 3) := by decide +kernel
theorem d_m11_printed_129 : decode b_m11_printed 129 = .ok (.ireturn, 1) := by decide +kernel
def s_m11_printed_68 (k43 : Nat → Int32 → Int32 → Int32 → Int32 → Int32 → Mm → Option (Int32 × Mm)) (r0 : Nat) (x1 : Int32) (x2 : Int32) (x3 : Int32) (x4 : Int32) (x5 : Int32) (M : Mm) : Option (Int32 × Mm) := k43 r0 x1 x2 x3 x4 (x5 + (-1)) M
def s_m11_printed_43  : Nat → Nat → Int32 → Int32 → Int32 → Int32 → Int32 → Mm → Option (Int32 × Mm)
  | 0, _, _, _, _, _, _, _ => none
  | n + 1, r0, x1, x2, x3, x4, x5, M => (if x5 < 0 then (if x2 = 0 then gR M r0 21 53 (fun v1 => aI M v1 0 x1 (fun v2 => some (v2, M))) else if x2 = 1 then gR M r0 21 54 (fun v3 => aI M v3 0 x1 (fun v4 => some (v4, M))) else if x2 = 2 then some (x3, M) else if x2 = 3 then some (x4, M) else cl (has M r0 21) (s_m11_refused r0 (-7 : Int32) M) (fun v5 M6 => some (v5, M6))) else cl (has M r0 21) (s_m11_isBehind r0 x5 x1 M) (fun v7 M8 => (if ¬ v7 = 0 then s_m11_printed_68 (s_m11_printed_43 n) r0 x1 x2 (x3 + 1) x5 x5 M8 else s_m11_printed_68 (s_m11_printed_43 n) r0 x1 x2 x3 x4 x5 M8)))
def s_m11_printed (r0 : Nat) (a1 : Int32) (a2 : Int32) (M : Mm) : Option (Int32 × Mm) := cl true (s_m11_isPaper a1 M) (fun v1 M2 => (if ¬ v1 = 0 then gR M2 r0 21 52 (fun v3 => aI M2 v3 1 a1 (fun v4 => (if ¬ v4 = 0 then gI M2 r0 21 6 (fun v5 => s_m11_printed_43 FU r0 a1 a2 (0 : Int32) (-1 : Int32) (v5 - (1 : Int32)) M2) else cl (has M2 r0 21) (s_m11_refused r0 (-2 : Int32) M2) (fun v6 M7 => some (v6, M7))))) else cl (has M2 r0 21) (s_m11_refused r0 (-3 : Int32) M2) (fun v8 M9 => some (v8, M9))))
set_option maxRecDepth 100000 in
set_option maxHeartbeats 4000000 in
theorem w_m11_printed_68 {V : Ev} {C : Cx} {n0 : Nat} (hC : Cok V C y_m11_printed.cls b_m11_printed 6 n0 (some .int) y_m11_printed.name) (hR : cR C = rm_m11_printed) (k43 : Nat → Int32 → Int32 → Int32 → Int32 → Int32 → Mm → Option (Int32 × Mm)) (hk43 : ∀ (r0 : Nat) (x1 : Int32) (x2 : Int32) (x3 : Int32) (x4 : Int32) (x5 : Int32) (M : Mm), Sm V C 6 n0 n0 (qI V C) 43 [(0, rv V.1 r0), (1, .int x1), (2, .int x2), (3, .int x3), (4, .int x4), (5, .int x5)] [] M (k43 r0 x1 x2 x3 x4 x5 M)) : ∀ (r0 : Nat) (x1 : Int32) (x2 : Int32) (x3 : Int32) (x4 : Int32) (x5 : Int32) (M : Mm), Sm V C 6 n0 n0 (qI V C) 68 [(0, rv V.1 r0), (1, .int x1), (2, .int x2), (3, .int x3), (4, .int x4), (5, .int x5)] [] M (s_m11_printed_68 k43 r0 x1 x2 x3 x4 x5 M) := by
  intro r0 x1 x2 x3 x4 x5 M
  unfold s_m11_printed_68
  refine Sm.iinc (v := x5 + (-1)) (lv' := [(5, .int (x5 + (-1))), (0, rv V.1 r0), (1, .int x1), (2, .int x2), (3, .int x3), (4, .int x4)]) hC d_m11_printed_68 5 rfl rfl (by decide) rfl ?_
  refine Sm.goto (tgt := 43) hC d_m11_printed_71 (by decide) ?_
  refine Sm.sub [1, 2, 3, 4, 5, 0] rfl ?_
  exact hk43 r0 x1 x2 x3 x4 (x5 + (-1)) M
set_option maxRecDepth 100000 in
set_option maxHeartbeats 4000000 in
theorem w_m11_printed_43 {V : Ev} {C : Cx} {n0 : Nat} (hC : Cok V C y_m11_printed.cls b_m11_printed 6 n0 (some .int) y_m11_printed.name) (hR : cR C = rm_m11_printed)  : ∀ (n : Nat) (r0 : Nat) (x1 : Int32) (x2 : Int32) (x3 : Int32) (x4 : Int32) (x5 : Int32) (M : Mm), Sm V C 6 n0 n0 (qI V C) 43 [(0, rv V.1 r0), (1, .int x1), (2, .int x2), (3, .int x3), (4, .int x4), (5, .int x5)] [] M (s_m11_printed_43 n r0 x1 x2 x3 x4 x5 M) := by
  intro n
  induction n with
  | zero => exact fun r0 x1 x2 x3 x4 x5 M => Sm.none_
  | succ n ih =>
    intro r0 x1 x2 x3 x4 x5 M
    unfold s_m11_printed_43
    refine Sm.iload hC d_m11_printed_43 5 rfl ?_
    refine Sm.if_lt (tgt := 74) hC d_m11_printed_45 (by decide) ?_ ?_
    · refine Sm.iload_n hC d_m11_printed_74 rfl 2 rfl ?_
      refine Sm.if_ (fun h9 => ?_) (fun h75_0 => ?_)
      · refine Sm.tswIn (tgt := 104) hC d_m11_printed_75 (by rw [h9]; decide) (by rw [h9]; decide) (by rw [h9] <;> rfl) (by decide) ?_
        refine Sm.aload_n hC d_m11_printed_104 rfl 0 rfl ?_
        refine Sm.getR hC fl_m11_119 rfl d_m11_printed_105 (fun v1 => ?_)
        refine Sm.iload_n hC d_m11_printed_108 rfl 1 rfl ?_
        refine Sm.iald hC d_m11_printed_109 (fun v2 => ?_)
        exact Sm.iret hC d_m11_printed_110 rfl (Nat.sub_self _)
      refine Sm.if_ (fun h9 => ?_) (fun h75_1 => ?_)
      · refine Sm.tswIn (tgt := 111) hC d_m11_printed_75 (by rw [h9]; decide) (by rw [h9]; decide) (by rw [h9] <;> rfl) (by decide) ?_
        refine Sm.aload_n hC d_m11_printed_111 rfl 0 rfl ?_
        refine Sm.getR hC fl_m11_122 rfl d_m11_printed_112 (fun v3 => ?_)
        refine Sm.iload_n hC d_m11_printed_115 rfl 1 rfl ?_
        refine Sm.iald hC d_m11_printed_116 (fun v4 => ?_)
        exact Sm.iret hC d_m11_printed_117 rfl (Nat.sub_self _)
      refine Sm.if_ (fun h9 => ?_) (fun h75_2 => ?_)
      · refine Sm.tswIn (tgt := 118) hC d_m11_printed_75 (by rw [h9]; decide) (by rw [h9]; decide) (by rw [h9] <;> rfl) (by decide) ?_
        refine Sm.iload_n hC d_m11_printed_118 rfl 3 rfl ?_
        exact Sm.iret hC d_m11_printed_119 rfl (Nat.sub_self _)
      refine Sm.if_ (fun h9 => ?_) (fun h75_3 => ?_)
      · refine Sm.tswIn (tgt := 120) hC d_m11_printed_75 (by rw [h9]; decide) (by rw [h9]; decide) (by rw [h9] <;> rfl) (by decide) ?_
        refine Sm.iload hC d_m11_printed_120 4 rfl ?_
        exact Sm.iret hC d_m11_printed_122 rfl (Nat.sub_self _)
      refine Sm.tswOut (tgt := 123) hC d_m11_printed_75 (out_of (n := 4) (by decide) (fun i hi => by
          match i, hi with
          | 0, _ => exact h75_0
          | 1, _ => exact h75_1
          | 2, _ => exact h75_2
          | 3, _ => exact h75_3)) (by decide) ?_
      refine Sm.aload_n hC d_m11_printed_123 rfl 0 rfl ?_
      refine Sm.bipush (v := -7) hC d_m11_printed_124 (by decide) ?_
      refine Sm.callVi 11 (As := [.int (-7 : Int32)]) (st := []) hC hR cw_m11_refused (tw_i 1048 (by decide +kernel)) (tw_i 1050 (by decide +kernel)) (tw_i 23 (by decide +kernel)) ⟨_, rfl, rfl⟩ (fun r9 M9 h9 => ok_m11_refused h9) rfl rfl (RW.of ⟨rfl, rfl, by decide, by decide⟩) (by simp) d_m11_printed_126 (fun v5 M6 => ?_)
      exact Sm.iret hC d_m11_printed_129 rfl (Nat.sub_self _)
    · refine Sm.aload_n hC d_m11_printed_48 rfl 0 rfl ?_
      refine Sm.iload hC d_m11_printed_49 5 rfl ?_
      refine Sm.iload_n hC d_m11_printed_51 rfl 1 rfl ?_
      refine Sm.callVi 11 (As := [.int x5, .int x1]) (st := []) hC hR cw_m11_isBehind (tw_i 1265 (by decide +kernel)) (tw_i 1267 (by decide +kernel)) (tw_i 53 (by decide +kernel)) ⟨_, rfl, rfl⟩ (fun r9 M9 h9 => ok_m11_isBehind h9) rfl rfl (RW.of ⟨rfl, rfl, by decide, by decide⟩) (by simp) d_m11_printed_52 (fun v7 M8 => ?_)
      refine Sm.if_ne (tgt := 61) hC d_m11_printed_55 (by decide) ?_ ?_
      · refine Sm.iinc (v := x3 + 1) (lv' := [(3, .int (x3 + 1)), (0, rv V.1 r0), (1, .int x1), (2, .int x2), (4, .int x4), (5, .int x5)]) hC d_m11_printed_61 3 rfl rfl (by decide) rfl ?_
        refine Sm.iload hC d_m11_printed_64 5 rfl ?_
        refine Sm.istore (lv' := [(4, .int x5), (3, .int (x3 + 1)), (0, rv V.1 r0), (1, .int x1), (2, .int x2), (5, .int x5)]) hC d_m11_printed_66 (by decide) rfl ?_
        refine Sm.sub [2, 3, 4, 1, 0, 5] rfl ?_
        exact w_m11_printed_68 hC hR (s_m11_printed_43 n) ih r0 x1 x2 (x3 + 1) x5 x5 M8
      · refine Sm.goto (tgt := 68) hC d_m11_printed_58 (by decide) ?_
        exact w_m11_printed_68 hC hR (s_m11_printed_43 n) ih r0 x1 x2 x3 x4 x5 M8
set_option maxRecDepth 100000 in
set_option maxHeartbeats 4000000 in
theorem ok_m11_printed {l : Launch} {V : Ev} {M M' : Mm} {r : Int32} {r0 : Nat} {a1 : Int32} {a2 : Int32} (h : s_m11_printed r0 a1 a2 M = some (r, M')) : Met l y_m11_printed (Cond.code y_m11_printed b_m11_printed 6 (some .int) :: TW) rm_m11_printed (va_Pc [rv V.1 r0, .int a1, .int a2] (Wd V M)) (QC V (some (.int r)) M' 0) 0 0 (Af V) := by
  refine met_of (fun x : Int32 => some (.int x)) (lv0 := [(0, rv V.1 r0), (1, .int a1), (2, .int a2)]) (by decide) (by simp [lg_sl, cat_rv, cat_i, cat_l, cat_f]) (by simp [lv_args, cat_rv, cat_i, cat_l, cat_f]) (fun C hl hR hC => ?_) h
  subst hl
  generalize mN M = n0 at hC ⊢
  unfold s_m11_printed
  refine Sm.iload_n hC d_m11_printed_0 rfl 1 rfl ?_
  refine Sm.callSi (As := [.int a1]) (st := []) hC hR cw_m11_isPaper (tw_i 1150 (by decide +kernel)) (tw_i 1151 (by decide +kernel)) (fun r9 M9 h9 => ok_m11_isPaper h9) rfl rfl (RW.of ⟨rfl, rfl, by decide, by decide⟩) (by simp) d_m11_printed_1 (fun v1 M2 => ?_)
  refine Sm.if_ne (tgt := 14) hC d_m11_printed_4 (by decide) ?_ ?_
  · refine Sm.aload_n hC d_m11_printed_14 rfl 0 rfl ?_
    refine Sm.getR hC fl_m11_115 rfl d_m11_printed_15 (fun v3 => ?_)
    refine Sm.iload_n hC d_m11_printed_18 rfl 1 rfl ?_
    refine Sm.zald hC d_m11_printed_19 (fun v4 => ?_)
    refine Sm.if_ne (tgt := 30) hC d_m11_printed_20 (by decide) ?_ ?_
    · refine Sm.iconst (v := 0) hC d_m11_printed_30 (by decide) ?_
      refine Sm.istore_n (lv' := [(3, .int (0 : Int32)), (0, rv V.1 r0), (1, .int a1), (2, .int a2)]) hC d_m11_printed_31 rfl (by decide) rfl ?_
      refine Sm.iconst (v := -1) hC d_m11_printed_32 (by decide) ?_
      refine Sm.istore (lv' := [(4, .int (-1 : Int32)), (3, .int (0 : Int32)), (0, rv V.1 r0), (1, .int a1), (2, .int a2)]) hC d_m11_printed_33 (by decide) rfl ?_
      refine Sm.aload_n hC d_m11_printed_35 rfl 2 rfl ?_
      refine Sm.getI hC fl_m11_143 rfl d_m11_printed_36 (fun v5 => ?_)
      refine Sm.iconst (v := 1) hC d_m11_printed_39 (by decide) ?_
      refine Sm.isub hC d_m11_printed_40 ?_
      refine Sm.istore (lv' := [(5, .int (v5 - (1 : Int32))), (4, .int (-1 : Int32)), (3, .int (0 : Int32)), (0, rv V.1 r0), (1, .int a1), (2, .int a2)]) hC d_m11_printed_41 (by decide) rfl ?_
      refine Sm.sub [3, 4, 5, 2, 1, 0] rfl ?_
      exact w_m11_printed_43 hC hR FU r0 a1 a2 (0 : Int32) (-1 : Int32) (v5 - (1 : Int32)) M2
    · refine Sm.aload_n hC d_m11_printed_23 rfl 0 rfl ?_
      refine Sm.bipush (v := -2) hC d_m11_printed_24 (by decide) ?_
      refine Sm.callVi 11 (As := [.int (-2 : Int32)]) (st := []) hC hR cw_m11_refused (tw_i 1048 (by decide +kernel)) (tw_i 1050 (by decide +kernel)) (tw_i 23 (by decide +kernel)) ⟨_, rfl, rfl⟩ (fun r9 M9 h9 => ok_m11_refused h9) rfl rfl (RW.of ⟨rfl, rfl, by decide, by decide⟩) (by simp) d_m11_printed_26 (fun v6 M7 => ?_)
      exact Sm.iret hC d_m11_printed_29 rfl (Nat.sub_self _)
  · refine Sm.aload_n hC d_m11_printed_7 rfl 0 rfl ?_
    refine Sm.bipush (v := -3) hC d_m11_printed_8 (by decide) ?_
    refine Sm.callVi 11 (As := [.int (-3 : Int32)]) (st := []) hC hR cw_m11_refused (tw_i 1048 (by decide +kernel)) (tw_i 1050 (by decide +kernel)) (tw_i 23 (by decide +kernel)) ⟨_, rfl, rfl⟩ (fun r9 M9 h9 => ok_m11_refused h9) rfl rfl (RW.of ⟨rfl, rfl, by decide, by decide⟩) (by simp) d_m11_printed_10 (fun v8 M9 => ?_)
    exact Sm.iret hC d_m11_printed_13 rfl (Nat.sub_self _)
/-! NewsWireModel.worth(II)I -/
theorem fl_m11_304 : FL "NewsWireModel" 304 11 56 0 false .int := ⟨_, _, _, _, rfl, in_c11, ty_c11, nm_c11, by decide, rfl, tw_i 921 (by decide +kernel), rfl, rfl, rfl, rfl⟩
theorem fl_m11_128 : FL "NewsWireModel" 128 11 57 2 true (.array .int) := ⟨_, _, _, _, rfl, in_c11, ty_c11, nm_c11, by decide, rfl, tw_i 922 (by decide +kernel), rfl, rfl, rfl, rfl⟩
abbrev b_m11_worth : ByteArray := prog_13_method_60_code
def y_m11_worth : MethodName := ⟨"NewsWireModel", "worth", "(II)I"⟩
def rm_m11_worth : Room := { frames := 4, cells := 0, slots := 0, locals := 130 }
theorem cw_m11_worth : CW y_m11_worth b_m11_worth 11 (some .int) 2 := ⟨tw_i 66 (by decide +kernel), tw_i 1272 (by decide +kernel), by decide, by decide, by decide +kernel⟩
theorem d_m11_worth_0 : decode b_m11_worth 0 = .ok (.aload_n 0, 1) := by decide +kernel
theorem d_m11_worth_1 : decode b_m11_worth 1 = .ok (.iload_n 1, 1) := by decide +kernel
theorem d_m11_worth_2 : decode b_m11_worth 2 = .ok (.invokevirtual 231, 3) := by decide +kernel
theorem d_m11_worth_5 : decode b_m11_worth 5 = .ok (.ifCond .ne 10, 3) := by decide +kernel
theorem d_m11_worth_8 : decode b_m11_worth 8 = .ok (.aload_n 0, 1) := by decide +kernel
theorem d_m11_worth_9 : decode b_m11_worth 9 = .ok (.bipush (-3), 2) := by decide +kernel
theorem d_m11_worth_11 : decode b_m11_worth 11 = .ok (.invokevirtual 139, 3) := by decide +kernel
theorem d_m11_worth_14 : decode b_m11_worth 14 = .ok (.ireturn, 1) := by decide +kernel
theorem d_m11_worth_15 : decode b_m11_worth 15 = .ok (.iload_n 2, 1) := by decide +kernel
theorem d_m11_worth_16 : decode b_m11_worth 16 = .ok (.ifCond .ge 10, 3) := by decide +kernel
theorem d_m11_worth_19 : decode b_m11_worth 19 = .ok (.aload_n 0, 1) := by decide +kernel
theorem d_m11_worth_20 : decode b_m11_worth 20 = .ok (.bipush (-4), 2) := by decide +kernel
theorem d_m11_worth_22 : decode b_m11_worth 22 = .ok (.invokevirtual 139, 3) := by decide +kernel
theorem d_m11_worth_25 : decode b_m11_worth 25 = .ok (.ireturn, 1) := by decide +kernel
theorem d_m11_worth_26 : decode b_m11_worth 26 = .ok (.iload_n 2, 1) := by decide +kernel
theorem d_m11_worth_27 : decode b_m11_worth 27 = .ok (.sipush 1000, 3) := by decide +kernel
theorem d_m11_worth_30 : decode b_m11_worth 30 = .ok (.if_icmp .le 10, 3) := by decide +kernel
theorem d_m11_worth_33 : decode b_m11_worth 33 = .ok (.aload_n 0, 1) := by decide +kernel
theorem d_m11_worth_34 : decode b_m11_worth 34 = .ok (.bipush (-7), 2) := by decide +kernel
theorem d_m11_worth_36 : decode b_m11_worth 36 = .ok (.invokevirtual 139, 3) := by decide +kernel
theorem d_m11_worth_39 : decode b_m11_worth 39 = .ok (.ireturn, 1) := by decide +kernel
theorem d_m11_worth_40 : decode b_m11_worth 40 = .ok (.iconst 0, 1) := by decide +kernel
theorem d_m11_worth_41 : decode b_m11_worth 41 = .ok (.istore_n 3, 1) := by decide +kernel
theorem d_m11_worth_42 : decode b_m11_worth 42 = .ok (.iconst 0, 1) := by decide +kernel
theorem d_m11_worth_43 : decode b_m11_worth 43 = .ok (.istore 4, 2) := by decide +kernel
theorem d_m11_worth_45 : decode b_m11_worth 45 = .ok (.iload 4, 2) := by decide +kernel
theorem d_m11_worth_47 : decode b_m11_worth 47 = .ok (.aload_n 0, 1) := by decide +kernel
theorem d_m11_worth_48 : decode b_m11_worth 48 = .ok (.getfield 76, 3) := by decide +kernel
theorem d_m11_worth_51 : decode b_m11_worth 51 = .ok (.iload_n 1, 1) := by decide +kernel
theorem d_m11_worth_52 : decode b_m11_worth 52 = .ok (.iaload, 1) := by decide +kernel
theorem d_m11_worth_53 : decode b_m11_worth 53 = .ok (.if_icmp .ge 53, 3) := by decide +kernel
theorem d_m11_worth_56 : decode b_m11_worth 56 = .ok (.aload_n 0, 1) := by decide +kernel
theorem d_m11_worth_57 : decode b_m11_worth 57 = .ok (.getfield 79, 3) := by decide +kernel
theorem d_m11_worth_60 : decode b_m11_worth 60 = .ok (.bipush 40, 2) := by decide +kernel
theorem d_m11_worth_62 : decode b_m11_worth 62 = .ok (.iload_n 1, 1) := by decide +kernel
theorem d_m11_worth_63 : decode b_m11_worth 63 = .ok (.imul, 1) := by decide +kernel
theorem d_m11_worth_64 : decode b_m11_worth 64 = .ok (.iload 4, 2) := by decide +kernel
theorem d_m11_worth_66 : decode b_m11_worth 66 = .ok (.iadd, 1) := by decide +kernel
theorem d_m11_worth_67 : decode b_m11_worth 67 = .ok (.iaload, 1) := by decide +kernel
theorem d_m11_worth_68 : decode b_m11_worth 68 = .ok (.istore 5, 2) := by decide +kernel
theorem d_m11_worth_70 : decode b_m11_worth 70 = .ok (.aload_n 0, 1) := by decide +kernel
theorem d_m11_worth_71 : decode b_m11_worth 71 = .ok (.getfield 88, 3) := by decide +kernel
theorem d_m11_worth_74 : decode b_m11_worth 74 = .ok (.bipush 40, 2) := by decide +kernel
theorem d_m11_worth_76 : decode b_m11_worth 76 = .ok (.iload_n 1, 1) := by decide +kernel
theorem d_m11_worth_77 : decode b_m11_worth 77 = .ok (.imul, 1) := by decide +kernel
theorem d_m11_worth_78 : decode b_m11_worth 78 = .ok (.iload 5, 2) := by decide +kernel
theorem d_m11_worth_80 : decode b_m11_worth 80 = .ok (.iadd, 1) := by decide +kernel
theorem d_m11_worth_81 : decode b_m11_worth 81 = .ok (.iaload, 1) := by decide +kernel
theorem d_m11_worth_82 : decode b_m11_worth 82 = .ok (.iconst (-1), 1) := by decide +kernel
theorem d_m11_worth_83 : decode b_m11_worth 83 = .ok (.if_icmp .eq 6, 3) := by decide +kernel
theorem d_m11_worth_86 : decode b_m11_worth 86 = .ok (.goto 14, 3) := by decide +kernel
theorem d_m11_worth_89 : decode b_m11_worth 89 = .ok (.aload_n 0, 1) := by decide +kernel
theorem d_m11_worth_90 : decode b_m11_worth 90 = .ok (.getfield 128, 3) := by decide +kernel
theorem d_m11_worth_93 : decode b_m11_worth 93 = .ok (.iload_n 3, 1) := by decide +kernel
theorem d_m11_worth_94 : decode b_m11_worth 94 = .ok (.iload 5, 2) := by decide +kernel
theorem d_m11_worth_96 : decode b_m11_worth 96 = .ok (.iastore, 1) := by decide +kernel
theorem d_m11_worth_97 : decode b_m11_worth 97 = .ok (.iinc 3 1, 3) := by decide +kernel
theorem d_m11_worth_100 : decode b_m11_worth 100 = .ok (.iinc 4 1, 3) := by decide +kernel
theorem d_m11_worth_103 : decode b_m11_worth 103 = .ok (.goto (-58), 3) := by decide +kernel
theorem d_m11_worth_106 : decode b_m11_worth 106 = .ok (.iconst 0, 1) := by decide +kernel
theorem d_m11_worth_107 : decode b_m11_worth 107 = .ok (.istore 4, 2) := by decide +kernel
theorem d_m11_worth_109 : decode b_m11_worth 109 = .ok (.iconst 0, 1) := by decide +kernel
theorem d_m11_worth_110 : decode b_m11_worth 110 = .ok (.istore 5, 2) := by decide +kernel
theorem d_m11_worth_112 : decode b_m11_worth 112 = .ok (.iconst 0, 1) := by decide +kernel
theorem d_m11_worth_113 : decode b_m11_worth 113 = .ok (.istore 6, 2) := by decide +kernel
theorem d_m11_worth_115 : decode b_m11_worth 115 = .ok (.iconst 0, 1) := by decide +kernel
theorem d_m11_worth_116 : decode b_m11_worth 116 = .ok (.istore 7, 2) := by decide +kernel
theorem d_m11_worth_118 : decode b_m11_worth 118 = .ok (.iload 7, 2) := by decide +kernel
theorem d_m11_worth_120 : decode b_m11_worth 120 = .ok (.iconst 1, 1) := by decide +kernel
theorem d_m11_worth_121 : decode b_m11_worth 121 = .ok (.iload_n 3, 1) := by decide +kernel
theorem d_m11_worth_122 : decode b_m11_worth 122 = .ok (.ishl, 1) := by decide +kernel
theorem d_m11_worth_123 : decode b_m11_worth 123 = .ok (.if_icmp .ge 145, 3) := by decide +kernel
theorem d_m11_worth_126 : decode b_m11_worth 126 = .ok (.iconst 0, 1) := by decide +kernel
theorem d_m11_worth_127 : decode b_m11_worth 127 = .ok (.istore 8, 2) := by decide +kernel
theorem d_m11_worth_129 : decode b_m11_worth 129 = .ok (.iconst 0, 1) := by decide +kernel
theorem d_m11_worth_130 : decode b_m11_worth 130 = .ok (.istore 9, 2) := by decide +kernel
theorem d_m11_worth_132 : decode b_m11_worth 132 = .ok (.iconst 0, 1) := by decide +kernel
theorem d_m11_worth_133 : decode b_m11_worth 133 = .ok (.istore 10, 2) := by decide +kernel
theorem d_m11_worth_135 : decode b_m11_worth 135 = .ok (.iload 10, 2) := by decide +kernel
theorem d_m11_worth_137 : decode b_m11_worth 137 = .ok (.iload_n 3, 1) := by decide +kernel
theorem d_m11_worth_138 : decode b_m11_worth 138 = .ok (.if_icmp .ge 75, 3) := by decide +kernel
theorem d_m11_worth_141 : decode b_m11_worth 141 = .ok (.iload 7, 2) := by decide +kernel
theorem d_m11_worth_143 : decode b_m11_worth 143 = .ok (.iload 10, 2) := by decide +kernel
theorem d_m11_worth_145 : decode b_m11_worth 145 = .ok (.ishr, 1) := by decide +kernel
theorem d_m11_worth_146 : decode b_m11_worth 146 = .ok (.iconst 1, 1) := by decide +kernel
theorem d_m11_worth_147 : decode b_m11_worth 147 = .ok (.iand, 1) := by decide +kernel
theorem d_m11_worth_148 : decode b_m11_worth 148 = .ok (.ifCond .ne 6, 3) := by decide +kernel
theorem d_m11_worth_151 : decode b_m11_worth 151 = .ok (.goto 56, 3) := by decide +kernel
theorem d_m11_worth_154 : decode b_m11_worth 154 = .ok (.iload 8, 2) := by decide +kernel
theorem d_m11_worth_156 : decode b_m11_worth 156 = .ok (.aload_n 0, 1) := by decide +kernel
theorem d_m11_worth_157 : decode b_m11_worth 157 = .ok (.aload_n 0, 1) := by decide +kernel
theorem d_m11_worth_158 : decode b_m11_worth 158 = .ok (.getfield 128, 3) := by decide +kernel
theorem d_m11_worth_161 : decode b_m11_worth 161 = .ok (.iload 10, 2) := by decide +kernel
theorem d_m11_worth_163 : decode b_m11_worth 163 = .ok (.iaload, 1) := by decide +kernel
theorem d_m11_worth_164 : decode b_m11_worth 164 = .ok (.invokevirtual 221, 3) := by decide +kernel
theorem d_m11_worth_167 : decode b_m11_worth 167 = .ok (.iconst 1, 1) := by decide +kernel
theorem d_m11_worth_168 : decode b_m11_worth 168 = .ok (.iadd, 1) := by decide +kernel
theorem d_m11_worth_169 : decode b_m11_worth 169 = .ok (.iadd, 1) := by decide +kernel
theorem d_m11_worth_170 : decode b_m11_worth 170 = .ok (.istore 8, 2) := by decide +kernel
theorem d_m11_worth_172 : decode b_m11_worth 172 = .ok (.iload 9, 2) := by decide +kernel
theorem d_m11_worth_174 : decode b_m11_worth 174 = .ok (.aload_n 0, 1) := by decide +kernel
theorem d_m11_worth_175 : decode b_m11_worth 175 = .ok (.getfield 34, 3) := by decide +kernel
theorem d_m11_worth_178 : decode b_m11_worth 178 = .ok (.aload_n 0, 1) := by decide +kernel
theorem d_m11_worth_179 : decode b_m11_worth 179 = .ok (.getfield 128, 3) := by decide +kernel
theorem d_m11_worth_182 : decode b_m11_worth 182 = .ok (.iload 10, 2) := by decide +kernel
theorem d_m11_worth_184 : decode b_m11_worth 184 = .ok (.iaload, 1) := by decide +kernel
theorem d_m11_worth_185 : decode b_m11_worth 185 = .ok (.iaload, 1) := by decide +kernel
theorem d_m11_worth_186 : decode b_m11_worth 186 = .ok (.aload_n 0, 1) := by decide +kernel
theorem d_m11_worth_187 : decode b_m11_worth 187 = .ok (.getfield 85, 3) := by decide +kernel
theorem d_m11_worth_190 : decode b_m11_worth 190 = .ok (.bipush 40, 2) := by decide +kernel
theorem d_m11_worth_192 : decode b_m11_worth 192 = .ok (.iload_n 1, 1) := by decide +kernel
theorem d_m11_worth_193 : decode b_m11_worth 193 = .ok (.imul, 1) := by decide +kernel
theorem d_m11_worth_194 : decode b_m11_worth 194 = .ok (.aload_n 0, 1) := by decide +kernel
theorem d_m11_worth_195 : decode b_m11_worth 195 = .ok (.getfield 128, 3) := by decide +kernel
theorem d_m11_worth_198 : decode b_m11_worth 198 = .ok (.iload 10, 2) := by decide +kernel
theorem d_m11_worth_200 : decode b_m11_worth 200 = .ok (.iaload, 1) := by decide +kernel
theorem d_m11_worth_201 : decode b_m11_worth 201 = .ok (.iadd, 1) := by decide +kernel
theorem d_m11_worth_202 : decode b_m11_worth 202 = .ok (.iaload, 1) := by decide +kernel
theorem d_m11_worth_203 : decode b_m11_worth 203 = .ok (.isub, 1) := by decide +kernel
theorem d_m11_worth_204 : decode b_m11_worth 204 = .ok (.iadd, 1) := by decide +kernel
theorem d_m11_worth_205 : decode b_m11_worth 205 = .ok (.istore 9, 2) := by decide +kernel
theorem d_m11_worth_207 : decode b_m11_worth 207 = .ok (.iinc 10 1, 3) := by decide +kernel
theorem d_m11_worth_210 : decode b_m11_worth 210 = .ok (.goto (-75), 3) := by decide +kernel
theorem d_m11_worth_213 : decode b_m11_worth 213 = .ok (.iload 9, 2) := by decide +kernel
theorem d_m11_worth_215 : decode b_m11_worth 215 = .ok (.aload_n 0, 1) := by decide +kernel
theorem d_m11_worth_216 : decode b_m11_worth 216 = .ok (.getfield 19, 3) := by decide +kernel
theorem d_m11_worth_219 : decode b_m11_worth 219 = .ok (.iload_n 1, 1) := by decide +kernel
theorem d_m11_worth_220 : decode b_m11_worth 220 = .ok (.iaload, 1) := by decide +kernel
theorem d_m11_worth_221 : decode b_m11_worth 221 = .ok (.iload_n 2, 1) := by decide +kernel
theorem d_m11_worth_222 : decode b_m11_worth 222 = .ok (.imul, 1) := by decide +kernel
theorem d_m11_worth_223 : decode b_m11_worth 223 = .ok (.if_icmp .gt 39, 3) := by decide +kernel
theorem d_m11_worth_226 : decode b_m11_worth 226 = .ok (.iload 8, 2) := by decide +kernel
theorem d_m11_worth_228 : decode b_m11_worth 228 = .ok (.iload 5, 2) := by decide +kernel
theorem d_m11_worth_230 : decode b_m11_worth 230 = .ok (.if_icmp .lt 32, 3) := by decide +kernel
theorem d_m11_worth_233 : decode b_m11_worth 233 = .ok (.iload 8, 2) := by decide +kernel
theorem d_m11_worth_235 : decode b_m11_worth 235 = .ok (.iload 5, 2) := by decide +kernel
theorem d_m11_worth_237 : decode b_m11_worth 237 = .ok (.if_icmp .ne 13, 3) := by decide +kernel
theorem d_m11_worth_240 : decode b_m11_worth 240 = .ok (.iload 9, 2) := by decide +kernel
theorem d_m11_worth_242 : decode b_m11_worth 242 = .ok (.iload 6, 2) := by decide +kernel
theorem d_m11_worth_244 : decode b_m11_worth 244 = .ok (.if_icmp .lt 6, 3) := by decide +kernel
theorem d_m11_worth_247 : decode b_m11_worth 247 = .ok (.goto 15, 3) := by decide +kernel
theorem d_m11_worth_250 : decode b_m11_worth 250 = .ok (.iload 7, 2) := by decide +kernel
theorem d_m11_worth_252 : decode b_m11_worth 252 = .ok (.istore 4, 2) := by decide +kernel
theorem d_m11_worth_254 : decode b_m11_worth 254 = .ok (.iload 8, 2) := by decide +kernel
theorem d_m11_worth_256 : decode b_m11_worth 256 = .ok (.istore 5, 2) := by decide +kernel
theorem d_m11_worth_258 : decode b_m11_worth 258 = .ok (.iload 9, 2) := by decide +kernel
theorem d_m11_worth_260 : decode b_m11_worth 260 = .ok (.istore 6, 2) := by decide +kernel
theorem d_m11_worth_262 : decode b_m11_worth 262 = .ok (.iinc 7 1, 3) := by decide +kernel
theorem d_m11_worth_265 : decode b_m11_worth 265 = .ok (.goto (-147), 3) := by decide +kernel
theorem d_m11_worth_268 : decode b_m11_worth 268 = .ok (.aload_n 0, 1) := by decide +kernel
theorem d_m11_worth_269 : decode b_m11_worth 269 = .ok (.iload 4, 2) := by decide +kernel
theorem d_m11_worth_271 : decode b_m11_worth 271 = .ok (.putfield 304, 3) := by decide +kernel
theorem d_m11_worth_274 : decode b_m11_worth 274 = .ok (.iload 5, 2) := by decide +kernel
theorem d_m11_worth_276 : decode b_m11_worth 276 = .ok (.ireturn, 1) := by decide +kernel
def s_m11_worth_262 (k118 : Nat → Int32 → Int32 → Int32 → Int32 → Int32 → Int32 → Int32 → Mm → Option (Int32 × Mm)) (r0 : Nat) (x1 : Int32) (x2 : Int32) (x3 : Int32) (x4 : Int32) (x5 : Int32) (x6 : Int32) (x7 : Int32) (M : Mm) : Option (Int32 × Mm) := k118 r0 x1 x2 x3 x4 x5 x6 (x7 + 1) M
def s_m11_worth_250 (k118 : Nat → Int32 → Int32 → Int32 → Int32 → Int32 → Int32 → Int32 → Mm → Option (Int32 × Mm)) (r0 : Nat) (x1 : Int32) (x2 : Int32) (x3 : Int32) (x7 : Int32) (x8 : Int32) (x9 : Int32) (M : Mm) : Option (Int32 × Mm) := s_m11_worth_262 k118 r0 x1 x2 x3 x7 x8 x9 x7 M
def s_m11_worth_207 (k118 : Nat → Int32 → Int32 → Int32 → Int32 → Int32 → Int32 → Int32 → Mm → Option (Int32 × Mm)) (k135 : Nat → Int32 → Int32 → Int32 → Int32 → Int32 → Int32 → Int32 → Int32 → Int32 → Int32 → Mm → Option (Int32 × Mm)) (r0 : Nat) (x1 : Int32) (x2 : Int32) (x3 : Int32) (x4 : Int32) (x5 : Int32) (x6 : Int32) (x7 : Int32) (x8 : Int32) (x9 : Int32) (x10 : Int32) (M : Mm) : Option (Int32 × Mm) := k135 r0 x1 x2 x3 x4 x5 x6 x7 x8 x9 (x10 + 1) M
def s_m11_worth_135 (k118 : Nat → Int32 → Int32 → Int32 → Int32 → Int32 → Int32 → Int32 → Mm → Option (Int32 × Mm)) : Nat → Nat → Int32 → Int32 → Int32 → Int32 → Int32 → Int32 → Int32 → Int32 → Int32 → Int32 → Mm → Option (Int32 × Mm)
  | 0, _, _, _, _, _, _, _, _, _, _, _, _ => none
  | n + 1, r0, x1, x2, x3, x4, x5, x6, x7, x8, x9, x10, M => (if x3 ≤ x10 then gR M r0 21 5 (fun v1 => aI M v1 0 x1 (fun v2 => (if (v2 * x2) < x9 then s_m11_worth_262 k118 r0 x1 x2 x3 x4 x5 x6 x7 M else (if x8 < x5 then s_m11_worth_262 k118 r0 x1 x2 x3 x4 x5 x6 x7 M else (if ¬ x8 = x5 then s_m11_worth_250 k118 r0 x1 x2 x3 x7 x8 x9 M else (if x9 < x6 then s_m11_worth_250 k118 r0 x1 x2 x3 x7 x8 x9 M else s_m11_worth_262 k118 r0 x1 x2 x3 x4 x5 x6 x7 M)))))) else (if ¬ ((x7 >>> (x10 &&& 31)) &&& (1 : Int32)) = 0 then gR M r0 21 57 (fun v3 => aI M v3 0 x10 (fun v4 => cl (has M r0 21) (s_m11_rankOf r0 v4 M) (fun v5 M6 => gR M6 r0 21 11 (fun v7 => gR M6 r0 21 57 (fun v8 => aI M6 v8 0 x10 (fun v9 => aI M6 v7 0 v9 (fun v10 => gR M6 r0 21 35 (fun v11 => gR M6 r0 21 57 (fun v12 => aI M6 v12 0 x10 (fun v13 => aI M6 v11 0 (((40 : Int32) * x1) + v13) (fun v14 => s_m11_worth_207 k118 (s_m11_worth_135 k118 n) r0 x1 x2 x3 x4 x5 x6 x7 (x8 + (v5 + (1 : Int32))) (x9 + (v10 - v14)) x10 M6))))))))))) else s_m11_worth_207 k118 (s_m11_worth_135 k118 n) r0 x1 x2 x3 x4 x5 x6 x7 x8 x9 x10 M))
def s_m11_worth_118  : Nat → Nat → Int32 → Int32 → Int32 → Int32 → Int32 → Int32 → Int32 → Mm → Option (Int32 × Mm)
  | 0, _, _, _, _, _, _, _, _, _ => none
  | n + 1, r0, x1, x2, x3, x4, x5, x6, x7, M => (if ((1 : Int32) <<< (x3 &&& 31)) ≤ x7 then pI M r0 21 56 x4 (fun M1 => some (x5, M1)) else s_m11_worth_135 (s_m11_worth_118 n) FU r0 x1 x2 x3 x4 x5 x6 x7 (0 : Int32) (0 : Int32) (0 : Int32) M)
def s_m11_worth_100 (k45 : Nat → Int32 → Int32 → Int32 → Int32 → Mm → Option (Int32 × Mm)) (r0 : Nat) (x1 : Int32) (x2 : Int32) (x3 : Int32) (x4 : Int32) (M : Mm) : Option (Int32 × Mm) := k45 r0 x1 x2 x3 (x4 + 1) M
def s_m11_worth_45  : Nat → Nat → Int32 → Int32 → Int32 → Int32 → Mm → Option (Int32 × Mm)
  | 0, _, _, _, _, _, _ => none
  | n + 1, r0, x1, x2, x3, x4, M => gR M r0 21 32 (fun v1 => aI M v1 0 x1 (fun v2 => (if v2 ≤ x4 then s_m11_worth_118 FU r0 x1 x2 x3 (0 : Int32) (0 : Int32) (0 : Int32) (0 : Int32) M else gR M r0 21 33 (fun v3 => aI M v3 0 (((40 : Int32) * x1) + x4) (fun v4 => gR M r0 21 36 (fun v5 => aI M v5 0 (((40 : Int32) * x1) + v4) (fun v6 => (if v6 = (-1 : Int32) then gR M r0 21 57 (fun v7 => sI M v7 0 x3 v4 (fun M8 => s_m11_worth_100 (s_m11_worth_45 n) r0 x1 x2 (x3 + 1) x4 M8)) else s_m11_worth_100 (s_m11_worth_45 n) r0 x1 x2 x3 x4 M))))))))
def s_m11_worth (r0 : Nat) (a1 : Int32) (a2 : Int32) (M : Mm) : Option (Int32 × Mm) := cl (has M r0 21) (s_m11_isWire r0 a1 M) (fun v1 M2 => (if ¬ v1 = 0 then (if 0 ≤ a2 then (if a2 ≤ (1000 : Int32) then s_m11_worth_45 FU r0 a1 a2 (0 : Int32) (0 : Int32) M2 else cl (has M2 r0 21) (s_m11_refused r0 (-7 : Int32) M2) (fun v3 M4 => some (v3, M4))) else cl (has M2 r0 21) (s_m11_refused r0 (-4 : Int32) M2) (fun v5 M6 => some (v5, M6))) else cl (has M2 r0 21) (s_m11_refused r0 (-3 : Int32) M2) (fun v7 M8 => some (v7, M8))))
set_option maxRecDepth 100000 in
set_option maxHeartbeats 4000000 in
theorem w_m11_worth_262 {V : Ev} {C : Cx} {n0 : Nat} (hC : Cok V C y_m11_worth.cls b_m11_worth 11 n0 (some .int) y_m11_worth.name) (hR : cR C = rm_m11_worth) (k118 : Nat → Int32 → Int32 → Int32 → Int32 → Int32 → Int32 → Int32 → Mm → Option (Int32 × Mm)) (hk118 : ∀ (r0 : Nat) (x1 : Int32) (x2 : Int32) (x3 : Int32) (x4 : Int32) (x5 : Int32) (x6 : Int32) (x7 : Int32) (M : Mm), Sm V C 11 n0 n0 (qI V C) 118 [(0, rv V.1 r0), (1, .int x1), (2, .int x2), (3, .int x3), (4, .int x4), (5, .int x5), (6, .int x6), (7, .int x7)] [] M (k118 r0 x1 x2 x3 x4 x5 x6 x7 M)) : ∀ (r0 : Nat) (x1 : Int32) (x2 : Int32) (x3 : Int32) (x4 : Int32) (x5 : Int32) (x6 : Int32) (x7 : Int32) (M : Mm), Sm V C 11 n0 n0 (qI V C) 262 [(0, rv V.1 r0), (1, .int x1), (2, .int x2), (3, .int x3), (4, .int x4), (5, .int x5), (6, .int x6), (7, .int x7)] [] M (s_m11_worth_262 k118 r0 x1 x2 x3 x4 x5 x6 x7 M) := by
  intro r0 x1 x2 x3 x4 x5 x6 x7 M
  unfold s_m11_worth_262
  refine Sm.iinc (v := x7 + 1) (lv' := [(7, .int (x7 + 1)), (0, rv V.1 r0), (1, .int x1), (2, .int x2), (3, .int x3), (4, .int x4), (5, .int x5), (6, .int x6)]) hC d_m11_worth_262 7 rfl rfl (by decide) rfl ?_
  refine Sm.goto (tgt := 118) hC d_m11_worth_265 (by decide) ?_
  refine Sm.sub [1, 2, 3, 4, 5, 6, 7, 0] rfl ?_
  exact hk118 r0 x1 x2 x3 x4 x5 x6 (x7 + 1) M
set_option maxRecDepth 100000 in
set_option maxHeartbeats 4000000 in
theorem w_m11_worth_250 {V : Ev} {C : Cx} {n0 : Nat} (hC : Cok V C y_m11_worth.cls b_m11_worth 11 n0 (some .int) y_m11_worth.name) (hR : cR C = rm_m11_worth) (k118 : Nat → Int32 → Int32 → Int32 → Int32 → Int32 → Int32 → Int32 → Mm → Option (Int32 × Mm)) (hk118 : ∀ (r0 : Nat) (x1 : Int32) (x2 : Int32) (x3 : Int32) (x4 : Int32) (x5 : Int32) (x6 : Int32) (x7 : Int32) (M : Mm), Sm V C 11 n0 n0 (qI V C) 118 [(0, rv V.1 r0), (1, .int x1), (2, .int x2), (3, .int x3), (4, .int x4), (5, .int x5), (6, .int x6), (7, .int x7)] [] M (k118 r0 x1 x2 x3 x4 x5 x6 x7 M)) : ∀ (r0 : Nat) (x1 : Int32) (x2 : Int32) (x3 : Int32) (x7 : Int32) (x8 : Int32) (x9 : Int32) (M : Mm), Sm V C 11 n0 n0 (qI V C) 250 [(0, rv V.1 r0), (1, .int x1), (2, .int x2), (3, .int x3), (7, .int x7), (8, .int x8), (9, .int x9)] [] M (s_m11_worth_250 k118 r0 x1 x2 x3 x7 x8 x9 M) := by
  intro r0 x1 x2 x3 x7 x8 x9 M
  unfold s_m11_worth_250
  refine Sm.iload hC d_m11_worth_250 4 rfl ?_
  refine Sm.istore (lv' := [(4, .int x7), (0, rv V.1 r0), (1, .int x1), (2, .int x2), (3, .int x3), (7, .int x7), (8, .int x8), (9, .int x9)]) hC d_m11_worth_252 (by decide) rfl ?_
  refine Sm.iload hC d_m11_worth_254 6 rfl ?_
  refine Sm.istore (lv' := [(5, .int x8), (4, .int x7), (0, rv V.1 r0), (1, .int x1), (2, .int x2), (3, .int x3), (7, .int x7), (8, .int x8), (9, .int x9)]) hC d_m11_worth_256 (by decide) rfl ?_
  refine Sm.iload hC d_m11_worth_258 8 rfl ?_
  refine Sm.istore (lv' := [(6, .int x9), (5, .int x8), (4, .int x7), (0, rv V.1 r0), (1, .int x1), (2, .int x2), (3, .int x3), (7, .int x7), (8, .int x8), (9, .int x9)]) hC d_m11_worth_260 (by decide) rfl ?_
  refine Sm.sub [3, 4, 5, 6, 2, 1, 0, 7] rfl ?_
  exact w_m11_worth_262 hC hR k118 hk118 r0 x1 x2 x3 x7 x8 x9 x7 M
set_option maxRecDepth 100000 in
set_option maxHeartbeats 4000000 in
theorem w_m11_worth_207 {V : Ev} {C : Cx} {n0 : Nat} (hC : Cok V C y_m11_worth.cls b_m11_worth 11 n0 (some .int) y_m11_worth.name) (hR : cR C = rm_m11_worth) (k118 : Nat → Int32 → Int32 → Int32 → Int32 → Int32 → Int32 → Int32 → Mm → Option (Int32 × Mm)) (k135 : Nat → Int32 → Int32 → Int32 → Int32 → Int32 → Int32 → Int32 → Int32 → Int32 → Int32 → Mm → Option (Int32 × Mm)) (hk118 : ∀ (r0 : Nat) (x1 : Int32) (x2 : Int32) (x3 : Int32) (x4 : Int32) (x5 : Int32) (x6 : Int32) (x7 : Int32) (M : Mm), Sm V C 11 n0 n0 (qI V C) 118 [(0, rv V.1 r0), (1, .int x1), (2, .int x2), (3, .int x3), (4, .int x4), (5, .int x5), (6, .int x6), (7, .int x7)] [] M (k118 r0 x1 x2 x3 x4 x5 x6 x7 M)) (hk135 : ∀ (r0 : Nat) (x1 : Int32) (x2 : Int32) (x3 : Int32) (x4 : Int32) (x5 : Int32) (x6 : Int32) (x7 : Int32) (x8 : Int32) (x9 : Int32) (x10 : Int32) (M : Mm), Sm V C 11 n0 n0 (qI V C) 135 [(0, rv V.1 r0), (1, .int x1), (2, .int x2), (3, .int x3), (4, .int x4), (5, .int x5), (6, .int x6), (7, .int x7), (8, .int x8), (9, .int x9), (10, .int x10)] [] M (k135 r0 x1 x2 x3 x4 x5 x6 x7 x8 x9 x10 M)) : ∀ (r0 : Nat) (x1 : Int32) (x2 : Int32) (x3 : Int32) (x4 : Int32) (x5 : Int32) (x6 : Int32) (x7 : Int32) (x8 : Int32) (x9 : Int32) (x10 : Int32) (M : Mm), Sm V C 11 n0 n0 (qI V C) 207 [(0, rv V.1 r0), (1, .int x1), (2, .int x2), (3, .int x3), (4, .int x4), (5, .int x5), (6, .int x6), (7, .int x7), (8, .int x8), (9, .int x9), (10, .int x10)] [] M (s_m11_worth_207 k118 k135 r0 x1 x2 x3 x4 x5 x6 x7 x8 x9 x10 M) := by
  intro r0 x1 x2 x3 x4 x5 x6 x7 x8 x9 x10 M
  unfold s_m11_worth_207
  refine Sm.iinc (v := x10 + 1) (lv' := [(10, .int (x10 + 1)), (0, rv V.1 r0), (1, .int x1), (2, .int x2), (3, .int x3), (4, .int x4), (5, .int x5), (6, .int x6), (7, .int x7), (8, .int x8), (9, .int x9)]) hC d_m11_worth_207 10 rfl rfl (by decide) rfl ?_
  refine Sm.goto (tgt := 135) hC d_m11_worth_210 (by decide) ?_
  refine Sm.sub [1, 2, 3, 4, 5, 6, 7, 8, 9, 10, 0] rfl ?_
  exact hk135 r0 x1 x2 x3 x4 x5 x6 x7 x8 x9 (x10 + 1) M
set_option maxRecDepth 100000 in
set_option maxHeartbeats 4000000 in
theorem w_m11_worth_135 {V : Ev} {C : Cx} {n0 : Nat} (hC : Cok V C y_m11_worth.cls b_m11_worth 11 n0 (some .int) y_m11_worth.name) (hR : cR C = rm_m11_worth) (k118 : Nat → Int32 → Int32 → Int32 → Int32 → Int32 → Int32 → Int32 → Mm → Option (Int32 × Mm)) (hk118 : ∀ (r0 : Nat) (x1 : Int32) (x2 : Int32) (x3 : Int32) (x4 : Int32) (x5 : Int32) (x6 : Int32) (x7 : Int32) (M : Mm), Sm V C 11 n0 n0 (qI V C) 118 [(0, rv V.1 r0), (1, .int x1), (2, .int x2), (3, .int x3), (4, .int x4), (5, .int x5), (6, .int x6), (7, .int x7)] [] M (k118 r0 x1 x2 x3 x4 x5 x6 x7 M)) : ∀ (n : Nat) (r0 : Nat) (x1 : Int32) (x2 : Int32) (x3 : Int32) (x4 : Int32) (x5 : Int32) (x6 : Int32) (x7 : Int32) (x8 : Int32) (x9 : Int32) (x10 : Int32) (M : Mm), Sm V C 11 n0 n0 (qI V C) 135 [(0, rv V.1 r0), (1, .int x1), (2, .int x2), (3, .int x3), (4, .int x4), (5, .int x5), (6, .int x6), (7, .int x7), (8, .int x8), (9, .int x9), (10, .int x10)] [] M (s_m11_worth_135 k118 n r0 x1 x2 x3 x4 x5 x6 x7 x8 x9 x10 M) := by
  intro n
  induction n with
  | zero => exact fun r0 x1 x2 x3 x4 x5 x6 x7 x8 x9 x10 M => Sm.none_
  | succ n ih =>
    intro r0 x1 x2 x3 x4 x5 x6 x7 x8 x9 x10 M
    unfold s_m11_worth_135
    refine Sm.iload hC d_m11_worth_135 10 rfl ?_
    refine Sm.iload_n hC d_m11_worth_137 rfl 3 rfl ?_
    refine Sm.icmp_ge (tgt := 213) hC d_m11_worth_138 (by decide) ?_ ?_
    · refine Sm.iload hC d_m11_worth_213 9 rfl ?_
      refine Sm.aload_n hC d_m11_worth_215 rfl 0 rfl ?_
      refine Sm.getR hC fl_m11_19 rfl d_m11_worth_216 (fun v1 => ?_)
      refine Sm.iload_n hC d_m11_worth_219 rfl 1 rfl ?_
      refine Sm.iald hC d_m11_worth_220 (fun v2 => ?_)
      refine Sm.iload_n hC d_m11_worth_221 rfl 2 rfl ?_
      refine Sm.imul hC d_m11_worth_222 ?_
      refine Sm.icmp_gt (tgt := 262) hC d_m11_worth_223 (by decide) ?_ ?_
      · refine Sm.sub [0, 1, 2, 3, 4, 5, 6, 7] rfl ?_
        exact w_m11_worth_262 hC hR k118 hk118 r0 x1 x2 x3 x4 x5 x6 x7 M
      · refine Sm.iload hC d_m11_worth_226 8 rfl ?_
        refine Sm.iload hC d_m11_worth_228 5 rfl ?_
        refine Sm.icmp_lt (tgt := 262) hC d_m11_worth_230 (by decide) ?_ ?_
        · refine Sm.sub [0, 1, 2, 3, 4, 5, 6, 7] rfl ?_
          exact w_m11_worth_262 hC hR k118 hk118 r0 x1 x2 x3 x4 x5 x6 x7 M
        · refine Sm.iload hC d_m11_worth_233 8 rfl ?_
          refine Sm.iload hC d_m11_worth_235 5 rfl ?_
          refine Sm.icmp_ne (tgt := 250) hC d_m11_worth_237 (by decide) ?_ ?_
          · refine Sm.sub [0, 1, 2, 3, 7, 8, 9] rfl ?_
            exact w_m11_worth_250 hC hR k118 hk118 r0 x1 x2 x3 x7 x8 x9 M
          · refine Sm.iload hC d_m11_worth_240 9 rfl ?_
            refine Sm.iload hC d_m11_worth_242 6 rfl ?_
            refine Sm.icmp_lt (tgt := 250) hC d_m11_worth_244 (by decide) ?_ ?_
            · refine Sm.sub [0, 1, 2, 3, 7, 8, 9] rfl ?_
              exact w_m11_worth_250 hC hR k118 hk118 r0 x1 x2 x3 x7 x8 x9 M
            · refine Sm.goto (tgt := 262) hC d_m11_worth_247 (by decide) ?_
              refine Sm.sub [0, 1, 2, 3, 4, 5, 6, 7] rfl ?_
              exact w_m11_worth_262 hC hR k118 hk118 r0 x1 x2 x3 x4 x5 x6 x7 M
    · refine Sm.iload hC d_m11_worth_141 7 rfl ?_
      refine Sm.iload hC d_m11_worth_143 10 rfl ?_
      refine Sm.ishr hC d_m11_worth_145 ?_
      refine Sm.iconst (v := 1) hC d_m11_worth_146 (by decide) ?_
      refine Sm.iand hC d_m11_worth_147 ?_
      refine Sm.if_ne (tgt := 154) hC d_m11_worth_148 (by decide) ?_ ?_
      · refine Sm.iload hC d_m11_worth_154 8 rfl ?_
        refine Sm.aload_n hC d_m11_worth_156 rfl 0 rfl ?_
        refine Sm.aload_n hC d_m11_worth_157 rfl 0 rfl ?_
        refine Sm.getR hC fl_m11_128 rfl d_m11_worth_158 (fun v3 => ?_)
        refine Sm.iload hC d_m11_worth_161 10 rfl ?_
        refine Sm.iald hC d_m11_worth_163 (fun v4 => ?_)
        refine Sm.callVi 11 (As := [.int v4]) (st := [.int x8]) hC hR cw_m11_rankOf (tw_i 1142 (by decide +kernel)) (tw_i 1144 (by decide +kernel)) (tw_i 36 (by decide +kernel)) ⟨_, rfl, rfl⟩ (fun r9 M9 h9 => ok_m11_rankOf h9) rfl rfl (RW.of ⟨rfl, rfl, by decide, by decide⟩) (by simp) d_m11_worth_164 (fun v5 M6 => ?_)
        refine Sm.iconst (v := 1) hC d_m11_worth_167 (by decide) ?_
        refine Sm.iadd hC d_m11_worth_168 ?_
        refine Sm.iadd hC d_m11_worth_169 ?_
        refine Sm.istore (lv' := [(8, .int (x8 + (v5 + (1 : Int32)))), (0, rv V.1 r0), (1, .int x1), (2, .int x2), (3, .int x3), (4, .int x4), (5, .int x5), (6, .int x6), (7, .int x7), (9, .int x9), (10, .int x10)]) hC d_m11_worth_170 (by decide) rfl ?_
        refine Sm.iload hC d_m11_worth_172 9 rfl ?_
        refine Sm.aload_n hC d_m11_worth_174 rfl 1 rfl ?_
        refine Sm.getR hC fl_m11_34 rfl d_m11_worth_175 (fun v7 => ?_)
        refine Sm.aload_n hC d_m11_worth_178 rfl 1 rfl ?_
        refine Sm.getR hC fl_m11_128 rfl d_m11_worth_179 (fun v8 => ?_)
        refine Sm.iload hC d_m11_worth_182 10 rfl ?_
        refine Sm.iald hC d_m11_worth_184 (fun v9 => ?_)
        refine Sm.iald hC d_m11_worth_185 (fun v10 => ?_)
        refine Sm.aload_n hC d_m11_worth_186 rfl 1 rfl ?_
        refine Sm.getR hC fl_m11_85 rfl d_m11_worth_187 (fun v11 => ?_)
        refine Sm.bipush (v := 40) hC d_m11_worth_190 (by decide) ?_
        refine Sm.iload_n hC d_m11_worth_192 rfl 2 rfl ?_
        refine Sm.imul hC d_m11_worth_193 ?_
        refine Sm.aload_n hC d_m11_worth_194 rfl 1 rfl ?_
        refine Sm.getR hC fl_m11_128 rfl d_m11_worth_195 (fun v12 => ?_)
        refine Sm.iload hC d_m11_worth_198 10 rfl ?_
        refine Sm.iald hC d_m11_worth_200 (fun v13 => ?_)
        refine Sm.iadd hC d_m11_worth_201 ?_
        refine Sm.iald hC d_m11_worth_202 (fun v14 => ?_)
        refine Sm.isub hC d_m11_worth_203 ?_
        refine Sm.iadd hC d_m11_worth_204 ?_
        refine Sm.istore (lv' := [(9, .int (x9 + (v10 - v14))), (8, .int (x8 + (v5 + (1 : Int32)))), (0, rv V.1 r0), (1, .int x1), (2, .int x2), (3, .int x3), (4, .int x4), (5, .int x5), (6, .int x6), (7, .int x7), (10, .int x10)]) hC d_m11_worth_205 (by decide) rfl ?_
        refine Sm.sub [2, 3, 4, 5, 6, 7, 8, 9, 1, 0, 10] rfl ?_
        exact w_m11_worth_207 hC hR k118 (s_m11_worth_135 k118 n) hk118 ih r0 x1 x2 x3 x4 x5 x6 x7 (x8 + (v5 + (1 : Int32))) (x9 + (v10 - v14)) x10 M6
      · refine Sm.goto (tgt := 207) hC d_m11_worth_151 (by decide) ?_
        exact w_m11_worth_207 hC hR k118 (s_m11_worth_135 k118 n) hk118 ih r0 x1 x2 x3 x4 x5 x6 x7 x8 x9 x10 M
set_option maxRecDepth 100000 in
set_option maxHeartbeats 4000000 in
theorem w_m11_worth_118 {V : Ev} {C : Cx} {n0 : Nat} (hC : Cok V C y_m11_worth.cls b_m11_worth 11 n0 (some .int) y_m11_worth.name) (hR : cR C = rm_m11_worth)  : ∀ (n : Nat) (r0 : Nat) (x1 : Int32) (x2 : Int32) (x3 : Int32) (x4 : Int32) (x5 : Int32) (x6 : Int32) (x7 : Int32) (M : Mm), Sm V C 11 n0 n0 (qI V C) 118 [(0, rv V.1 r0), (1, .int x1), (2, .int x2), (3, .int x3), (4, .int x4), (5, .int x5), (6, .int x6), (7, .int x7)] [] M (s_m11_worth_118 n r0 x1 x2 x3 x4 x5 x6 x7 M) := by
  intro n
  induction n with
  | zero => exact fun r0 x1 x2 x3 x4 x5 x6 x7 M => Sm.none_
  | succ n ih =>
    intro r0 x1 x2 x3 x4 x5 x6 x7 M
    unfold s_m11_worth_118
    refine Sm.iload hC d_m11_worth_118 7 rfl ?_
    refine Sm.iconst (v := 1) hC d_m11_worth_120 (by decide) ?_
    refine Sm.iload_n hC d_m11_worth_121 rfl 3 rfl ?_
    refine Sm.ishl hC d_m11_worth_122 ?_
    refine Sm.icmp_ge (tgt := 268) hC d_m11_worth_123 (by decide) ?_ ?_
    · refine Sm.aload_n hC d_m11_worth_268 rfl 0 rfl ?_
      refine Sm.iload hC d_m11_worth_269 4 rfl ?_
      refine Sm.putI hC fl_m11_304 rfl d_m11_worth_271 (fun M1 => ?_)
      refine Sm.iload hC d_m11_worth_274 5 rfl ?_
      exact Sm.iret hC d_m11_worth_276 rfl (Nat.sub_self _)
    · refine Sm.iconst (v := 0) hC d_m11_worth_126 (by decide) ?_
      refine Sm.istore (lv' := [(8, .int (0 : Int32)), (0, rv V.1 r0), (1, .int x1), (2, .int x2), (3, .int x3), (4, .int x4), (5, .int x5), (6, .int x6), (7, .int x7)]) hC d_m11_worth_127 (by decide) rfl ?_
      refine Sm.iconst (v := 0) hC d_m11_worth_129 (by decide) ?_
      refine Sm.istore (lv' := [(9, .int (0 : Int32)), (8, .int (0 : Int32)), (0, rv V.1 r0), (1, .int x1), (2, .int x2), (3, .int x3), (4, .int x4), (5, .int x5), (6, .int x6), (7, .int x7)]) hC d_m11_worth_130 (by decide) rfl ?_
      refine Sm.iconst (v := 0) hC d_m11_worth_132 (by decide) ?_
      refine Sm.istore (lv' := [(10, .int (0 : Int32)), (9, .int (0 : Int32)), (8, .int (0 : Int32)), (0, rv V.1 r0), (1, .int x1), (2, .int x2), (3, .int x3), (4, .int x4), (5, .int x5), (6, .int x6), (7, .int x7)]) hC d_m11_worth_133 (by decide) rfl ?_
      refine Sm.sub [3, 4, 5, 6, 7, 8, 9, 10, 2, 1, 0] rfl ?_
      exact w_m11_worth_135 hC hR (s_m11_worth_118 n) ih FU r0 x1 x2 x3 x4 x5 x6 x7 (0 : Int32) (0 : Int32) (0 : Int32) M
set_option maxRecDepth 100000 in
set_option maxHeartbeats 4000000 in
theorem w_m11_worth_100 {V : Ev} {C : Cx} {n0 : Nat} (hC : Cok V C y_m11_worth.cls b_m11_worth 11 n0 (some .int) y_m11_worth.name) (hR : cR C = rm_m11_worth) (k45 : Nat → Int32 → Int32 → Int32 → Int32 → Mm → Option (Int32 × Mm)) (hk45 : ∀ (r0 : Nat) (x1 : Int32) (x2 : Int32) (x3 : Int32) (x4 : Int32) (M : Mm), Sm V C 11 n0 n0 (qI V C) 45 [(0, rv V.1 r0), (1, .int x1), (2, .int x2), (3, .int x3), (4, .int x4)] [] M (k45 r0 x1 x2 x3 x4 M)) : ∀ (r0 : Nat) (x1 : Int32) (x2 : Int32) (x3 : Int32) (x4 : Int32) (M : Mm), Sm V C 11 n0 n0 (qI V C) 100 [(0, rv V.1 r0), (1, .int x1), (2, .int x2), (3, .int x3), (4, .int x4)] [] M (s_m11_worth_100 k45 r0 x1 x2 x3 x4 M) := by
  intro r0 x1 x2 x3 x4 M
  unfold s_m11_worth_100
  refine Sm.iinc (v := x4 + 1) (lv' := [(4, .int (x4 + 1)), (0, rv V.1 r0), (1, .int x1), (2, .int x2), (3, .int x3)]) hC d_m11_worth_100 4 rfl rfl (by decide) rfl ?_
  refine Sm.goto (tgt := 45) hC d_m11_worth_103 (by decide) ?_
  refine Sm.sub [1, 2, 3, 4, 0] rfl ?_
  exact hk45 r0 x1 x2 x3 (x4 + 1) M
set_option maxRecDepth 100000 in
set_option maxHeartbeats 4000000 in
theorem w_m11_worth_45 {V : Ev} {C : Cx} {n0 : Nat} (hC : Cok V C y_m11_worth.cls b_m11_worth 11 n0 (some .int) y_m11_worth.name) (hR : cR C = rm_m11_worth)  : ∀ (n : Nat) (r0 : Nat) (x1 : Int32) (x2 : Int32) (x3 : Int32) (x4 : Int32) (M : Mm), Sm V C 11 n0 n0 (qI V C) 45 [(0, rv V.1 r0), (1, .int x1), (2, .int x2), (3, .int x3), (4, .int x4)] [] M (s_m11_worth_45 n r0 x1 x2 x3 x4 M) := by
  intro n
  induction n with
  | zero => exact fun r0 x1 x2 x3 x4 M => Sm.none_
  | succ n ih =>
    intro r0 x1 x2 x3 x4 M
    unfold s_m11_worth_45
    refine Sm.iload hC d_m11_worth_45 4 rfl ?_
    refine Sm.aload_n hC d_m11_worth_47 rfl 0 rfl ?_
    refine Sm.getR hC fl_m11_76 rfl d_m11_worth_48 (fun v1 => ?_)
    refine Sm.iload_n hC d_m11_worth_51 rfl 1 rfl ?_
    refine Sm.iald hC d_m11_worth_52 (fun v2 => ?_)
    refine Sm.icmp_ge (tgt := 106) hC d_m11_worth_53 (by decide) ?_ ?_
    · refine Sm.iconst (v := 0) hC d_m11_worth_106 (by decide) ?_
      refine Sm.istore (lv' := [(4, .int (0 : Int32)), (0, rv V.1 r0), (1, .int x1), (2, .int x2), (3, .int x3)]) hC d_m11_worth_107 (by decide) rfl ?_
      refine Sm.iconst (v := 0) hC d_m11_worth_109 (by decide) ?_
      refine Sm.istore (lv' := [(5, .int (0 : Int32)), (4, .int (0 : Int32)), (0, rv V.1 r0), (1, .int x1), (2, .int x2), (3, .int x3)]) hC d_m11_worth_110 (by decide) rfl ?_
      refine Sm.iconst (v := 0) hC d_m11_worth_112 (by decide) ?_
      refine Sm.istore (lv' := [(6, .int (0 : Int32)), (5, .int (0 : Int32)), (4, .int (0 : Int32)), (0, rv V.1 r0), (1, .int x1), (2, .int x2), (3, .int x3)]) hC d_m11_worth_113 (by decide) rfl ?_
      refine Sm.iconst (v := 0) hC d_m11_worth_115 (by decide) ?_
      refine Sm.istore (lv' := [(7, .int (0 : Int32)), (6, .int (0 : Int32)), (5, .int (0 : Int32)), (4, .int (0 : Int32)), (0, rv V.1 r0), (1, .int x1), (2, .int x2), (3, .int x3)]) hC d_m11_worth_116 (by decide) rfl ?_
      refine Sm.sub [4, 5, 6, 7, 3, 2, 1, 0] rfl ?_
      exact w_m11_worth_118 hC hR FU r0 x1 x2 x3 (0 : Int32) (0 : Int32) (0 : Int32) (0 : Int32) M
    · refine Sm.aload_n hC d_m11_worth_56 rfl 0 rfl ?_
      refine Sm.getR hC fl_m11_79 rfl d_m11_worth_57 (fun v3 => ?_)
      refine Sm.bipush (v := 40) hC d_m11_worth_60 (by decide) ?_
      refine Sm.iload_n hC d_m11_worth_62 rfl 1 rfl ?_
      refine Sm.imul hC d_m11_worth_63 ?_
      refine Sm.iload hC d_m11_worth_64 4 rfl ?_
      refine Sm.iadd hC d_m11_worth_66 ?_
      refine Sm.iald hC d_m11_worth_67 (fun v4 => ?_)
      refine Sm.istore (lv' := [(5, .int v4), (0, rv V.1 r0), (1, .int x1), (2, .int x2), (3, .int x3), (4, .int x4)]) hC d_m11_worth_68 (by decide) rfl ?_
      refine Sm.aload_n hC d_m11_worth_70 rfl 1 rfl ?_
      refine Sm.getR hC fl_m11_88 rfl d_m11_worth_71 (fun v5 => ?_)
      refine Sm.bipush (v := 40) hC d_m11_worth_74 (by decide) ?_
      refine Sm.iload_n hC d_m11_worth_76 rfl 2 rfl ?_
      refine Sm.imul hC d_m11_worth_77 ?_
      refine Sm.iload hC d_m11_worth_78 0 rfl ?_
      refine Sm.iadd hC d_m11_worth_80 ?_
      refine Sm.iald hC d_m11_worth_81 (fun v6 => ?_)
      refine Sm.iconst (v := -1) hC d_m11_worth_82 (by decide) ?_
      refine Sm.icmp_eq (tgt := 89) hC d_m11_worth_83 (by decide) ?_ ?_
      · refine Sm.aload_n hC d_m11_worth_89 rfl 1 rfl ?_
        refine Sm.getR hC fl_m11_128 rfl d_m11_worth_90 (fun v7 => ?_)
        refine Sm.iload_n hC d_m11_worth_93 rfl 4 rfl ?_
        refine Sm.iload hC d_m11_worth_94 0 rfl ?_
        refine Sm.iast hC d_m11_worth_96 (fun M8 => ?_)
        refine Sm.iinc (v := x3 + 1) (lv' := [(3, .int (x3 + 1)), (5, .int v4), (0, rv V.1 r0), (1, .int x1), (2, .int x2), (4, .int x4)]) hC d_m11_worth_97 4 rfl rfl (by decide) rfl ?_
        refine Sm.sub [2, 3, 4, 0, 5] rfl ?_
        exact w_m11_worth_100 hC hR (s_m11_worth_45 n) ih r0 x1 x2 (x3 + 1) x4 M8
      · refine Sm.goto (tgt := 100) hC d_m11_worth_86 (by decide) ?_
        refine Sm.sub [1, 2, 3, 4, 5] rfl ?_
        exact w_m11_worth_100 hC hR (s_m11_worth_45 n) ih r0 x1 x2 x3 x4 M
set_option maxRecDepth 100000 in
set_option maxHeartbeats 4000000 in
theorem ok_m11_worth {l : Launch} {V : Ev} {M M' : Mm} {r : Int32} {r0 : Nat} {a1 : Int32} {a2 : Int32} (h : s_m11_worth r0 a1 a2 M = some (r, M')) : Met l y_m11_worth (Cond.code y_m11_worth b_m11_worth 11 (some .int) :: TW) rm_m11_worth (va_Pc [rv V.1 r0, .int a1, .int a2] (Wd V M)) (QC V (some (.int r)) M' 0) 0 0 (Af V) := by
  refine met_of (fun x : Int32 => some (.int x)) (lv0 := [(0, rv V.1 r0), (1, .int a1), (2, .int a2)]) (by decide) (by simp [lg_sl, cat_rv, cat_i, cat_l, cat_f]) (by simp [lv_args, cat_rv, cat_i, cat_l, cat_f]) (fun C hl hR hC => ?_) h
  subst hl
  generalize mN M = n0 at hC ⊢
  unfold s_m11_worth
  refine Sm.aload_n hC d_m11_worth_0 rfl 0 rfl ?_
  refine Sm.iload_n hC d_m11_worth_1 rfl 1 rfl ?_
  refine Sm.callVi 11 (As := [.int a1]) (st := []) hC hR cw_m11_isWire (tw_i 1161 (by decide +kernel)) (tw_i 1163 (by decide +kernel)) (tw_i 38 (by decide +kernel)) ⟨_, rfl, rfl⟩ (fun r9 M9 h9 => ok_m11_isWire h9) rfl rfl (RW.of ⟨rfl, rfl, by decide, by decide⟩) (by simp) d_m11_worth_2 (fun v1 M2 => ?_)
  refine Sm.if_ne (tgt := 15) hC d_m11_worth_5 (by decide) ?_ ?_
  · refine Sm.iload_n hC d_m11_worth_15 rfl 2 rfl ?_
    refine Sm.if_ge (tgt := 26) hC d_m11_worth_16 (by decide) ?_ ?_
    · refine Sm.iload_n hC d_m11_worth_26 rfl 2 rfl ?_
      refine Sm.sipush (v := 1000) hC d_m11_worth_27 (by decide) ?_
      refine Sm.icmp_le (tgt := 40) hC d_m11_worth_30 (by decide) ?_ ?_
      · refine Sm.iconst (v := 0) hC d_m11_worth_40 (by decide) ?_
        refine Sm.istore_n (lv' := [(3, .int (0 : Int32)), (0, rv V.1 r0), (1, .int a1), (2, .int a2)]) hC d_m11_worth_41 rfl (by decide) rfl ?_
        refine Sm.iconst (v := 0) hC d_m11_worth_42 (by decide) ?_
        refine Sm.istore (lv' := [(4, .int (0 : Int32)), (3, .int (0 : Int32)), (0, rv V.1 r0), (1, .int a1), (2, .int a2)]) hC d_m11_worth_43 (by decide) rfl ?_
        refine Sm.sub [2, 3, 4, 1, 0] rfl ?_
        exact w_m11_worth_45 hC hR FU r0 a1 a2 (0 : Int32) (0 : Int32) M2
      · refine Sm.aload_n hC d_m11_worth_33 rfl 0 rfl ?_
        refine Sm.bipush (v := -7) hC d_m11_worth_34 (by decide) ?_
        refine Sm.callVi 11 (As := [.int (-7 : Int32)]) (st := []) hC hR cw_m11_refused (tw_i 1048 (by decide +kernel)) (tw_i 1050 (by decide +kernel)) (tw_i 23 (by decide +kernel)) ⟨_, rfl, rfl⟩ (fun r9 M9 h9 => ok_m11_refused h9) rfl rfl (RW.of ⟨rfl, rfl, by decide, by decide⟩) (by simp) d_m11_worth_36 (fun v3 M4 => ?_)
        exact Sm.iret hC d_m11_worth_39 rfl (Nat.sub_self _)
    · refine Sm.aload_n hC d_m11_worth_19 rfl 0 rfl ?_
      refine Sm.bipush (v := -4) hC d_m11_worth_20 (by decide) ?_
      refine Sm.callVi 11 (As := [.int (-4 : Int32)]) (st := []) hC hR cw_m11_refused (tw_i 1048 (by decide +kernel)) (tw_i 1050 (by decide +kernel)) (tw_i 23 (by decide +kernel)) ⟨_, rfl, rfl⟩ (fun r9 M9 h9 => ok_m11_refused h9) rfl rfl (RW.of ⟨rfl, rfl, by decide, by decide⟩) (by simp) d_m11_worth_22 (fun v5 M6 => ?_)
      exact Sm.iret hC d_m11_worth_25 rfl (Nat.sub_self _)
  · refine Sm.aload_n hC d_m11_worth_8 rfl 0 rfl ?_
    refine Sm.bipush (v := -3) hC d_m11_worth_9 (by decide) ?_
    refine Sm.callVi 11 (As := [.int (-3 : Int32)]) (st := []) hC hR cw_m11_refused (tw_i 1048 (by decide +kernel)) (tw_i 1050 (by decide +kernel)) (tw_i 23 (by decide +kernel)) ⟨_, rfl, rfl⟩ (fun r9 M9 h9 => ok_m11_refused h9) rfl rfl (RW.of ⟨rfl, rfl, by decide, by decide⟩) (by simp) d_m11_worth_11 (fun v7 M8 => ?_)
    exact Sm.iret hC d_m11_worth_14 rfl (Nat.sub_self _)
/-! NewsWireModel.plan()I -/
abbrev b_m11_plan : ByteArray := prog_13_method_61_code
def y_m11_plan : MethodName := ⟨"NewsWireModel", "plan", "()I"⟩
def rm_m11_plan : Room := { frames := 1, cells := 0, slots := 0, locals := 60 }
theorem cw_m11_plan : CW y_m11_plan b_m11_plan 1 (some .int) 0 := ⟨tw_i 66 (by decide +kernel), tw_i 1276 (by decide +kernel), by decide, by decide, by decide +kernel⟩
theorem d_m11_plan_0 : decode b_m11_plan 0 = .ok (.aload_n 0, 1) := by decide +kernel
theorem d_m11_plan_1 : decode b_m11_plan 1 = .ok (.getfield 304, 3) := by decide +kernel
theorem d_m11_plan_4 : decode b_m11_plan 4 = .ok (.ireturn, 1) := by decide +kernel
def s_m11_plan (r0 : Nat) (M : Mm) : Option (Int32 × Mm) := gI M r0 21 56 (fun v1 => some (v1, M))
set_option maxRecDepth 100000 in
set_option maxHeartbeats 4000000 in
theorem ok_m11_plan {l : Launch} {V : Ev} {M M' : Mm} {r : Int32} {r0 : Nat} (h : s_m11_plan r0 M = some (r, M')) : Met l y_m11_plan (Cond.code y_m11_plan b_m11_plan 1 (some .int) :: TW) rm_m11_plan (va_Pc [rv V.1 r0] (Wd V M)) (QC V (some (.int r)) M' 0) 0 0 (Af V) := by
  refine met_of (fun x : Int32 => some (.int x)) (lv0 := [(0, rv V.1 r0)]) (by decide) (by simp [lg_sl, cat_rv, cat_i, cat_l, cat_f]) (by simp [lv_args, cat_rv, cat_i, cat_l, cat_f]) (fun C hl hR hC => ?_) h
  subst hl
  generalize mN M = n0 at hC ⊢
  unfold s_m11_plan
  refine Sm.aload_n hC d_m11_plan_0 rfl 0 rfl ?_
  refine Sm.getI hC fl_m11_304 rfl d_m11_plan_1 (fun v1 => ?_)
  exact Sm.iret hC d_m11_plan_4 rfl (Nat.sub_self _)
/-! NewsWireModel.count(I)I -/
abbrev b_m11_count : ByteArray := prog_13_method_62_code
def y_m11_count : MethodName := ⟨"NewsWireModel", "count", "(I)I"⟩
def rm_m11_count : Room := { frames := 2, cells := 0, slots := 0, locals := 81 }
theorem cw_m11_count : CW y_m11_count b_m11_count 2 (some .int) 1 := ⟨tw_i 66 (by decide +kernel), tw_i 1280 (by decide +kernel), by decide, by decide, by decide +kernel⟩
theorem d_m11_count_0 : decode b_m11_count 0 = .ok (.iload_n 1, 1) := by decide +kernel
theorem d_m11_count_1 : decode b_m11_count 1 = .ok (.tableswitch 87 0 7 #[47, 52, 57, 62, 67, 72, 77, 82], 47) := by decide +kernel
theorem d_m11_count_48 : decode b_m11_count 48 = .ok (.aload_n 0, 1) := by decide +kernel
theorem d_m11_count_49 : decode b_m11_count 49 = .ok (.getfield 211, 3) := by decide +kernel
theorem d_m11_count_52 : decode b_m11_count 52 = .ok (.ireturn, 1) := by decide +kernel
theorem d_m11_count_53 : decode b_m11_count 53 = .ok (.aload_n 0, 1) := by decide +kernel
theorem d_m11_count_54 : decode b_m11_count 54 = .ok (.getfield 146, 3) := by decide +kernel
theorem d_m11_count_57 : decode b_m11_count 57 = .ok (.ireturn, 1) := by decide +kernel
theorem d_m11_count_58 : decode b_m11_count 58 = .ok (.aload_n 0, 1) := by decide +kernel
theorem d_m11_count_59 : decode b_m11_count 59 = .ok (.getfield 143, 3) := by decide +kernel
theorem d_m11_count_62 : decode b_m11_count 62 = .ok (.ireturn, 1) := by decide +kernel
theorem d_m11_count_63 : decode b_m11_count 63 = .ok (.aload_n 0, 1) := by decide +kernel
theorem d_m11_count_64 : decode b_m11_count 64 = .ok (.getfield 199, 3) := by decide +kernel
theorem d_m11_count_67 : decode b_m11_count 67 = .ok (.ireturn, 1) := by decide +kernel
theorem d_m11_count_68 : decode b_m11_count 68 = .ok (.aload_n 0, 1) := by decide +kernel
theorem d_m11_count_69 : decode b_m11_count 69 = .ok (.getfield 160, 3) := by decide +kernel
theorem d_m11_count_72 : decode b_m11_count 72 = .ok (.ireturn, 1) := by decide +kernel
theorem d_m11_count_73 : decode b_m11_count 73 = .ok (.aload_n 0, 1) := by decide +kernel
theorem d_m11_count_74 : decode b_m11_count 74 = .ok (.getfield 253, 3) := by decide +kernel
theorem d_m11_count_77 : decode b_m11_count 77 = .ok (.ireturn, 1) := by decide +kernel
theorem d_m11_count_78 : decode b_m11_count 78 = .ok (.aload_n 0, 1) := by decide +kernel
theorem d_m11_count_79 : decode b_m11_count 79 = .ok (.getfield 243, 3) := by decide +kernel
theorem d_m11_count_82 : decode b_m11_count 82 = .ok (.ireturn, 1) := by decide +kernel
theorem d_m11_count_83 : decode b_m11_count 83 = .ok (.aload_n 0, 1) := by decide +kernel
theorem d_m11_count_84 : decode b_m11_count 84 = .ok (.getfield 237, 3) := by decide +kernel
theorem d_m11_count_87 : decode b_m11_count 87 = .ok (.ireturn, 1) := by decide +kernel
theorem d_m11_count_88 : decode b_m11_count 88 = .ok (.aload_n 0, 1) := by decide +kernel
theorem d_m11_count_89 : decode b_m11_count 89 = .ok (.bipush (-7), 2) := by decide +kernel
theorem d_m11_count_91 : decode b_m11_count 91 = .ok (.invokevirtual 139, 3) := by decide +kernel
theorem d_m11_count_94 : decode b_m11_count 94 = .ok (.ireturn, 1) := by decide +kernel
def s_m11_count (r0 : Nat) (a1 : Int32) (M : Mm) : Option (Int32 × Mm) := (if a1 = 0 then gI M r0 21 31 (fun v1 => some (v1, M)) else if a1 = 1 then gI M r0 21 2 (fun v2 => some (v2, M)) else if a1 = 2 then gI M r0 21 6 (fun v3 => some (v3, M)) else if a1 = 3 then gI M r0 21 17 (fun v4 => some (v4, M)) else if a1 = 4 then gI M r0 21 26 (fun v5 => some (v5, M)) else if a1 = 5 then gI M r0 21 42 (fun v6 => some (v6, M)) else if a1 = 6 then gI M r0 21 43 (fun v7 => some (v7, M)) else if a1 = 7 then gI M r0 21 39 (fun v8 => some (v8, M)) else cl (has M r0 21) (s_m11_refused r0 (-7 : Int32) M) (fun v9 M10 => some (v9, M10)))
set_option maxRecDepth 100000 in
set_option maxHeartbeats 4000000 in
theorem ok_m11_count {l : Launch} {V : Ev} {M M' : Mm} {r : Int32} {r0 : Nat} {a1 : Int32} (h : s_m11_count r0 a1 M = some (r, M')) : Met l y_m11_count (Cond.code y_m11_count b_m11_count 2 (some .int) :: TW) rm_m11_count (va_Pc [rv V.1 r0, .int a1] (Wd V M)) (QC V (some (.int r)) M' 0) 0 0 (Af V) := by
  refine met_of (fun x : Int32 => some (.int x)) (lv0 := [(0, rv V.1 r0), (1, .int a1)]) (by decide) (by simp [lg_sl, cat_rv, cat_i, cat_l, cat_f]) (by simp [lv_args, cat_rv, cat_i, cat_l, cat_f]) (fun C hl hR hC => ?_) h
  subst hl
  generalize mN M = n0 at hC ⊢
  unfold s_m11_count
  refine Sm.iload_n hC d_m11_count_0 rfl 1 rfl ?_
  refine Sm.if_ (fun h9 => ?_) (fun h1_0 => ?_)
  · refine Sm.tswIn (tgt := 48) hC d_m11_count_1 (by rw [h9]; decide) (by rw [h9]; decide) (by rw [h9] <;> rfl) (by decide) ?_
    refine Sm.aload_n hC d_m11_count_48 rfl 0 rfl ?_
    refine Sm.getI hC fl_m11_211 rfl d_m11_count_49 (fun v1 => ?_)
    exact Sm.iret hC d_m11_count_52 rfl (Nat.sub_self _)
  refine Sm.if_ (fun h9 => ?_) (fun h1_1 => ?_)
  · refine Sm.tswIn (tgt := 53) hC d_m11_count_1 (by rw [h9]; decide) (by rw [h9]; decide) (by rw [h9] <;> rfl) (by decide) ?_
    refine Sm.aload_n hC d_m11_count_53 rfl 0 rfl ?_
    refine Sm.getI hC fl_m11_146 rfl d_m11_count_54 (fun v2 => ?_)
    exact Sm.iret hC d_m11_count_57 rfl (Nat.sub_self _)
  refine Sm.if_ (fun h9 => ?_) (fun h1_2 => ?_)
  · refine Sm.tswIn (tgt := 58) hC d_m11_count_1 (by rw [h9]; decide) (by rw [h9]; decide) (by rw [h9] <;> rfl) (by decide) ?_
    refine Sm.aload_n hC d_m11_count_58 rfl 0 rfl ?_
    refine Sm.getI hC fl_m11_143 rfl d_m11_count_59 (fun v3 => ?_)
    exact Sm.iret hC d_m11_count_62 rfl (Nat.sub_self _)
  refine Sm.if_ (fun h9 => ?_) (fun h1_3 => ?_)
  · refine Sm.tswIn (tgt := 63) hC d_m11_count_1 (by rw [h9]; decide) (by rw [h9]; decide) (by rw [h9] <;> rfl) (by decide) ?_
    refine Sm.aload_n hC d_m11_count_63 rfl 0 rfl ?_
    refine Sm.getI hC fl_m11_199 rfl d_m11_count_64 (fun v4 => ?_)
    exact Sm.iret hC d_m11_count_67 rfl (Nat.sub_self _)
  refine Sm.if_ (fun h9 => ?_) (fun h1_4 => ?_)
  · refine Sm.tswIn (tgt := 68) hC d_m11_count_1 (by rw [h9]; decide) (by rw [h9]; decide) (by rw [h9] <;> rfl) (by decide) ?_
    refine Sm.aload_n hC d_m11_count_68 rfl 0 rfl ?_
    refine Sm.getI hC fl_m11_160 rfl d_m11_count_69 (fun v5 => ?_)
    exact Sm.iret hC d_m11_count_72 rfl (Nat.sub_self _)
  refine Sm.if_ (fun h9 => ?_) (fun h1_5 => ?_)
  · refine Sm.tswIn (tgt := 73) hC d_m11_count_1 (by rw [h9]; decide) (by rw [h9]; decide) (by rw [h9] <;> rfl) (by decide) ?_
    refine Sm.aload_n hC d_m11_count_73 rfl 0 rfl ?_
    refine Sm.getI hC fl_m11_253 rfl d_m11_count_74 (fun v6 => ?_)
    exact Sm.iret hC d_m11_count_77 rfl (Nat.sub_self _)
  refine Sm.if_ (fun h9 => ?_) (fun h1_6 => ?_)
  · refine Sm.tswIn (tgt := 78) hC d_m11_count_1 (by rw [h9]; decide) (by rw [h9]; decide) (by rw [h9] <;> rfl) (by decide) ?_
    refine Sm.aload_n hC d_m11_count_78 rfl 0 rfl ?_
    refine Sm.getI hC fl_m11_243 rfl d_m11_count_79 (fun v7 => ?_)
    exact Sm.iret hC d_m11_count_82 rfl (Nat.sub_self _)
  refine Sm.if_ (fun h9 => ?_) (fun h1_7 => ?_)
  · refine Sm.tswIn (tgt := 83) hC d_m11_count_1 (by rw [h9]; decide) (by rw [h9]; decide) (by rw [h9] <;> rfl) (by decide) ?_
    refine Sm.aload_n hC d_m11_count_83 rfl 0 rfl ?_
    refine Sm.getI hC fl_m11_237 rfl d_m11_count_84 (fun v8 => ?_)
    exact Sm.iret hC d_m11_count_87 rfl (Nat.sub_self _)
  refine Sm.tswOut (tgt := 88) hC d_m11_count_1 (out_of (n := 8) (by decide) (fun i hi => by
      match i, hi with
      | 0, _ => exact h1_0
      | 1, _ => exact h1_1
      | 2, _ => exact h1_2
      | 3, _ => exact h1_3
      | 4, _ => exact h1_4
      | 5, _ => exact h1_5
      | 6, _ => exact h1_6
      | 7, _ => exact h1_7)) (by decide) ?_
  refine Sm.aload_n hC d_m11_count_88 rfl 0 rfl ?_
  refine Sm.bipush (v := -7) hC d_m11_count_89 (by decide) ?_
  refine Sm.callVi 11 (As := [.int (-7 : Int32)]) (st := []) hC hR cw_m11_refused (tw_i 1048 (by decide +kernel)) (tw_i 1050 (by decide +kernel)) (tw_i 23 (by decide +kernel)) ⟨_, rfl, rfl⟩ (fun r9 M9 h9 => ok_m11_refused h9) rfl rfl (RW.of ⟨rfl, rfl, by decide, by decide⟩) (by simp) d_m11_count_91 (fun v9 M10 => ?_)
  exact Sm.iret hC d_m11_count_94 rfl (Nat.sub_self _)
