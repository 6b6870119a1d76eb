/-! NewsWire$StoryText.mend(I)V -/
theorem fl_m7_96 : FL "NewsWire$StoryText" 96 3 5 0 false .int := ⟨_, _, _, _, rfl, in_c3, ty_c3, nm_c3, by decide, rfl, tw_i 312 (by decide +kernel), rfl, rfl, rfl, rfl⟩
theorem fl_m7_24 : FL "NewsWire$StoryText" 24 7 3 2 true (.array .int) := ⟨_, _, _, _, rfl, in_c7, ty_c7, nm_c7, by decide, rfl, tw_i 170 (by decide +kernel), rfl, rfl, rfl, rfl⟩
theorem fl_m7_106 : FL "NewsWire$StoryText" 106 3 0 2 true (.array .int) := ⟨_, _, _, _, rfl, in_c3, ty_c3, nm_c3, by decide, rfl, tw_i 298 (by decide +kernel), rfl, rfl, rfl, rfl⟩
theorem fl_m7_27 : FL "NewsWire$StoryText" 27 7 4 2 true (.array .int) := ⟨_, _, _, _, rfl, in_c7, ty_c7, nm_c7, by decide, rfl, tw_i 171 (by decide +kernel), rfl, rfl, rfl, rfl⟩
abbrev b_m7_mend : ByteArray := prog_9_method_10_code
def y_m7_mend : MethodName := ⟨"NewsWire$StoryText", "mend", "(I)V"⟩
def rm_m7_mend : Room := { frames := 2, cells := 0, slots := 0, locals := 81 }
theorem cw_m7_mend : CW y_m7_mend b_m7_mend 5 none 1 := ⟨tw_i 59 (by decide +kernel), tw_i 753 (by decide +kernel), by decide, by decide, by decide +kernel⟩
theorem d_m7_mend_0 : decode b_m7_mend 0 = .ok (.iconst 0, 1) := by decide +kernel
theorem d_m7_mend_1 : decode b_m7_mend 1 = .ok (.istore_n 2, 1) := by decide +kernel
theorem d_m7_mend_2 : decode b_m7_mend 2 = .ok (.iload_n 2, 1) := by decide +kernel
theorem d_m7_mend_3 : decode b_m7_mend 3 = .ok (.aload_n 0, 1) := by decide +kernel
theorem d_m7_mend_4 : decode b_m7_mend 4 = .ok (.getfield 20, 3) := by decide +kernel
theorem d_m7_mend_7 : decode b_m7_mend 7 = .ok (.iload_n 1, 1) := by decide +kernel
theorem d_m7_mend_8 : decode b_m7_mend 8 = .ok (.aaload, 1) := by decide +kernel
theorem d_m7_mend_9 : decode b_m7_mend 9 = .ok (.getfield 96, 3) := by decide +kernel
theorem d_m7_mend_12 : decode b_m7_mend 12 = .ok (.if_icmp .ge 33, 3) := by decide +kernel
theorem d_m7_mend_15 : decode b_m7_mend 15 = .ok (.aload_n 0, 1) := by decide +kernel
theorem d_m7_mend_16 : decode b_m7_mend 16 = .ok (.getfield 24, 3) := by decide +kernel
theorem d_m7_mend_19 : decode b_m7_mend 19 = .ok (.iload_n 2, 1) := by decide +kernel
theorem d_m7_mend_20 : decode b_m7_mend 20 = .ok (.aload_n 0, 1) := by decide +kernel
theorem d_m7_mend_21 : decode b_m7_mend 21 = .ok (.getfield 20, 3) := by decide +kernel
theorem d_m7_mend_24 : decode b_m7_mend 24 = .ok (.iload_n 1, 1) := by decide +kernel
theorem d_m7_mend_25 : decode b_m7_mend 25 = .ok (.aaload, 1) := by decide +kernel
theorem d_m7_mend_26 : decode b_m7_mend 26 = .ok (.getfield 106, 3) := by decide +kernel
theorem d_m7_mend_29 : decode b_m7_mend 29 = .ok (.iload_n 2, 1) := by decide +kernel
theorem d_m7_mend_30 : decode b_m7_mend 30 = .ok (.iaload, 1) := by decide +kernel
theorem d_m7_mend_31 : decode b_m7_mend 31 = .ok (.iastore, 1) := by decide +kernel
theorem d_m7_mend_32 : decode b_m7_mend 32 = .ok (.aload_n 0, 1) := by decide +kernel
theorem d_m7_mend_33 : decode b_m7_mend 33 = .ok (.getfield 27, 3) := by decide +kernel
theorem d_m7_mend_36 : decode b_m7_mend 36 = .ok (.iload_n 2, 1) := by decide +kernel
theorem d_m7_mend_37 : decode b_m7_mend 37 = .ok (.iload_n 1, 1) := by decide +kernel
theorem d_m7_mend_38 : decode b_m7_mend 38 = .ok (.iastore, 1) := by decide +kernel
theorem d_m7_mend_39 : decode b_m7_mend 39 = .ok (.iinc 2 1, 3) := by decide +kernel
theorem d_m7_mend_42 : decode b_m7_mend 42 = .ok (.goto (-40), 3) := by decide +kernel
theorem d_m7_mend_45 : decode b_m7_mend 45 = .ok (.iload_n 1, 1) := by decide +kernel
theorem d_m7_mend_46 : decode b_m7_mend 46 = .ok (.iconst 1, 1) := by decide +kernel
theorem d_m7_mend_47 : decode b_m7_mend 47 = .ok (.iadd, 1) := by decide +kernel
theorem d_m7_mend_48 : decode b_m7_mend 48 = .ok (.istore_n 2, 1) := by decide +kernel
theorem d_m7_mend_49 : decode b_m7_mend 49 = .ok (.iload_n 2, 1) := by decide +kernel
theorem d_m7_mend_50 : decode b_m7_mend 50 = .ok (.aload_n 0, 1) := by decide +kernel
theorem d_m7_mend_51 : decode b_m7_mend 51 = .ok (.getfield 20, 3) := by decide +kernel
theorem d_m7_mend_54 : decode b_m7_mend 54 = .ok (.arraylength, 1) := by decide +kernel
theorem d_m7_mend_55 : decode b_m7_mend 55 = .ok (.if_icmp .ge 102, 3) := by decide +kernel
theorem d_m7_mend_58 : decode b_m7_mend 58 = .ok (.aload_n 0, 1) := by decide +kernel
theorem d_m7_mend_59 : decode b_m7_mend 59 = .ok (.getfield 20, 3) := by decide +kernel
theorem d_m7_mend_62 : decode b_m7_mend 62 = .ok (.iload_n 2, 1) := by decide +kernel
theorem d_m7_mend_63 : decode b_m7_mend 63 = .ok (.aaload, 1) := by decide +kernel
theorem d_m7_mend_64 : decode b_m7_mend 64 = .ok (.astore_n 3, 1) := by decide +kernel
theorem d_m7_mend_65 : decode b_m7_mend 65 = .ok (.aload_n 0, 1) := by decide +kernel
theorem d_m7_mend_66 : decode b_m7_mend 66 = .ok (.iload_n 2, 1) := by decide +kernel
theorem d_m7_mend_67 : decode b_m7_mend 67 = .ok (.invokevirtual 87, 3) := by decide +kernel
theorem d_m7_mend_70 : decode b_m7_mend 70 = .ok (.ifCond .eq 81, 3) := by decide +kernel
theorem d_m7_mend_73 : decode b_m7_mend 73 = .ok (.aload_n 3, 1) := by decide +kernel
theorem d_m7_mend_74 : decode b_m7_mend 74 = .ok (.getfield 72, 3) := by decide +kernel
theorem d_m7_mend_77 : decode b_m7_mend 77 = .ok (.iconst 3, 1) := by decide +kernel
theorem d_m7_mend_78 : decode b_m7_mend 78 = .ok (.if_icmp .ne 73, 3) := by decide +kernel
theorem d_m7_mend_81 : decode b_m7_mend 81 = .ok (.aload_n 3, 1) := by decide +kernel
theorem d_m7_mend_82 : decode b_m7_mend 82 = .ok (.getfield 78, 3) := by decide +kernel
theorem d_m7_mend_85 : decode b_m7_mend 85 = .ok (.iload_n 1, 1) := by decide +kernel
theorem d_m7_mend_86 : decode b_m7_mend 86 = .ok (.if_icmp .ne 65, 3) := by decide +kernel
theorem d_m7_mend_89 : decode b_m7_mend 89 = .ok (.iconst 0, 1) := by decide +kernel
theorem d_m7_mend_90 : decode b_m7_mend 90 = .ok (.istore 4, 2) := by decide +kernel
theorem d_m7_mend_92 : decode b_m7_mend 92 = .ok (.iload 4, 2) := by decide +kernel
theorem d_m7_mend_94 : decode b_m7_mend 94 = .ok (.aload_n 3, 1) := by decide +kernel
theorem d_m7_mend_95 : decode b_m7_mend 95 = .ok (.getfield 96, 3) := by decide +kernel
theorem d_m7_mend_98 : decode b_m7_mend 98 = .ok (.if_icmp .ge 53, 3) := by decide +kernel
theorem d_m7_mend_101 : decode b_m7_mend 101 = .ok (.aload_n 3, 1) := by decide +kernel
theorem d_m7_mend_102 : decode b_m7_mend 102 = .ok (.getfield 75, 3) := by decide +kernel
theorem d_m7_mend_105 : decode b_m7_mend 105 = .ok (.iload 4, 2) := by decide +kernel
theorem d_m7_mend_107 : decode b_m7_mend 107 = .ok (.iadd, 1) := by decide +kernel
theorem d_m7_mend_108 : decode b_m7_mend 108 = .ok (.bipush 12, 2) := by decide +kernel
theorem d_m7_mend_110 : decode b_m7_mend 110 = .ok (.if_icmp .ge 41, 3) := by decide +kernel
theorem d_m7_mend_113 : decode b_m7_mend 113 = .ok (.aload_n 0, 1) := by decide +kernel
theorem d_m7_mend_114 : decode b_m7_mend 114 = .ok (.getfield 24, 3) := by decide +kernel
theorem d_m7_mend_117 : decode b_m7_mend 117 = .ok (.aload_n 3, 1) := by decide +kernel
theorem d_m7_mend_118 : decode b_m7_mend 118 = .ok (.getfield 75, 3) := by decide +kernel
theorem d_m7_mend_121 : decode b_m7_mend 121 = .ok (.iload 4, 2) := by decide +kernel
theorem d_m7_mend_123 : decode b_m7_mend 123 = .ok (.iadd, 1) := by decide +kernel
theorem d_m7_mend_124 : decode b_m7_mend 124 = .ok (.aload_n 3, 1) := by decide +kernel
theorem d_m7_mend_125 : decode b_m7_mend 125 = .ok (.getfield 106, 3) := by decide +kernel
theorem d_m7_mend_128 : decode b_m7_mend 128 = .ok (.iload 4, 2) := by decide +kernel
theorem d_m7_mend_130 : decode b_m7_mend 130 = .ok (.iaload, 1) := by decide +kernel
theorem d_m7_mend_131 : decode b_m7_mend 131 = .ok (.iastore, 1) := by decide +kernel
theorem d_m7_mend_132 : decode b_m7_mend 132 = .ok (.aload_n 0, 1) := by decide +kernel
theorem d_m7_mend_133 : decode b_m7_mend 133 = .ok (.getfield 27, 3) := by decide +kernel
theorem d_m7_mend_136 : decode b_m7_mend 136 = .ok (.aload_n 3, 1) := by decide +kernel
theorem d_m7_mend_137 : decode b_m7_mend 137 = .ok (.getfield 75, 3) := by decide +kernel
theorem d_m7_mend_140 : decode b_m7_mend 140 = .ok (.iload 4, 2) := by decide +kernel
theorem d_m7_mend_142 : decode b_m7_mend 142 = .ok (.iadd, 1) := by decide +kernel
theorem d_m7_mend_143 : decode b_m7_mend 143 = .ok (.iload_n 2, 1) := by decide +kernel
theorem d_m7_mend_144 : decode b_m7_mend 144 = .ok (.iastore, 1) := by decide +kernel
theorem d_m7_mend_145 : decode b_m7_mend 145 = .ok (.iinc 4 1, 3) := by decide +kernel
theorem d_m7_mend_148 : decode b_m7_mend 148 = .ok (.goto (-56), 3) := by decide +kernel
theorem d_m7_mend_151 : decode b_m7_mend 151 = .ok (.iinc 2 1, 3) := by decide +kernel
theorem d_m7_mend_154 : decode b_m7_mend 154 = .ok (.goto (-105), 3) := by decide +kernel
theorem d_m7_mend_157 : decode b_m7_mend 157 = .ok (.return_, 1) := by decide +kernel
def s_m7_mend_151 (k49 : Nat → Int32 → Int32 → Mm → Option (Unit × Mm)) (r0 : Nat) (x1 : Int32) (x2 : Int32) (M : Mm) : Option (Unit × Mm) := k49 r0 x1 (x2 + 1) M
def s_m7_mend_92 (k49 : Nat → Int32 → Int32 → Mm → Option (Unit × Mm)) : Nat → Nat → Int32 → Int32 → Nat → Int32 → Mm → Option (Unit × Mm)
  | 0, _, _, _, _, _, _ => none
  | n + 1, r0, x1, x2, r3, x4, M => gI M r3 13 5 (fun v1 => (if v1 ≤ x4 then s_m7_mend_151 k49 r0 x1 x2 M else gI M r3 13 7 (fun v2 => (if (12 : Int32) ≤ (v2 + x4) then s_m7_mend_151 k49 r0 x1 x2 M else gR M r0 17 3 (fun v3 => gI M r3 13 7 (fun v4 => gR M r3 13 0 (fun v5 => aI M v5 0 x4 (fun v6 => sI M v3 0 (v4 + x4) v6 (fun M7 => gR M7 r0 17 4 (fun v8 => gI M7 r3 13 7 (fun v9 => sI M7 v8 0 (v9 + x4) x2 (fun M10 => (s_m7_mend_92 k49 n) r0 x1 x2 r3 (x4 + 1) M10))))))))))))
def s_m7_mend_49  : Nat → Nat → Int32 → Int32 → Mm → Option (Unit × Mm)
  | 0, _, _, _, _ => none
  | n + 1, r0, x1, x2, M => gR M r0 17 2 (fun v1 => al M v1 3 (fun v2 => (if v2 ≤ x2 then some ((), M) else gR M r0 17 2 (fun v3 => aR M v3 3 x2 (fun v4 => cl (has M r0 17) (s_m7_isThere r0 x2 M) (fun v5 M6 => (if v5 = 0 then s_m7_mend_151 (s_m7_mend_49 n) r0 x1 x2 M6 else gI M6 v4 13 1 (fun v7 => (if ¬ v7 = (3 : Int32) then s_m7_mend_151 (s_m7_mend_49 n) r0 x1 x2 M6 else gI M6 v4 13 6 (fun v8 => (if ¬ v8 = x1 then s_m7_mend_151 (s_m7_mend_49 n) r0 x1 x2 M6 else s_m7_mend_92 (s_m7_mend_49 n) FU r0 x1 x2 v4 (0 : Int32) M6)))))))))))
def s_m7_mend_2  : Nat → Nat → Int32 → Int32 → Mm → Option (Unit × Mm)
  | 0, _, _, _, _ => none
  | n + 1, r0, x1, x2, M => gR M r0 17 2 (fun v1 => aR M v1 3 x1 (fun v2 => gI M v2 13 5 (fun v3 => (if v3 ≤ x2 then s_m7_mend_49 FU r0 x1 (x1 + (1 : Int32)) M else gR M r0 17 3 (fun v4 => gR M r0 17 2 (fun v5 => aR M v5 3 x1 (fun v6 => gR M v6 13 0 (fun v7 => aI M v7 0 x2 (fun v8 => sI M v4 0 x2 v8 (fun M9 => gR M9 r0 17 4 (fun v10 => sI M9 v10 0 x2 x1 (fun M11 => (s_m7_mend_2 n) r0 x1 (x2 + 1) M11))))))))))))
def s_m7_mend (r0 : Nat) (a1 : Int32) (M : Mm) : Option (Unit × Mm) := s_m7_mend_2 FU r0 a1 (0 : Int32) M
set_option maxRecDepth 100000 in
set_option maxHeartbeats 4000000 in
theorem w_m7_mend_151 {V : Ev} {C : Cx} {n0 : Nat} (hC : Cok V C y_m7_mend.cls b_m7_mend 5 n0 none y_m7_mend.name) (hR : cR C = rm_m7_mend) (k49 : Nat → Int32 → Int32 → Mm → Option (Unit × Mm)) (hk49 : ∀ (r0 : Nat) (x1 : Int32) (x2 : Int32) (M : Mm), Sm V C 5 n0 n0 (qV V C) 49 [(0, rv V.1 r0), (1, .int x1), (2, .int x2)] [] M (k49 r0 x1 x2 M)) : ∀ (r0 : Nat) (x1 : Int32) (x2 : Int32) (M : Mm), Sm V C 5 n0 n0 (qV V C) 151 [(0, rv V.1 r0), (1, .int x1), (2, .int x2)] [] M (s_m7_mend_151 k49 r0 x1 x2 M) := by
  intro r0 x1 x2 M
  unfold s_m7_mend_151
  refine Sm.iinc (v := x2 + 1) (lv' := [(2, .int (x2 + 1)), (0, rv V.1 r0), (1, .int x1)]) hC d_m7_mend_151 2 rfl rfl (by decide) rfl ?_
  refine Sm.goto (tgt := 49) hC d_m7_mend_154 (by decide) ?_
  refine Sm.sub [1, 2, 0] rfl ?_
  exact hk49 r0 x1 (x2 + 1) M
set_option maxRecDepth 100000 in
set_option maxHeartbeats 4000000 in
theorem w_m7_mend_92 {V : Ev} {C : Cx} {n0 : Nat} (hC : Cok V C y_m7_mend.cls b_m7_mend 5 n0 none y_m7_mend.name) (hR : cR C = rm_m7_mend) (k49 : Nat → Int32 → Int32 → Mm → Option (Unit × Mm)) (hk49 : ∀ (r0 : Nat) (x1 : Int32) (x2 : Int32) (M : Mm), Sm V C 5 n0 n0 (qV V C) 49 [(0, rv V.1 r0), (1, .int x1), (2, .int x2)] [] M (k49 r0 x1 x2 M)) : ∀ (n : Nat) (r0 : Nat) (x1 : Int32) (x2 : Int32) (r3 : Nat) (x4 : Int32) (M : Mm), Sm V C 5 n0 n0 (qV V C) 92 [(0, rv V.1 r0), (1, .int x1), (2, .int x2), (3, rv V.1 r3), (4, .int x4)] [] M (s_m7_mend_92 k49 n r0 x1 x2 r3 x4 M) := by
  intro n
  induction n with
  | zero => exact fun r0 x1 x2 r3 x4 M => Sm.none_
  | succ n ih =>
    intro r0 x1 x2 r3 x4 M
    unfold s_m7_mend_92
    refine Sm.iload hC d_m7_mend_92 4 rfl ?_
    refine Sm.aload_n hC d_m7_mend_94 rfl 3 rfl ?_
    refine Sm.getI hC fl_m7_96 rfl d_m7_mend_95 (fun v1 => ?_)
    refine Sm.icmp_ge (tgt := 151) hC d_m7_mend_98 (by decide) ?_ ?_
    · refine Sm.sub [0, 1, 2] rfl ?_
      exact w_m7_mend_151 hC hR k49 hk49 r0 x1 x2 M
    · refine Sm.aload_n hC d_m7_mend_101 rfl 3 rfl ?_
      refine Sm.getI hC fl_m7_75 rfl d_m7_mend_102 (fun v2 => ?_)
      refine Sm.iload hC d_m7_mend_105 4 rfl ?_
      refine Sm.iadd hC d_m7_mend_107 ?_
      refine Sm.bipush (v := 12) hC d_m7_mend_108 (by decide) ?_
      refine Sm.icmp_ge (tgt := 151) hC d_m7_mend_110 (by decide) ?_ ?_
      · refine Sm.sub [0, 1, 2] rfl ?_
        exact w_m7_mend_151 hC hR k49 hk49 r0 x1 x2 M
      · refine Sm.aload_n hC d_m7_mend_113 rfl 0 rfl ?_
        refine Sm.getR hC fl_m7_24 rfl d_m7_mend_114 (fun v3 => ?_)
        refine Sm.aload_n hC d_m7_mend_117 rfl 3 rfl ?_
        refine Sm.getI hC fl_m7_75 rfl d_m7_mend_118 (fun v4 => ?_)
        refine Sm.iload hC d_m7_mend_121 4 rfl ?_
        refine Sm.iadd hC d_m7_mend_123 ?_
        refine Sm.aload_n hC d_m7_mend_124 rfl 3 rfl ?_
        refine Sm.getR hC fl_m7_106 rfl d_m7_mend_125 (fun v5 => ?_)
        refine Sm.iload hC d_m7_mend_128 4 rfl ?_
        refine Sm.iald hC d_m7_mend_130 (fun v6 => ?_)
        refine Sm.iast hC d_m7_mend_131 (fun M7 => ?_)
        refine Sm.aload_n hC d_m7_mend_132 rfl 0 rfl ?_
        refine Sm.getR hC fl_m7_27 rfl d_m7_mend_133 (fun v8 => ?_)
        refine Sm.aload_n hC d_m7_mend_136 rfl 3 rfl ?_
        refine Sm.getI hC fl_m7_75 rfl d_m7_mend_137 (fun v9 => ?_)
        refine Sm.iload hC d_m7_mend_140 4 rfl ?_
        refine Sm.iadd hC d_m7_mend_142 ?_
        refine Sm.iload_n hC d_m7_mend_143 rfl 2 rfl ?_
        refine Sm.iast hC d_m7_mend_144 (fun M10 => ?_)
        refine Sm.iinc (v := x4 + 1) (lv' := [(4, .int (x4 + 1)), (0, rv V.1 r0), (1, .int x1), (2, .int x2), (3, rv V.1 r3)]) hC d_m7_mend_145 4 rfl rfl (by decide) (by simp [cat_rv]) ?_
        refine Sm.goto (tgt := 92) hC d_m7_mend_148 (by decide) ?_
        refine Sm.sub [1, 2, 3, 4, 0] rfl ?_
        exact ih r0 x1 x2 r3 (x4 + 1) M10
set_option maxRecDepth 100000 in
set_option maxHeartbeats 4000000 in
theorem w_m7_mend_49 {V : Ev} {C : Cx} {n0 : Nat} (hC : Cok V C y_m7_mend.cls b_m7_mend 5 n0 none y_m7_mend.name) (hR : cR C = rm_m7_mend)  : ∀ (n : Nat) (r0 : Nat) (x1 : Int32) (x2 : Int32) (M : Mm), Sm V C 5 n0 n0 (qV V C) 49 [(0, rv V.1 r0), (1, .int x1), (2, .int x2)] [] M (s_m7_mend_49 n r0 x1 x2 M) := by
  intro n
  induction n with
  | zero => exact fun r0 x1 x2 M => Sm.none_
  | succ n ih =>
    intro r0 x1 x2 M
    unfold s_m7_mend_49
    refine Sm.iload_n hC d_m7_mend_49 rfl 2 rfl ?_
    refine Sm.aload_n hC d_m7_mend_50 rfl 0 rfl ?_
    refine Sm.getR hC fl_m7_20 rfl d_m7_mend_51 (fun v1 => ?_)
    refine Sm.alen hC (by decide) rfl d_m7_mend_54 (fun v2 => ?_)
    refine Sm.icmp_ge (tgt := 157) hC d_m7_mend_55 (by decide) ?_ ?_
    · exact Sm.vret hC d_m7_mend_157 rfl (Nat.sub_self _)
    · refine Sm.aload_n hC d_m7_mend_58 rfl 0 rfl ?_
      refine Sm.getR hC fl_m7_20 rfl d_m7_mend_59 (fun v3 => ?_)
      refine Sm.iload_n hC d_m7_mend_62 rfl 2 rfl ?_
      refine Sm.aald (Cn := n_c3) hC ⟨by decide, by decide⟩ rfl d_m7_mend_63 (fun v4 => ?_)
      refine Sm.astore_n (lv' := [(3, rv V.1 v4), (0, rv V.1 r0), (1, .int x1), (2, .int x2)]) hC d_m7_mend_64 rfl (by decide) rfl ?_
      refine Sm.aload_n hC d_m7_mend_65 rfl 1 rfl ?_
      refine Sm.iload_n hC d_m7_mend_66 rfl 3 rfl ?_
      refine Sm.callVi 7 (As := [.int x2]) (st := []) hC hR cw_m7_isThere (tw_i 742 (by decide +kernel)) (tw_i 744 (by decide +kernel)) (tw_i 14 (by decide +kernel)) ⟨_, rfl, rfl⟩ (fun r9 M9 h9 => ok_m7_isThere h9) rfl rfl (RW.of ⟨rfl, rfl, by decide, by decide⟩) (by simp) d_m7_mend_67 (fun v5 M6 => ?_)
      refine Sm.if_eq (tgt := 151) hC d_m7_mend_70 (by decide) ?_ ?_
      · refine Sm.sub [1, 2, 3] rfl ?_
        exact w_m7_mend_151 hC hR (s_m7_mend_49 n) ih r0 x1 x2 M6
      · refine Sm.aload_n hC d_m7_mend_73 rfl 0 rfl ?_
        refine Sm.getI hC fl_m7_72 rfl d_m7_mend_74 (fun v7 => ?_)
        refine Sm.iconst (v := 3) hC d_m7_mend_77 (by decide) ?_
        refine Sm.icmp_ne (tgt := 151) hC d_m7_mend_78 (by decide) ?_ ?_
        · refine Sm.sub [1, 2, 3] rfl ?_
          exact w_m7_mend_151 hC hR (s_m7_mend_49 n) ih r0 x1 x2 M6
        · refine Sm.aload_n hC d_m7_mend_81 rfl 0 rfl ?_
          refine Sm.getI hC fl_m7_78 rfl d_m7_mend_82 (fun v8 => ?_)
          refine Sm.iload_n hC d_m7_mend_85 rfl 2 rfl ?_
          refine Sm.icmp_ne (tgt := 151) hC d_m7_mend_86 (by decide) ?_ ?_
          · refine Sm.sub [1, 2, 3] rfl ?_
            exact w_m7_mend_151 hC hR (s_m7_mend_49 n) ih r0 x1 x2 M6
          · refine Sm.iconst (v := 0) hC d_m7_mend_89 (by decide) ?_
            refine Sm.istore (lv' := [(4, .int (0 : Int32)), (3, rv V.1 v4), (0, rv V.1 r0), (1, .int x1), (2, .int x2)]) hC d_m7_mend_90 (by decide) (by simp [cat_rv]) ?_
            refine Sm.sub [2, 3, 4, 1, 0] rfl ?_
            exact w_m7_mend_92 hC hR (s_m7_mend_49 n) ih FU r0 x1 x2 v4 (0 : Int32) M6
set_option maxRecDepth 100000 in
set_option maxHeartbeats 4000000 in
theorem w_m7_mend_2 {V : Ev} {C : Cx} {n0 : Nat} (hC : Cok V C y_m7_mend.cls b_m7_mend 5 n0 none y_m7_mend.name) (hR : cR C = rm_m7_mend)  : ∀ (n : Nat) (r0 : Nat) (x1 : Int32) (x2 : Int32) (M : Mm), Sm V C 5 n0 n0 (qV V C) 2 [(0, rv V.1 r0), (1, .int x1), (2, .int x2)] [] M (s_m7_mend_2 n r0 x1 x2 M) := by
  intro n
  induction n with
  | zero => exact fun r0 x1 x2 M => Sm.none_
  | succ n ih =>
    intro r0 x1 x2 M
    unfold s_m7_mend_2
    refine Sm.iload_n hC d_m7_mend_2 rfl 2 rfl ?_
    refine Sm.aload_n hC d_m7_mend_3 rfl 0 rfl ?_
    refine Sm.getR hC fl_m7_20 rfl d_m7_mend_4 (fun v1 => ?_)
    refine Sm.iload_n hC d_m7_mend_7 rfl 1 rfl ?_
    refine Sm.aald (Cn := n_c3) hC ⟨by decide, by decide⟩ rfl d_m7_mend_8 (fun v2 => ?_)
    refine Sm.getI hC fl_m7_96 rfl d_m7_mend_9 (fun v3 => ?_)
    refine Sm.icmp_ge (tgt := 45) hC d_m7_mend_12 (by decide) ?_ ?_
    · refine Sm.iload_n hC d_m7_mend_45 rfl 1 rfl ?_
      refine Sm.iconst (v := 1) hC d_m7_mend_46 (by decide) ?_
      refine Sm.iadd hC d_m7_mend_47 ?_
      refine Sm.istore_n (lv' := [(2, .int (x1 + (1 : Int32))), (0, rv V.1 r0), (1, .int x1)]) hC d_m7_mend_48 rfl (by decide) rfl ?_
      refine Sm.sub [1, 2, 0] rfl ?_
      exact w_m7_mend_49 hC hR FU r0 x1 (x1 + (1 : Int32)) M
    · refine Sm.aload_n hC d_m7_mend_15 rfl 0 rfl ?_
      refine Sm.getR hC fl_m7_24 rfl d_m7_mend_16 (fun v4 => ?_)
      refine Sm.iload_n hC d_m7_mend_19 rfl 2 rfl ?_
      refine Sm.aload_n hC d_m7_mend_20 rfl 0 rfl ?_
      refine Sm.getR hC fl_m7_20 rfl d_m7_mend_21 (fun v5 => ?_)
      refine Sm.iload_n hC d_m7_mend_24 rfl 1 rfl ?_
      refine Sm.aald (Cn := n_c3) hC ⟨by decide, by decide⟩ rfl d_m7_mend_25 (fun v6 => ?_)
      refine Sm.getR hC fl_m7_106 rfl d_m7_mend_26 (fun v7 => ?_)
      refine Sm.iload_n hC d_m7_mend_29 rfl 2 rfl ?_
      refine Sm.iald hC d_m7_mend_30 (fun v8 => ?_)
      refine Sm.iast hC d_m7_mend_31 (fun M9 => ?_)
      refine Sm.aload_n hC d_m7_mend_32 rfl 0 rfl ?_
      refine Sm.getR hC fl_m7_27 rfl d_m7_mend_33 (fun v10 => ?_)
      refine Sm.iload_n hC d_m7_mend_36 rfl 2 rfl ?_
      refine Sm.iload_n hC d_m7_mend_37 rfl 1 rfl ?_
      refine Sm.iast hC d_m7_mend_38 (fun M11 => ?_)
      refine Sm.iinc (v := x2 + 1) (lv' := [(2, .int (x2 + 1)), (0, rv V.1 r0), (1, .int x1)]) hC d_m7_mend_39 2 rfl rfl (by decide) rfl ?_
      refine Sm.goto (tgt := 2) hC d_m7_mend_42 (by decide) ?_
      refine Sm.sub [1, 2, 0] rfl ?_
      exact ih r0 x1 (x2 + 1) M11
set_option maxRecDepth 100000 in
set_option maxHeartbeats 4000000 in
theorem ok_m7_mend {l : Launch} {V : Ev} {M M' : Mm} {r : Unit} {r0 : Nat} {a1 : Int32} (h : s_m7_mend r0 a1 M = some (r, M')) : Met l y_m7_mend (Cond.code y_m7_mend b_m7_mend 5 none :: TW) rm_m7_mend (va_Pc [rv V.1 r0, .int a1] (Wd V M)) (QC V none M' 0) 0 0 (Af V) := by
  refine met_of (fun _ : Unit => none) (lv0 := [(0, rv V.1 r0), (1, .int a1)]) (by decide) (by simp [lg_sl, cat_rv, cat_i, cat_l, cat_f]) (by simp [lv_args, cat_rv, cat_i, cat_l, cat_f]) (fun C hl hR hC => ?_) h
  subst hl
  generalize mN M = n0 at hC ⊢
  unfold s_m7_mend
  refine Sm.iconst (v := 0) hC d_m7_mend_0 (by decide) ?_
  refine Sm.istore_n (lv' := [(2, .int (0 : Int32)), (0, rv V.1 r0), (1, .int a1)]) hC d_m7_mend_1 rfl (by decide) rfl ?_
  refine Sm.sub [1, 2, 0] rfl ?_
  exact w_m7_mend_2 hC hR FU r0 a1 (0 : Int32) M
/-! NewsWire$StoryText.appendWord(II)V -/
theorem fl_m7_34 : FL "NewsWire$StoryText" 34 7 6 0 false .int := ⟨_, _, _, _, rfl, in_c7, ty_c7, nm_c7, by decide, rfl, tw_i 173 (by decide +kernel), rfl, rfl, rfl, rfl⟩
theorem fl_m7_9 : FL "NewsWire$StoryText" 9 7 0 2 true (.array .int) := ⟨_, _, _, _, rfl, in_c7, ty_c7, nm_c7, by decide, rfl, tw_i 165 (by decide +kernel), rfl, rfl, rfl, rfl⟩
theorem fl_m7_15 : FL "NewsWire$StoryText" 15 7 1 2 true (.array .int) := ⟨_, _, _, _, rfl, in_c7, ty_c7, nm_c7, by decide, rfl, tw_i 167 (by decide +kernel), rfl, rfl, rfl, rfl⟩
abbrev b_m7_appendWord : ByteArray := prog_9_method_12_code
def y_m7_appendWord : MethodName := ⟨"NewsWire$StoryText", "appendWord", "(II)V"⟩
def rm_m7_appendWord : Room := { frames := 1, cells := 0, slots := 0, locals := 60 }
theorem cw_m7_appendWord : CW y_m7_appendWord b_m7_appendWord 3 none 2 := ⟨tw_i 59 (by decide +kernel), tw_i 761 (by decide +kernel), by decide, by decide, by decide +kernel⟩
theorem d_m7_appendWord_0 : decode b_m7_appendWord 0 = .ok (.aload_n 0, 1) := by decide +kernel
theorem d_m7_appendWord_1 : decode b_m7_appendWord 1 = .ok (.getfield 34, 3) := by decide +kernel
theorem d_m7_appendWord_4 : decode b_m7_appendWord 4 = .ok (.aload_n 0, 1) := by decide +kernel
theorem d_m7_appendWord_5 : decode b_m7_appendWord 5 = .ok (.getfield 9, 3) := by decide +kernel
theorem d_m7_appendWord_8 : decode b_m7_appendWord 8 = .ok (.arraylength, 1) := by decide +kernel
theorem d_m7_appendWord_9 : decode b_m7_appendWord 9 = .ok (.if_icmp .ge 33, 3) := by decide +kernel
theorem d_m7_appendWord_12 : decode b_m7_appendWord 12 = .ok (.aload_n 0, 1) := by decide +kernel
theorem d_m7_appendWord_13 : decode b_m7_appendWord 13 = .ok (.getfield 9, 3) := by decide +kernel
theorem d_m7_appendWord_16 : decode b_m7_appendWord 16 = .ok (.aload_n 0, 1) := by decide +kernel
theorem d_m7_appendWord_17 : decode b_m7_appendWord 17 = .ok (.getfield 34, 3) := by decide +kernel
theorem d_m7_appendWord_20 : decode b_m7_appendWord 20 = .ok (.iload_n 1, 1) := by decide +kernel
theorem d_m7_appendWord_21 : decode b_m7_appendWord 21 = .ok (.iastore, 1) := by decide +kernel
theorem d_m7_appendWord_22 : decode b_m7_appendWord 22 = .ok (.aload_n 0, 1) := by decide +kernel
theorem d_m7_appendWord_23 : decode b_m7_appendWord 23 = .ok (.getfield 15, 3) := by decide +kernel
theorem d_m7_appendWord_26 : decode b_m7_appendWord 26 = .ok (.aload_n 0, 1) := by decide +kernel
theorem d_m7_appendWord_27 : decode b_m7_appendWord 27 = .ok (.getfield 34, 3) := by decide +kernel
theorem d_m7_appendWord_30 : decode b_m7_appendWord 30 = .ok (.iload_n 2, 1) := by decide +kernel
theorem d_m7_appendWord_31 : decode b_m7_appendWord 31 = .ok (.iastore, 1) := by decide +kernel
theorem d_m7_appendWord_32 : decode b_m7_appendWord 32 = .ok (.aload_n 0, 1) := by decide +kernel
theorem d_m7_appendWord_33 : decode b_m7_appendWord 33 = .ok (.dup, 1) := by decide +kernel
theorem d_m7_appendWord_34 : decode b_m7_appendWord 34 = .ok (.getfield 34, 3) := by decide +kernel
theorem d_m7_appendWord_37 : decode b_m7_appendWord 37 = .ok (.iconst 1, 1) := by decide +kernel
theorem d_m7_appendWord_38 : decode b_m7_appendWord 38 = .ok (.iadd, 1) := by decide +kernel
theorem d_m7_appendWord_39 : decode b_m7_appendWord 39 = .ok (.putfield 34, 3) := by decide +kernel
theorem d_m7_appendWord_42 : decode b_m7_appendWord 42 = .ok (.return_, 1) := by decide +kernel
def s_m7_appendWord_42   (M : Mm) : Option (Unit × Mm) := some ((), M)
def s_m7_appendWord (r0 : Nat) (a1 : Int32) (a2 : Int32) (M : Mm) : Option (Unit × Mm) := gI M r0 17 6 (fun v1 => gR M r0 17 0 (fun v2 => al M v2 0 (fun v3 => (if v3 ≤ v1 then s_m7_appendWord_42 M else gR M r0 17 0 (fun v4 => gI M r0 17 6 (fun v5 => sI M v4 0 v5 a1 (fun M6 => gR M6 r0 17 1 (fun v7 => gI M6 r0 17 6 (fun v8 => sI M6 v7 0 v8 a2 (fun M9 => gI M9 r0 17 6 (fun v10 => pI M9 r0 17 6 (v10 + (1 : Int32)) (fun M11 => s_m7_appendWord_42 M11))))))))))))
set_option maxRecDepth 100000 in
set_option maxHeartbeats 4000000 in
theorem w_m7_appendWord_42 {V : Ev} {C : Cx} {n0 : Nat} (hC : Cok V C y_m7_appendWord.cls b_m7_appendWord 3 n0 none y_m7_appendWord.name) (hR : cR C = rm_m7_appendWord)  : ∀  (M : Mm), Sm V C 3 n0 n0 (qV V C) 42 [] [] M (s_m7_appendWord_42 M) := by
  intro M
  unfold s_m7_appendWord_42
  exact Sm.vret hC d_m7_appendWord_42 rfl (Nat.sub_self _)
set_option maxRecDepth 100000 in
set_option maxHeartbeats 4000000 in
theorem ok_m7_appendWord {l : Launch} {V : Ev} {M M' : Mm} {r : Unit} {r0 : Nat} {a1 : Int32} {a2 : Int32} (h : s_m7_appendWord r0 a1 a2 M = some (r, M')) : Met l y_m7_appendWord (Cond.code y_m7_appendWord b_m7_appendWord 3 none :: TW) rm_m7_appendWord (va_Pc [rv V.1 r0, .int a1, .int a2] (Wd V M)) (QC V none M' 0) 0 0 (Af V) := by
  refine met_of (fun _ : Unit => none) (lv0 := [(0, rv V.1 r0), (1, .int a1), (2, .int a2)]) (by decide) (by simp [lg_sl, cat_rv, cat_i, cat_l, cat_f]) (by simp [lv_args, cat_rv, cat_i, cat_l, cat_f]) (fun C hl hR hC => ?_) h
  subst hl
  generalize mN M = n0 at hC ⊢
  unfold s_m7_appendWord
  refine Sm.aload_n hC d_m7_appendWord_0 rfl 0 rfl ?_
  refine Sm.getI hC fl_m7_34 rfl d_m7_appendWord_1 (fun v1 => ?_)
  refine Sm.aload_n hC d_m7_appendWord_4 rfl 0 rfl ?_
  refine Sm.getR hC fl_m7_9 rfl d_m7_appendWord_5 (fun v2 => ?_)
  refine Sm.alen hC (by decide) rfl d_m7_appendWord_8 (fun v3 => ?_)
  refine Sm.icmp_ge (tgt := 42) hC d_m7_appendWord_9 (by decide) ?_ ?_
  · refine Sm.sub [] rfl ?_
    exact w_m7_appendWord_42 hC hR M
  · refine Sm.aload_n hC d_m7_appendWord_12 rfl 0 rfl ?_
    refine Sm.getR hC fl_m7_9 rfl d_m7_appendWord_13 (fun v4 => ?_)
    refine Sm.aload_n hC d_m7_appendWord_16 rfl 0 rfl ?_
    refine Sm.getI hC fl_m7_34 rfl d_m7_appendWord_17 (fun v5 => ?_)
    refine Sm.iload_n hC d_m7_appendWord_20 rfl 1 rfl ?_
    refine Sm.iast hC d_m7_appendWord_21 (fun M6 => ?_)
    refine Sm.aload_n hC d_m7_appendWord_22 rfl 0 rfl ?_
    refine Sm.getR hC fl_m7_15 rfl d_m7_appendWord_23 (fun v7 => ?_)
    refine Sm.aload_n hC d_m7_appendWord_26 rfl 0 rfl ?_
    refine Sm.getI hC fl_m7_34 rfl d_m7_appendWord_27 (fun v8 => ?_)
    refine Sm.iload_n hC d_m7_appendWord_30 rfl 2 rfl ?_
    refine Sm.iast hC d_m7_appendWord_31 (fun M9 => ?_)
    refine Sm.aload_n hC d_m7_appendWord_32 rfl 0 rfl ?_
    refine Sm.dup hC d_m7_appendWord_33 (cat_rv _ _) ?_
    refine Sm.getI hC fl_m7_34 rfl d_m7_appendWord_34 (fun v10 => ?_)
    refine Sm.iconst (v := 1) hC d_m7_appendWord_37 (by decide) ?_
    refine Sm.iadd hC d_m7_appendWord_38 ?_
    refine Sm.putI hC fl_m7_34 rfl d_m7_appendWord_39 (fun M11 => ?_)
    refine Sm.sub [] rfl ?_
    exact w_m7_appendWord_42 hC hR M11
/-! NewsWire$StoryText.appendInserts(II)V -/
abbrev b_m7_appendInserts : ByteArray := prog_9_method_11_code
def y_m7_appendInserts : MethodName := ⟨"NewsWire$StoryText", "appendInserts", "(II)V"⟩
def rm_m7_appendInserts : Room := { frames := 2, cells := 0, slots := 0, locals := 82 }
theorem cw_m7_appendInserts : CW y_m7_appendInserts b_m7_appendInserts 6 none 2 := ⟨tw_i 59 (by decide +kernel), tw_i 757 (by decide +kernel), by decide, by decide, by decide +kernel⟩
theorem d_m7_appendInserts_0 : decode b_m7_appendInserts 0 = .ok (.iload_n 1, 1) := by decide +kernel
theorem d_m7_appendInserts_1 : decode b_m7_appendInserts 1 = .ok (.iconst 1, 1) := by decide +kernel
theorem d_m7_appendInserts_2 : decode b_m7_appendInserts 2 = .ok (.iadd, 1) := by decide +kernel
theorem d_m7_appendInserts_3 : decode b_m7_appendInserts 3 = .ok (.istore_n 3, 1) := by decide +kernel
theorem d_m7_appendInserts_4 : decode b_m7_appendInserts 4 = .ok (.iload_n 3, 1) := by decide +kernel
theorem d_m7_appendInserts_5 : decode b_m7_appendInserts 5 = .ok (.aload_n 0, 1) := by decide +kernel
theorem d_m7_appendInserts_6 : decode b_m7_appendInserts 6 = .ok (.getfield 20, 3) := by decide +kernel
theorem d_m7_appendInserts_9 : decode b_m7_appendInserts 9 = .ok (.arraylength, 1) := by decide +kernel
theorem d_m7_appendInserts_10 : decode b_m7_appendInserts 10 = .ok (.if_icmp .ge 84, 3) := by decide +kernel
theorem d_m7_appendInserts_13 : decode b_m7_appendInserts 13 = .ok (.aload_n 0, 1) := by decide +kernel
theorem d_m7_appendInserts_14 : decode b_m7_appendInserts 14 = .ok (.getfield 20, 3) := by decide +kernel
theorem d_m7_appendInserts_17 : decode b_m7_appendInserts 17 = .ok (.iload_n 3, 1) := by decide +kernel
theorem d_m7_appendInserts_18 : decode b_m7_appendInserts 18 = .ok (.aaload, 1) := by decide +kernel
theorem d_m7_appendInserts_19 : decode b_m7_appendInserts 19 = .ok (.astore 4, 2) := by decide +kernel
theorem d_m7_appendInserts_21 : decode b_m7_appendInserts 21 = .ok (.aload_n 0, 1) := by decide +kernel
theorem d_m7_appendInserts_22 : decode b_m7_appendInserts 22 = .ok (.iload_n 3, 1) := by decide +kernel
theorem d_m7_appendInserts_23 : decode b_m7_appendInserts 23 = .ok (.invokevirtual 87, 3) := by decide +kernel
theorem d_m7_appendInserts_26 : decode b_m7_appendInserts 26 = .ok (.ifCond .eq 62, 3) := by decide +kernel
theorem d_m7_appendInserts_29 : decode b_m7_appendInserts 29 = .ok (.aload 4, 2) := by decide +kernel
theorem d_m7_appendInserts_31 : decode b_m7_appendInserts 31 = .ok (.getfield 72, 3) := by decide +kernel
theorem d_m7_appendInserts_34 : decode b_m7_appendInserts 34 = .ok (.iconst 2, 1) := by decide +kernel
theorem d_m7_appendInserts_35 : decode b_m7_appendInserts 35 = .ok (.if_icmp .ne 53, 3) := by decide +kernel
theorem d_m7_appendInserts_38 : decode b_m7_appendInserts 38 = .ok (.aload 4, 2) := by decide +kernel
theorem d_m7_appendInserts_40 : decode b_m7_appendInserts 40 = .ok (.getfield 78, 3) := by decide +kernel
theorem d_m7_appendInserts_43 : decode b_m7_appendInserts 43 = .ok (.iload_n 1, 1) := by decide +kernel
theorem d_m7_appendInserts_44 : decode b_m7_appendInserts 44 = .ok (.if_icmp .ne 44, 3) := by decide +kernel
theorem d_m7_appendInserts_47 : decode b_m7_appendInserts 47 = .ok (.aload 4, 2) := by decide +kernel
theorem d_m7_appendInserts_49 : decode b_m7_appendInserts 49 = .ok (.getfield 75, 3) := by decide +kernel
theorem d_m7_appendInserts_52 : decode b_m7_appendInserts 52 = .ok (.iload_n 2, 1) := by decide +kernel
theorem d_m7_appendInserts_53 : decode b_m7_appendInserts 53 = .ok (.if_icmp .ne 35, 3) := by decide +kernel
theorem d_m7_appendInserts_56 : decode b_m7_appendInserts 56 = .ok (.iconst 0, 1) := by decide +kernel
theorem d_m7_appendInserts_57 : decode b_m7_appendInserts 57 = .ok (.istore 5, 2) := by decide +kernel
theorem d_m7_appendInserts_59 : decode b_m7_appendInserts 59 = .ok (.iload 5, 2) := by decide +kernel
theorem d_m7_appendInserts_61 : decode b_m7_appendInserts 61 = .ok (.aload 4, 2) := by decide +kernel
theorem d_m7_appendInserts_63 : decode b_m7_appendInserts 63 = .ok (.getfield 96, 3) := by decide +kernel
theorem d_m7_appendInserts_66 : decode b_m7_appendInserts 66 = .ok (.if_icmp .ge 22, 3) := by decide +kernel
theorem d_m7_appendInserts_69 : decode b_m7_appendInserts 69 = .ok (.aload_n 0, 1) := by decide +kernel
theorem d_m7_appendInserts_70 : decode b_m7_appendInserts 70 = .ok (.aload 4, 2) := by decide +kernel
theorem d_m7_appendInserts_72 : decode b_m7_appendInserts 72 = .ok (.getfield 106, 3) := by decide +kernel
theorem d_m7_appendInserts_75 : decode b_m7_appendInserts 75 = .ok (.iload 5, 2) := by decide +kernel
theorem d_m7_appendInserts_77 : decode b_m7_appendInserts 77 = .ok (.iaload, 1) := by decide +kernel
theorem d_m7_appendInserts_78 : decode b_m7_appendInserts 78 = .ok (.iload_n 3, 1) := by decide +kernel
theorem d_m7_appendInserts_79 : decode b_m7_appendInserts 79 = .ok (.invokevirtual 103, 3) := by decide +kernel
theorem d_m7_appendInserts_82 : decode b_m7_appendInserts 82 = .ok (.iinc 5 1, 3) := by decide +kernel
theorem d_m7_appendInserts_85 : decode b_m7_appendInserts 85 = .ok (.goto (-26), 3) := by decide +kernel
theorem d_m7_appendInserts_88 : decode b_m7_appendInserts 88 = .ok (.iinc 3 1, 3) := by decide +kernel
theorem d_m7_appendInserts_91 : decode b_m7_appendInserts 91 = .ok (.goto (-87), 3) := by decide +kernel
theorem d_m7_appendInserts_94 : decode b_m7_appendInserts 94 = .ok (.return_, 1) := by decide +kernel
def s_m7_appendInserts_88 (k4 : Nat → Int32 → Int32 → Int32 → Mm → Option (Unit × Mm)) (r0 : Nat) (x1 : Int32) (x2 : Int32) (x3 : Int32) (M : Mm) : Option (Unit × Mm) := k4 r0 x1 x2 (x3 + 1) M
def s_m7_appendInserts_59 (k4 : Nat → Int32 → Int32 → Int32 → Mm → Option (Unit × Mm)) : Nat → Nat → Int32 → Int32 → Int32 → Nat → Int32 → Mm → Option (Unit × Mm)
  | 0, _, _, _, _, _, _, _ => none
  | n + 1, r0, x1, x2, x3, r4, x5, M => gI M r4 13 5 (fun v1 => (if v1 ≤ x5 then s_m7_appendInserts_88 k4 r0 x1 x2 x3 M else gR M r4 13 0 (fun v2 => aI M v2 0 x5 (fun v3 => cl (has M r0 17) (s_m7_appendWord r0 v3 x3 M) (fun _ M4 => (s_m7_appendInserts_59 k4 n) r0 x1 x2 x3 r4 (x5 + 1) M4)))))
def s_m7_appendInserts_4  : Nat → Nat → Int32 → Int32 → Int32 → Mm → Option (Unit × Mm)
  | 0, _, _, _, _, _ => none
  | n + 1, r0, x1, x2, x3, M => gR M r0 17 2 (fun v1 => al M v1 3 (fun v2 => (if v2 ≤ x3 then some ((), M) else gR M r0 17 2 (fun v3 => aR M v3 3 x3 (fun v4 => cl (has M r0 17) (s_m7_isThere r0 x3 M) (fun v5 M6 => (if v5 = 0 then s_m7_appendInserts_88 (s_m7_appendInserts_4 n) r0 x1 x2 x3 M6 else gI M6 v4 13 1 (fun v7 => (if ¬ v7 = (2 : Int32) then s_m7_appendInserts_88 (s_m7_appendInserts_4 n) r0 x1 x2 x3 M6 else gI M6 v4 13 6 (fun v8 => (if ¬ v8 = x1 then s_m7_appendInserts_88 (s_m7_appendInserts_4 n) r0 x1 x2 x3 M6 else gI M6 v4 13 7 (fun v9 => (if ¬ v9 = x2 then s_m7_appendInserts_88 (s_m7_appendInserts_4 n) r0 x1 x2 x3 M6 else s_m7_appendInserts_59 (s_m7_appendInserts_4 n) FU r0 x1 x2 x3 v4 (0 : Int32) M6)))))))))))))
def s_m7_appendInserts (r0 : Nat) (a1 : Int32) (a2 : Int32) (M : Mm) : Option (Unit × Mm) := s_m7_appendInserts_4 FU r0 a1 a2 (a1 + (1 : Int32)) M
set_option maxRecDepth 100000 in
set_option maxHeartbeats 4000000 in
theorem w_m7_appendInserts_88 {V : Ev} {C : Cx} {n0 : Nat} (hC : Cok V C y_m7_appendInserts.cls b_m7_appendInserts 6 n0 none y_m7_appendInserts.name) (hR : cR C = rm_m7_appendInserts) (k4 : Nat → Int32 → Int32 → Int32 → Mm → Option (Unit × Mm)) (hk4 : ∀ (r0 : Nat) (x1 : Int32) (x2 : Int32) (x3 : Int32) (M : Mm), Sm V C 6 n0 n0 (qV V C) 4 [(0, rv V.1 r0), (1, .int x1), (2, .int x2), (3, .int x3)] [] M (k4 r0 x1 x2 x3 M)) : ∀ (r0 : Nat) (x1 : Int32) (x2 : Int32) (x3 : Int32) (M : Mm), Sm V C 6 n0 n0 (qV V C) 88 [(0, rv V.1 r0), (1, .int x1), (2, .int x2), (3, .int x3)] [] M (s_m7_appendInserts_88 k4 r0 x1 x2 x3 M) := by
  intro r0 x1 x2 x3 M
  unfold s_m7_appendInserts_88
  refine Sm.iinc (v := x3 + 1) (lv' := [(3, .int (x3 + 1)), (0, rv V.1 r0), (1, .int x1), (2, .int x2)]) hC d_m7_appendInserts_88 3 rfl rfl (by decide) rfl ?_
  refine Sm.goto (tgt := 4) hC d_m7_appendInserts_91 (by decide) ?_
  refine Sm.sub [1, 2, 3, 0] rfl ?_
  exact hk4 r0 x1 x2 (x3 + 1) M
set_option maxRecDepth 100000 in
set_option maxHeartbeats 4000000 in
theorem w_m7_appendInserts_59 {V : Ev} {C : Cx} {n0 : Nat} (hC : Cok V C y_m7_appendInserts.cls b_m7_appendInserts 6 n0 none y_m7_appendInserts.name) (hR : cR C = rm_m7_appendInserts) (k4 : Nat → Int32 → Int32 → Int32 → Mm → Option (Unit × Mm)) (hk4 : ∀ (r0 : Nat) (x1 : Int32) (x2 : Int32) (x3 : Int32) (M : Mm), Sm V C 6 n0 n0 (qV V C) 4 [(0, rv V.1 r0), (1, .int x1), (2, .int x2), (3, .int x3)] [] M (k4 r0 x1 x2 x3 M)) : ∀ (n : Nat) (r0 : Nat) (x1 : Int32) (x2 : Int32) (x3 : Int32) (r4 : Nat) (x5 : Int32) (M : Mm), Sm V C 6 n0 n0 (qV V C) 59 [(0, rv V.1 r0), (1, .int x1), (2, .int x2), (3, .int x3), (4, rv V.1 r4), (5, .int x5)] [] M (s_m7_appendInserts_59 k4 n r0 x1 x2 x3 r4 x5 M) := by
  intro n
  induction n with
  | zero => exact fun r0 x1 x2 x3 r4 x5 M => Sm.none_
  | succ n ih =>
    intro r0 x1 x2 x3 r4 x5 M
    unfold s_m7_appendInserts_59
    refine Sm.iload hC d_m7_appendInserts_59 5 rfl ?_
    refine Sm.aload hC d_m7_appendInserts_61 4 rfl ?_
    refine Sm.getI hC fl_m7_96 rfl d_m7_appendInserts_63 (fun v1 => ?_)
    refine Sm.icmp_ge (tgt := 88) hC d_m7_appendInserts_66 (by decide) ?_ ?_
    · refine Sm.sub [0, 1, 2, 3] rfl ?_
      exact w_m7_appendInserts_88 hC hR k4 hk4 r0 x1 x2 x3 M
    · refine Sm.aload_n hC d_m7_appendInserts_69 rfl 0 rfl ?_
      refine Sm.aload hC d_m7_appendInserts_70 4 rfl ?_
      refine Sm.getR hC fl_m7_106 rfl d_m7_appendInserts_72 (fun v2 => ?_)
      refine Sm.iload hC d_m7_appendInserts_75 5 rfl ?_
      refine Sm.iald hC d_m7_appendInserts_77 (fun v3 => ?_)
      refine Sm.iload_n hC d_m7_appendInserts_78 rfl 3 rfl ?_
      refine Sm.callVv 7 (As := [.int v3, .int x3]) (st := []) hC hR cw_m7_appendWord (tw_i 758 (by decide +kernel)) (tw_i 760 (by decide +kernel)) (tw_i 18 (by decide +kernel)) ⟨_, rfl, rfl⟩ (fun r9 M9 h9 => ok_m7_appendWord h9) rfl rfl (RW.of ⟨rfl, rfl, by decide, by decide⟩) (by simp) d_m7_appendInserts_79 (fun _ M4 => ?_)
      refine Sm.iinc (v := x5 + 1) (lv' := [(5, .int (x5 + 1)), (0, rv V.1 r0), (1, .int x1), (2, .int x2), (3, .int x3), (4, rv V.1 r4)]) hC d_m7_appendInserts_82 5 rfl rfl (by decide) (by simp [cat_rv]) ?_
      refine Sm.goto (tgt := 59) hC d_m7_appendInserts_85 (by decide) ?_
      refine Sm.sub [1, 2, 3, 4, 5, 0] rfl ?_
      exact ih r0 x1 x2 x3 r4 (x5 + 1) M4
set_option maxRecDepth 100000 in
set_option maxHeartbeats 4000000 in
theorem w_m7_appendInserts_4 {V : Ev} {C : Cx} {n0 : Nat} (hC : Cok V C y_m7_appendInserts.cls b_m7_appendInserts 6 n0 none y_m7_appendInserts.name) (hR : cR C = rm_m7_appendInserts)  : ∀ (n : Nat) (r0 : Nat) (x1 : Int32) (x2 : Int32) (x3 : Int32) (M : Mm), Sm V C 6 n0 n0 (qV V C) 4 [(0, rv V.1 r0), (1, .int x1), (2, .int x2), (3, .int x3)] [] M (s_m7_appendInserts_4 n r0 x1 x2 x3 M) := by
  intro n
  induction n with
  | zero => exact fun r0 x1 x2 x3 M => Sm.none_
  | succ n ih =>
    intro r0 x1 x2 x3 M
    unfold s_m7_appendInserts_4
    refine Sm.iload_n hC d_m7_appendInserts_4 rfl 3 rfl ?_
    refine Sm.aload_n hC d_m7_appendInserts_5 rfl 0 rfl ?_
    refine Sm.getR hC fl_m7_20 rfl d_m7_appendInserts_6 (fun v1 => ?_)
    refine Sm.alen hC (by decide) rfl d_m7_appendInserts_9 (fun v2 => ?_)
    refine Sm.icmp_ge (tgt := 94) hC d_m7_appendInserts_10 (by decide) ?_ ?_
    · exact Sm.vret hC d_m7_appendInserts_94 rfl (Nat.sub_self _)
    · refine Sm.aload_n hC d_m7_appendInserts_13 rfl 0 rfl ?_
      refine Sm.getR hC fl_m7_20 rfl d_m7_appendInserts_14 (fun v3 => ?_)
      refine Sm.iload_n hC d_m7_appendInserts_17 rfl 3 rfl ?_
      refine Sm.aald (Cn := n_c3) hC ⟨by decide, by decide⟩ rfl d_m7_appendInserts_18 (fun v4 => ?_)
      refine Sm.astore (lv' := [(4, rv V.1 v4), (0, rv V.1 r0), (1, .int x1), (2, .int x2), (3, .int x3)]) hC d_m7_appendInserts_19 (by decide) rfl ?_
      refine Sm.aload_n hC d_m7_appendInserts_21 rfl 1 rfl ?_
      refine Sm.iload_n hC d_m7_appendInserts_22 rfl 4 rfl ?_
      refine Sm.callVi 7 (As := [.int x3]) (st := []) hC hR cw_m7_isThere (tw_i 742 (by decide +kernel)) (tw_i 744 (by decide +kernel)) (tw_i 14 (by decide +kernel)) ⟨_, rfl, rfl⟩ (fun r9 M9 h9 => ok_m7_isThere h9) rfl rfl (RW.of ⟨rfl, rfl, by decide, by decide⟩) (by simp) d_m7_appendInserts_23 (fun v5 M6 => ?_)
      refine Sm.if_eq (tgt := 88) hC d_m7_appendInserts_26 (by decide) ?_ ?_
      · refine Sm.sub [1, 2, 3, 4] rfl ?_
        exact w_m7_appendInserts_88 hC hR (s_m7_appendInserts_4 n) ih r0 x1 x2 x3 M6
      · refine Sm.aload hC d_m7_appendInserts_29 0 rfl ?_
        refine Sm.getI hC fl_m7_72 rfl d_m7_appendInserts_31 (fun v7 => ?_)
        refine Sm.iconst (v := 2) hC d_m7_appendInserts_34 (by decide) ?_
        refine Sm.icmp_ne (tgt := 88) hC d_m7_appendInserts_35 (by decide) ?_ ?_
        · refine Sm.sub [1, 2, 3, 4] rfl ?_
          exact w_m7_appendInserts_88 hC hR (s_m7_appendInserts_4 n) ih r0 x1 x2 x3 M6
        · refine Sm.aload hC d_m7_appendInserts_38 0 rfl ?_
          refine Sm.getI hC fl_m7_78 rfl d_m7_appendInserts_40 (fun v8 => ?_)
          refine Sm.iload_n hC d_m7_appendInserts_43 rfl 2 rfl ?_
          refine Sm.icmp_ne (tgt := 88) hC d_m7_appendInserts_44 (by decide) ?_ ?_
          · refine Sm.sub [1, 2, 3, 4] rfl ?_
            exact w_m7_appendInserts_88 hC hR (s_m7_appendInserts_4 n) ih r0 x1 x2 x3 M6
          · refine Sm.aload hC d_m7_appendInserts_47 0 rfl ?_
            refine Sm.getI hC fl_m7_75 rfl d_m7_appendInserts_49 (fun v9 => ?_)
            refine Sm.iload_n hC d_m7_appendInserts_52 rfl 3 rfl ?_
            refine Sm.icmp_ne (tgt := 88) hC d_m7_appendInserts_53 (by decide) ?_ ?_
            · refine Sm.sub [1, 2, 3, 4] rfl ?_
              exact w_m7_appendInserts_88 hC hR (s_m7_appendInserts_4 n) ih r0 x1 x2 x3 M6
            · refine Sm.iconst (v := 0) hC d_m7_appendInserts_56 (by decide) ?_
              refine Sm.istore (lv' := [(5, .int (0 : Int32)), (4, rv V.1 v4), (0, rv V.1 r0), (1, .int x1), (2, .int x2), (3, .int x3)]) hC d_m7_appendInserts_57 (by decide) (by simp [cat_rv]) ?_
              refine Sm.sub [2, 3, 4, 5, 1, 0] rfl ?_
              exact w_m7_appendInserts_59 hC hR (s_m7_appendInserts_4 n) ih FU r0 x1 x2 x3 v4 (0 : Int32) M6
set_option maxRecDepth 100000 in
set_option maxHeartbeats 4000000 in
theorem ok_m7_appendInserts {l : Launch} {V : Ev} {M M' : Mm} {r : Unit} {r0 : Nat} {a1 : Int32} {a2 : Int32} (h : s_m7_appendInserts r0 a1 a2 M = some (r, M')) : Met l y_m7_appendInserts (Cond.code y_m7_appendInserts b_m7_appendInserts 6 none :: TW) rm_m7_appendInserts (va_Pc [rv V.1 r0, .int a1, .int a2] (Wd V M)) (QC V none M' 0) 0 0 (Af V) := by
  refine met_of (fun _ : Unit => none) (lv0 := [(0, rv V.1 r0), (1, .int a1), (2, .int a2)]) (by decide) (by simp [lg_sl, cat_rv, cat_i, cat_l, cat_f]) (by simp [lv_args, cat_rv, cat_i, cat_l, cat_f]) (fun C hl hR hC => ?_) h
  subst hl
  generalize mN M = n0 at hC ⊢
  unfold s_m7_appendInserts
  refine Sm.iload_n hC d_m7_appendInserts_0 rfl 1 rfl ?_
  refine Sm.iconst (v := 1) hC d_m7_appendInserts_1 (by decide) ?_
  refine Sm.iadd hC d_m7_appendInserts_2 ?_
  refine Sm.istore_n (lv' := [(3, .int (a1 + (1 : Int32))), (0, rv V.1 r0), (1, .int a1), (2, .int a2)]) hC d_m7_appendInserts_3 rfl (by decide) rfl ?_
  refine Sm.sub [1, 2, 3, 0] rfl ?_
  exact w_m7_appendInserts_4 hC hR FU r0 a1 a2 (a1 + (1 : Int32)) M
/-! NewsWire$StoryText.appendPiece(I)V -/
abbrev b_m7_appendPiece : ByteArray := prog_9_method_9_code
def y_m7_appendPiece : MethodName := ⟨"NewsWire$StoryText", "appendPiece", "(I)V"⟩
def rm_m7_appendPiece : Room := { frames := 3, cells := 0, slots := 0, locals := 107 }
theorem cw_m7_appendPiece : CW y_m7_appendPiece b_m7_appendPiece 4 none 1 := ⟨tw_i 59 (by decide +kernel), tw_i 749 (by decide +kernel), by decide, by decide, by decide +kernel⟩
theorem d_m7_appendPiece_0 : decode b_m7_appendPiece 0 = .ok (.aload_n 0, 1) := by decide +kernel
theorem d_m7_appendPiece_1 : decode b_m7_appendPiece 1 = .ok (.iload_n 1, 1) := by decide +kernel
theorem d_m7_appendPiece_2 : decode b_m7_appendPiece 2 = .ok (.invokevirtual 93, 3) := by decide +kernel
theorem d_m7_appendPiece_5 : decode b_m7_appendPiece 5 = .ok (.aload_n 0, 1) := by decide +kernel
theorem d_m7_appendPiece_6 : decode b_m7_appendPiece 6 = .ok (.getfield 20, 3) := by decide +kernel
theorem d_m7_appendPiece_9 : decode b_m7_appendPiece 9 = .ok (.iload_n 1, 1) := by decide +kernel
theorem d_m7_appendPiece_10 : decode b_m7_appendPiece 10 = .ok (.aaload, 1) := by decide +kernel
theorem d_m7_appendPiece_11 : decode b_m7_appendPiece 11 = .ok (.getfield 96, 3) := by decide +kernel
theorem d_m7_appendPiece_14 : decode b_m7_appendPiece 14 = .ok (.istore_n 2, 1) := by decide +kernel
theorem d_m7_appendPiece_15 : decode b_m7_appendPiece 15 = .ok (.iconst 0, 1) := by decide +kernel
theorem d_m7_appendPiece_16 : decode b_m7_appendPiece 16 = .ok (.istore_n 3, 1) := by decide +kernel
theorem d_m7_appendPiece_17 : decode b_m7_appendPiece 17 = .ok (.iload_n 3, 1) := by decide +kernel
theorem d_m7_appendPiece_18 : decode b_m7_appendPiece 18 = .ok (.iload_n 2, 1) := by decide +kernel
theorem d_m7_appendPiece_19 : decode b_m7_appendPiece 19 = .ok (.if_icmp .ge 31, 3) := by decide +kernel
theorem d_m7_appendPiece_22 : decode b_m7_appendPiece 22 = .ok (.aload_n 0, 1) := by decide +kernel
theorem d_m7_appendPiece_23 : decode b_m7_appendPiece 23 = .ok (.iload_n 1, 1) := by decide +kernel
theorem d_m7_appendPiece_24 : decode b_m7_appendPiece 24 = .ok (.iload_n 3, 1) := by decide +kernel
theorem d_m7_appendPiece_25 : decode b_m7_appendPiece 25 = .ok (.invokevirtual 99, 3) := by decide +kernel
theorem d_m7_appendPiece_28 : decode b_m7_appendPiece 28 = .ok (.aload_n 0, 1) := by decide +kernel
theorem d_m7_appendPiece_29 : decode b_m7_appendPiece 29 = .ok (.aload_n 0, 1) := by decide +kernel
theorem d_m7_appendPiece_30 : decode b_m7_appendPiece 30 = .ok (.getfield 24, 3) := by decide +kernel
theorem d_m7_appendPiece_33 : decode b_m7_appendPiece 33 = .ok (.iload_n 3, 1) := by decide +kernel
theorem d_m7_appendPiece_34 : decode b_m7_appendPiece 34 = .ok (.iaload, 1) := by decide +kernel
theorem d_m7_appendPiece_35 : decode b_m7_appendPiece 35 = .ok (.aload_n 0, 1) := by decide +kernel
theorem d_m7_appendPiece_36 : decode b_m7_appendPiece 36 = .ok (.getfield 27, 3) := by decide +kernel
theorem d_m7_appendPiece_39 : decode b_m7_appendPiece 39 = .ok (.iload_n 3, 1) := by decide +kernel
theorem d_m7_appendPiece_40 : decode b_m7_appendPiece 40 = .ok (.iaload, 1) := by decide +kernel
theorem d_m7_appendPiece_41 : decode b_m7_appendPiece 41 = .ok (.invokevirtual 103, 3) := by decide +kernel
theorem d_m7_appendPiece_44 : decode b_m7_appendPiece 44 = .ok (.iinc 3 1, 3) := by decide +kernel
theorem d_m7_appendPiece_47 : decode b_m7_appendPiece 47 = .ok (.goto (-30), 3) := by decide +kernel
theorem d_m7_appendPiece_50 : decode b_m7_appendPiece 50 = .ok (.aload_n 0, 1) := by decide +kernel
theorem d_m7_appendPiece_51 : decode b_m7_appendPiece 51 = .ok (.iload_n 1, 1) := by decide +kernel
theorem d_m7_appendPiece_52 : decode b_m7_appendPiece 52 = .ok (.iload_n 2, 1) := by decide +kernel
theorem d_m7_appendPiece_53 : decode b_m7_appendPiece 53 = .ok (.invokevirtual 99, 3) := by decide +kernel
theorem d_m7_appendPiece_56 : decode b_m7_appendPiece 56 = .ok (.return_, 1) := by decide +kernel
def s_m7_appendPiece_17  : Nat → Nat → Int32 → Int32 → Int32 → Mm → Option (Unit × Mm)
  | 0, _, _, _, _, _ => none
  | n + 1, r0, x1, x2, x3, M => (if x2 ≤ x3 then cl (has M r0 17) (s_m7_appendInserts r0 x1 x2 M) (fun _ M1 => some ((), M1)) else cl (has M r0 17) (s_m7_appendInserts r0 x1 x3 M) (fun _ M2 => gR M2 r0 17 3 (fun v3 => aI M2 v3 0 x3 (fun v4 => gR M2 r0 17 4 (fun v5 => aI M2 v5 0 x3 (fun v6 => cl (has M2 r0 17) (s_m7_appendWord r0 v4 v6 M2) (fun _ M7 => (s_m7_appendPiece_17 n) r0 x1 x2 (x3 + 1) M7)))))))
def s_m7_appendPiece (r0 : Nat) (a1 : Int32) (M : Mm) : Option (Unit × Mm) := cl (has M r0 17) (s_m7_mend r0 a1 M) (fun _ M1 => gR M1 r0 17 2 (fun v2 => aR M1 v2 3 a1 (fun v3 => gI M1 v3 13 5 (fun v4 => s_m7_appendPiece_17 FU r0 a1 v4 (0 : Int32) M1))))
set_option maxRecDepth 100000 in
set_option maxHeartbeats 4000000 in
theorem w_m7_appendPiece_17 {V : Ev} {C : Cx} {n0 : Nat} (hC : Cok V C y_m7_appendPiece.cls b_m7_appendPiece 4 n0 none y_m7_appendPiece.name) (hR : cR C = rm_m7_appendPiece)  : ∀ (n : Nat) (r0 : Nat) (x1 : Int32) (x2 : Int32) (x3 : Int32) (M : Mm), Sm V C 4 n0 n0 (qV V C) 17 [(0, rv V.1 r0), (1, .int x1), (2, .int x2), (3, .int x3)] [] M (s_m7_appendPiece_17 n r0 x1 x2 x3 M) := by
  intro n
  induction n with
  | zero => exact fun r0 x1 x2 x3 M => Sm.none_
  | succ n ih =>
    intro r0 x1 x2 x3 M
    unfold s_m7_appendPiece_17
    refine Sm.iload_n hC d_m7_appendPiece_17 rfl 3 rfl ?_
    refine Sm.iload_n hC d_m7_appendPiece_18 rfl 2 rfl ?_
    refine Sm.icmp_ge (tgt := 50) hC d_m7_appendPiece_19 (by decide) ?_ ?_
    · refine Sm.aload_n hC d_m7_appendPiece_50 rfl 0 rfl ?_
      refine Sm.iload_n hC d_m7_appendPiece_51 rfl 1 rfl ?_
      refine Sm.iload_n hC d_m7_appendPiece_52 rfl 2 rfl ?_
      refine Sm.callVv 7 (As := [.int x1, .int x2]) (st := []) hC hR cw_m7_appendInserts (tw_i 754 (by decide +kernel)) (tw_i 756 (by decide +kernel)) (tw_i 17 (by decide +kernel)) ⟨_, rfl, rfl⟩ (fun r9 M9 h9 => ok_m7_appendInserts h9) rfl rfl (RW.of ⟨rfl, rfl, by decide, by decide⟩) (by simp) d_m7_appendPiece_53 (fun _ M1 => ?_)
      exact Sm.vret hC d_m7_appendPiece_56 rfl (Nat.sub_self _)
    · refine Sm.aload_n hC d_m7_appendPiece_22 rfl 0 rfl ?_
      refine Sm.iload_n hC d_m7_appendPiece_23 rfl 1 rfl ?_
      refine Sm.iload_n hC d_m7_appendPiece_24 rfl 3 rfl ?_
      refine Sm.callVv 7 (As := [.int x1, .int x3]) (st := []) hC hR cw_m7_appendInserts (tw_i 754 (by decide +kernel)) (tw_i 756 (by decide +kernel)) (tw_i 17 (by decide +kernel)) ⟨_, rfl, rfl⟩ (fun r9 M9 h9 => ok_m7_appendInserts h9) rfl rfl (RW.of ⟨rfl, rfl, by decide, by decide⟩) (by simp) d_m7_appendPiece_25 (fun _ M2 => ?_)
      refine Sm.aload_n hC d_m7_appendPiece_28 rfl 0 rfl ?_
      refine Sm.aload_n hC d_m7_appendPiece_29 rfl 0 rfl ?_
      refine Sm.getR hC fl_m7_24 rfl d_m7_appendPiece_30 (fun v3 => ?_)
      refine Sm.iload_n hC d_m7_appendPiece_33 rfl 3 rfl ?_
      refine Sm.iald hC d_m7_appendPiece_34 (fun v4 => ?_)
      refine Sm.aload_n hC d_m7_appendPiece_35 rfl 0 rfl ?_
      refine Sm.getR hC fl_m7_27 rfl d_m7_appendPiece_36 (fun v5 => ?_)
      refine Sm.iload_n hC d_m7_appendPiece_39 rfl 3 rfl ?_
      refine Sm.iald hC d_m7_appendPiece_40 (fun v6 => ?_)
      refine Sm.callVv 7 (As := [.int v4, .int v6]) (st := []) hC hR cw_m7_appendWord (tw_i 758 (by decide +kernel)) (tw_i 760 (by decide +kernel)) (tw_i 18 (by decide +kernel)) ⟨_, rfl, rfl⟩ (fun r9 M9 h9 => ok_m7_appendWord h9) rfl rfl (RW.of ⟨rfl, rfl, by decide, by decide⟩) (by simp) d_m7_appendPiece_41 (fun _ M7 => ?_)
      refine Sm.iinc (v := x3 + 1) (lv' := [(3, .int (x3 + 1)), (0, rv V.1 r0), (1, .int x1), (2, .int x2)]) hC d_m7_appendPiece_44 3 rfl rfl (by decide) rfl ?_
      refine Sm.goto (tgt := 17) hC d_m7_appendPiece_47 (by decide) ?_
      refine Sm.sub [1, 2, 3, 0] rfl ?_
      exact ih r0 x1 x2 (x3 + 1) M7
set_option maxRecDepth 100000 in
set_option maxHeartbeats 4000000 in
theorem ok_m7_appendPiece {l : Launch} {V : Ev} {M M' : Mm} {r : Unit} {r0 : Nat} {a1 : Int32} (h : s_m7_appendPiece r0 a1 M = some (r, M')) : Met l y_m7_appendPiece (Cond.code y_m7_appendPiece b_m7_appendPiece 4 none :: TW) rm_m7_appendPiece (va_Pc [rv V.1 r0, .int a1] (Wd V M)) (QC V none M' 0) 0 0 (Af V) := by
  refine met_of (fun _ : Unit => none) (lv0 := [(0, rv V.1 r0), (1, .int a1)]) (by decide) (by simp [lg_sl, cat_rv, cat_i, cat_l, cat_f]) (by simp [lv_args, cat_rv, cat_i, cat_l, cat_f]) (fun C hl hR hC => ?_) h
  subst hl
  generalize mN M = n0 at hC ⊢
  unfold s_m7_appendPiece
  refine Sm.aload_n hC d_m7_appendPiece_0 rfl 0 rfl ?_
  refine Sm.iload_n hC d_m7_appendPiece_1 rfl 1 rfl ?_
  refine Sm.callVv 7 (As := [.int a1]) (st := []) hC hR cw_m7_mend (tw_i 750 (by decide +kernel)) (tw_i 752 (by decide +kernel)) (tw_i 16 (by decide +kernel)) ⟨_, rfl, rfl⟩ (fun r9 M9 h9 => ok_m7_mend h9) rfl rfl (RW.of ⟨rfl, rfl, by decide, by decide⟩) (by simp) d_m7_appendPiece_2 (fun _ M1 => ?_)
  refine Sm.aload_n hC d_m7_appendPiece_5 rfl 0 rfl ?_
  refine Sm.getR hC fl_m7_20 rfl d_m7_appendPiece_6 (fun v2 => ?_)
  refine Sm.iload_n hC d_m7_appendPiece_9 rfl 1 rfl ?_
  refine Sm.aald (Cn := n_c3) hC ⟨by decide, by decide⟩ rfl d_m7_appendPiece_10 (fun v3 => ?_)
  refine Sm.getI hC fl_m7_96 rfl d_m7_appendPiece_11 (fun v4 => ?_)
  refine Sm.istore_n (lv' := [(2, .int v4), (0, rv V.1 r0), (1, .int a1)]) hC d_m7_appendPiece_14 rfl (by decide) rfl ?_
  refine Sm.iconst (v := 0) hC d_m7_appendPiece_15 (by decide) ?_
  refine Sm.istore_n (lv' := [(3, .int (0 : Int32)), (2, .int v4), (0, rv V.1 r0), (1, .int a1)]) hC d_m7_appendPiece_16 rfl (by decide) rfl ?_
  refine Sm.sub [2, 3, 1, 0] rfl ?_
  exact w_m7_appendPiece_17 hC hR FU r0 a1 v4 (0 : Int32) M1
/-! NewsWire.hasPart(I)Z -/
abbrev b_m10_hasPart : ByteArray := prog_1_method_11_code
def y_m10_hasPart : MethodName := ⟨"NewsWire", "hasPart", "(I)Z"⟩
def rm_m10_hasPart : Room := { frames := 1, cells := 0, slots := 0, locals := 60 }
theorem cw_m10_hasPart : CW y_m10_hasPart b_m10_hasPart 1 (some .boolean) 1 := ⟨tw_i 55 (by decide +kernel), tw_i 442 (by decide +kernel), by decide, by decide, by decide +kernel⟩
theorem d_m10_hasPart_0 : decode b_m10_hasPart 0 = .ok (.iload_n 0, 1) := by decide +kernel
theorem d_m10_hasPart_1 : decode b_m10_hasPart 1 = .ok (.ifCond .eq 8, 3) := by decide +kernel
theorem d_m10_hasPart_4 : decode b_m10_hasPart 4 = .ok (.iload_n 0, 1) := by decide +kernel
theorem d_m10_hasPart_5 : decode b_m10_hasPart 5 = .ok (.iconst 5, 1) := by decide +kernel
theorem d_m10_hasPart_6 : decode b_m10_hasPart 6 = .ok (.if_icmp .ne 7, 3) := by decide +kernel
theorem d_m10_hasPart_9 : decode b_m10_hasPart 9 = .ok (.iconst 1, 1) := by decide +kernel
theorem d_m10_hasPart_10 : decode b_m10_hasPart 10 = .ok (.goto 4, 3) := by decide +kernel
theorem d_m10_hasPart_13 : decode b_m10_hasPart 13 = .ok (.iconst 0, 1) := by decide +kernel
theorem d_m10_hasPart_14 : decode b_m10_hasPart 14 = .ok (.ireturn, 1) := by decide +kernel
def s_m10_hasPart_14  (t0 : Int32) (M : Mm) : Option (Int32 × Mm) := rz t0 (some (t0, M))
def s_m10_hasPart_9   (M : Mm) : Option (Int32 × Mm) := s_m10_hasPart_14 (1 : Int32) M
def s_m10_hasPart (a0 : Int32) (M : Mm) : Option (Int32 × Mm) := (if a0 = 0 then s_m10_hasPart_9 M else (if ¬ a0 = (5 : Int32) then s_m10_hasPart_14 (0 : Int32) M else s_m10_hasPart_9 M))
set_option maxRecDepth 100000 in
set_option maxHeartbeats 4000000 in
theorem w_m10_hasPart_14 {V : Ev} {C : Cx} {n0 : Nat} (hC : Cok V C y_m10_hasPart.cls b_m10_hasPart 1 n0 (some .boolean) y_m10_hasPart.name) (hR : cR C = rm_m10_hasPart)  : ∀ (t0 : Int32) (M : Mm), Sm V C 1 n0 n0 (qI V C) 14 [] [.int t0] M (s_m10_hasPart_14 t0 M) := by
  intro t0 M
  unfold s_m10_hasPart_14
  exact Sm.zret hC d_m10_hasPart_14 rfl (Nat.sub_self _)
set_option maxRecDepth 100000 in
set_option maxHeartbeats 4000000 in
theorem w_m10_hasPart_9 {V : Ev} {C : Cx} {n0 : Nat} (hC : Cok V C y_m10_hasPart.cls b_m10_hasPart 1 n0 (some .boolean) y_m10_hasPart.name) (hR : cR C = rm_m10_hasPart)  : ∀  (M : Mm), Sm V C 1 n0 n0 (qI V C) 9 [] [] M (s_m10_hasPart_9 M) := by
  intro M
  unfold s_m10_hasPart_9
  refine Sm.iconst (v := 1) hC d_m10_hasPart_9 (by decide) ?_
  refine Sm.goto (tgt := 14) hC d_m10_hasPart_10 (by decide) ?_
  exact w_m10_hasPart_14 hC hR (1 : Int32) M
set_option maxRecDepth 100000 in
set_option maxHeartbeats 4000000 in
theorem ok_m10_hasPart {l : Launch} {V : Ev} {M M' : Mm} {r : Int32} {a0 : Int32} (h : s_m10_hasPart a0 M = some (r, M')) : Met l y_m10_hasPart (Cond.code y_m10_hasPart b_m10_hasPart 1 (some .boolean) :: TW) rm_m10_hasPart (va_Pc [.int a0] (Wd V M)) (QC V (some (.int r)) M' 0) 0 0 (Af V) := by
  refine met_of (fun x : Int32 => some (.int x)) (lv0 := [(0, .int a0)]) (by decide) (by simp [lg_sl, cat_rv, cat_i, cat_l, cat_f]) (by simp [lv_args, cat_rv, cat_i, cat_l, cat_f]) (fun C hl hR hC => ?_) h
  subst hl
  generalize mN M = n0 at hC ⊢
  unfold s_m10_hasPart
  refine Sm.iload_n hC d_m10_hasPart_0 rfl 0 rfl ?_
  refine Sm.if_eq (tgt := 9) hC d_m10_hasPart_1 (by decide) ?_ ?_
  · refine Sm.sub [] rfl ?_
    exact w_m10_hasPart_9 hC hR M
  · refine Sm.iload_n hC d_m10_hasPart_4 rfl 0 rfl ?_
    refine Sm.iconst (v := 5) hC d_m10_hasPart_5 (by decide) ?_
    refine Sm.icmp_ne (tgt := 13) hC d_m10_hasPart_6 (by decide) ?_ ?_
    · refine Sm.iconst (v := 0) hC d_m10_hasPart_13 (by decide) ?_
      refine Sm.sub [] rfl ?_
      exact w_m10_hasPart_14 hC hR (0 : Int32) M
    · refine Sm.sub [] rfl ?_
      exact w_m10_hasPart_9 hC hR M
/-! NewsWire$StoryText.latestOfPart(I)I -/
abbrev b_m7_latestOfPart : ByteArray := prog_9_method_7_code
def y_m7_latestOfPart : MethodName := ⟨"NewsWire$StoryText", "latestOfPart", "(I)I"⟩
def rm_m7_latestOfPart : Room := { frames := 2, cells := 0, slots := 0, locals := 81 }
theorem cw_m7_latestOfPart : CW y_m7_latestOfPart b_m7_latestOfPart 3 (some .int) 1 := ⟨tw_i 59 (by decide +kernel), tw_i 765 (by decide +kernel), by decide, by decide, by decide +kernel⟩
theorem d_m7_latestOfPart_0 : decode b_m7_latestOfPart 0 = .ok (.aload_n 0, 1) := by decide +kernel
theorem d_m7_latestOfPart_1 : decode b_m7_latestOfPart 1 = .ok (.getfield 20, 3) := by decide +kernel
theorem d_m7_latestOfPart_4 : decode b_m7_latestOfPart 4 = .ok (.arraylength, 1) := by decide +kernel
theorem d_m7_latestOfPart_5 : decode b_m7_latestOfPart 5 = .ok (.iconst 1, 1) := by decide +kernel
theorem d_m7_latestOfPart_6 : decode b_m7_latestOfPart 6 = .ok (.isub, 1) := by decide +kernel
theorem d_m7_latestOfPart_7 : decode b_m7_latestOfPart 7 = .ok (.istore_n 2, 1) := by decide +kernel
theorem d_m7_latestOfPart_8 : decode b_m7_latestOfPart 8 = .ok (.iload_n 2, 1) := by decide +kernel
theorem d_m7_latestOfPart_9 : decode b_m7_latestOfPart 9 = .ok (.ifCond .lt 47, 3) := by decide +kernel
theorem d_m7_latestOfPart_12 : decode b_m7_latestOfPart 12 = .ok (.aload_n 0, 1) := by decide +kernel
theorem d_m7_latestOfPart_13 : decode b_m7_latestOfPart 13 = .ok (.iload_n 2, 1) := by decide +kernel
theorem d_m7_latestOfPart_14 : decode b_m7_latestOfPart 14 = .ok (.invokevirtual 87, 3) := by decide +kernel
theorem d_m7_latestOfPart_17 : decode b_m7_latestOfPart 17 = .ok (.ifCond .eq 33, 3) := by decide +kernel
theorem d_m7_latestOfPart_20 : decode b_m7_latestOfPart 20 = .ok (.aload_n 0, 1) := by decide +kernel
theorem d_m7_latestOfPart_21 : decode b_m7_latestOfPart 21 = .ok (.getfield 20, 3) := by decide +kernel
theorem d_m7_latestOfPart_24 : decode b_m7_latestOfPart 24 = .ok (.iload_n 2, 1) := by decide +kernel
theorem d_m7_latestOfPart_25 : decode b_m7_latestOfPart 25 = .ok (.aaload, 1) := by decide +kernel
theorem d_m7_latestOfPart_26 : decode b_m7_latestOfPart 26 = .ok (.getfield 72, 3) := by decide +kernel
theorem d_m7_latestOfPart_29 : decode b_m7_latestOfPart 29 = .ok (.invokestatic 90, 3) := by decide +kernel
theorem d_m7_latestOfPart_32 : decode b_m7_latestOfPart 32 = .ok (.ifCond .eq 18, 3) := by decide +kernel
theorem d_m7_latestOfPart_35 : decode b_m7_latestOfPart 35 = .ok (.aload_n 0, 1) := by decide +kernel
theorem d_m7_latestOfPart_36 : decode b_m7_latestOfPart 36 = .ok (.getfield 20, 3) := by decide +kernel
theorem d_m7_latestOfPart_39 : decode b_m7_latestOfPart 39 = .ok (.iload_n 2, 1) := by decide +kernel
theorem d_m7_latestOfPart_40 : decode b_m7_latestOfPart 40 = .ok (.aaload, 1) := by decide +kernel
theorem d_m7_latestOfPart_41 : decode b_m7_latestOfPart 41 = .ok (.getfield 78, 3) := by decide +kernel
theorem d_m7_latestOfPart_44 : decode b_m7_latestOfPart 44 = .ok (.iload_n 1, 1) := by decide +kernel
theorem d_m7_latestOfPart_45 : decode b_m7_latestOfPart 45 = .ok (.if_icmp .ne 5, 3) := by decide +kernel
theorem d_m7_latestOfPart_48 : decode b_m7_latestOfPart 48 = .ok (.iload_n 2, 1) := by decide +kernel
theorem d_m7_latestOfPart_49 : decode b_m7_latestOfPart 49 = .ok (.ireturn, 1) := by decide +kernel
theorem d_m7_latestOfPart_50 : decode b_m7_latestOfPart 50 = .ok (.iinc 2 (-1), 3) := by decide +kernel
theorem d_m7_latestOfPart_53 : decode b_m7_latestOfPart 53 = .ok (.goto (-45), 3) := by decide +kernel
theorem d_m7_latestOfPart_56 : decode b_m7_latestOfPart 56 = .ok (.iconst (-1), 1) := by decide +kernel
theorem d_m7_latestOfPart_57 : decode b_m7_latestOfPart 57 = .ok (.ireturn, 1) := by decide +kernel
def s_m7_latestOfPart_50 (k8 : Nat → Int32 → Int32 → Mm → Option (Int32 × Mm)) (r0 : Nat) (x1 : Int32) (x2 : Int32) (M : Mm) : Option (Int32 × Mm) := k8 r0 x1 (x2 + (-1)) M
def s_m7_latestOfPart_8  : Nat → Nat → Int32 → Int32 → Mm → Option (Int32 × Mm)
  | 0, _, _, _, _ => none
  | n + 1, r0, x1, x2, M => (if x2 < 0 then some ((-1 : Int32), M) else cl (has M r0 17) (s_m7_isThere r0 x2 M) (fun v1 M2 => (if v1 = 0 then s_m7_latestOfPart_50 (s_m7_latestOfPart_8 n) r0 x1 x2 M2 else gR M2 r0 17 2 (fun v3 => aR M2 v3 3 x2 (fun v4 => gI M2 v4 13 1 (fun v5 => cl true (s_m10_hasPart v5 M2) (fun v6 M7 => (if v6 = 0 then s_m7_latestOfPart_50 (s_m7_latestOfPart_8 n) r0 x1 x2 M7 else gR M7 r0 17 2 (fun v8 => aR M7 v8 3 x2 (fun v9 => gI M7 v9 13 6 (fun v10 => (if ¬ v10 = x1 then s_m7_latestOfPart_50 (s_m7_latestOfPart_8 n) r0 x1 x2 M7 else some (x2, M7)))))))))))))
def s_m7_latestOfPart (r0 : Nat) (a1 : Int32) (M : Mm) : Option (Int32 × Mm) := gR M r0 17 2 (fun v1 => al M v1 3 (fun v2 => s_m7_latestOfPart_8 FU r0 a1 (v2 - (1 : Int32)) M))
set_option maxRecDepth 100000 in
set_option maxHeartbeats 4000000 in
theorem w_m7_latestOfPart_50 {V : Ev} {C : Cx} {n0 : Nat} (hC : Cok V C y_m7_latestOfPart.cls b_m7_latestOfPart 3 n0 (some .int) y_m7_latestOfPart.name) (hR : cR C = rm_m7_latestOfPart) (k8 : Nat → Int32 → Int32 → Mm → Option (Int32 × Mm)) (hk8 : ∀ (r0 : Nat) (x1 : Int32) (x2 : Int32) (M : Mm), Sm V C 3 n0 n0 (qI V C) 8 [(0, rv V.1 r0), (1, .int x1), (2, .int x2)] [] M (k8 r0 x1 x2 M)) : ∀ (r0 : Nat) (x1 : Int32) (x2 : Int32) (M : Mm), Sm V C 3 n0 n0 (qI V C) 50 [(0, rv V.1 r0), (1, .int x1), (2, .int x2)] [] M (s_m7_latestOfPart_50 k8 r0 x1 x2 M) := by
  intro r0 x1 x2 M
  unfold s_m7_latestOfPart_50
  refine Sm.iinc (v := x2 + (-1)) (lv' := [(2, .int (x2 + (-1))), (0, rv V.1 r0), (1, .int x1)]) hC d_m7_latestOfPart_50 2 rfl rfl (by decide) rfl ?_
  refine Sm.goto (tgt := 8) hC d_m7_latestOfPart_53 (by decide) ?_
  refine Sm.sub [1, 2, 0] rfl ?_
  exact hk8 r0 x1 (x2 + (-1)) M
set_option maxRecDepth 100000 in
set_option maxHeartbeats 4000000 in
theorem w_m7_latestOfPart_8 {V : Ev} {C : Cx} {n0 : Nat} (hC : Cok V C y_m7_latestOfPart.cls b_m7_latestOfPart 3 n0 (some .int) y_m7_latestOfPart.name) (hR : cR C = rm_m7_latestOfPart)  : ∀ (n : Nat) (r0 : Nat) (x1 : Int32) (x2 : Int32) (M : Mm), Sm V C 3 n0 n0 (qI V C) 8 [(0, rv V.1 r0), (1, .int x1), (2, .int x2)] [] M (s_m7_latestOfPart_8 n r0 x1 x2 M) := by
  intro n
  induction n with
  | zero => exact fun r0 x1 x2 M => Sm.none_
  | succ n ih =>
    intro r0 x1 x2 M
    unfold s_m7_latestOfPart_8
    refine Sm.iload_n hC d_m7_latestOfPart_8 rfl 2 rfl ?_
    refine Sm.if_lt (tgt := 56) hC d_m7_latestOfPart_9 (by decide) ?_ ?_
    · refine Sm.iconst (v := -1) hC d_m7_latestOfPart_56 (by decide) ?_
      exact Sm.iret hC d_m7_latestOfPart_57 rfl (Nat.sub_self _)
    · refine Sm.aload_n hC d_m7_latestOfPart_12 rfl 0 rfl ?_
      refine Sm.iload_n hC d_m7_latestOfPart_13 rfl 2 rfl ?_
      refine Sm.callVi 7 (As := [.int x2]) (st := []) hC hR cw_m7_isThere (tw_i 742 (by decide +kernel)) (tw_i 744 (by decide +kernel)) (tw_i 14 (by decide +kernel)) ⟨_, rfl, rfl⟩ (fun r9 M9 h9 => ok_m7_isThere h9) rfl rfl (RW.of ⟨rfl, rfl, by decide, by decide⟩) (by simp) d_m7_latestOfPart_14 (fun v1 M2 => ?_)
      refine Sm.if_eq (tgt := 50) hC d_m7_latestOfPart_17 (by decide) ?_ ?_
      · exact w_m7_latestOfPart_50 hC hR (s_m7_latestOfPart_8 n) ih r0 x1 x2 M2
      · refine Sm.aload_n hC d_m7_latestOfPart_20 rfl 0 rfl ?_
        refine Sm.getR hC fl_m7_20 rfl d_m7_latestOfPart_21 (fun v3 => ?_)
        refine Sm.iload_n hC d_m7_latestOfPart_24 rfl 2 rfl ?_
        refine Sm.aald (Cn := n_c3) hC ⟨by decide, by decide⟩ rfl d_m7_latestOfPart_25 (fun v4 => ?_)
        refine Sm.getI hC fl_m7_72 rfl d_m7_latestOfPart_26 (fun v5 => ?_)
        refine Sm.callSNi (As := [.int v5]) (st := []) (host := "NewsWire") hC hR cw_m10_hasPart (by decide +kernel) (tw_i 441 (by decide +kernel)) (fun r9 M9 h9 => ok_m10_hasPart h9) rfl rfl (RW.of ⟨rfl, rfl, by decide, by decide⟩) (by simp) d_m7_latestOfPart_29 (fun v6 M7 => ?_)
        refine Sm.if_eq (tgt := 50) hC d_m7_latestOfPart_32 (by decide) ?_ ?_
        · exact w_m7_latestOfPart_50 hC hR (s_m7_latestOfPart_8 n) ih r0 x1 x2 M7
        · refine Sm.aload_n hC d_m7_latestOfPart_35 rfl 0 rfl ?_
          refine Sm.getR hC fl_m7_20 rfl d_m7_latestOfPart_36 (fun v8 => ?_)
          refine Sm.iload_n hC d_m7_latestOfPart_39 rfl 2 rfl ?_
          refine Sm.aald (Cn := n_c3) hC ⟨by decide, by decide⟩ rfl d_m7_latestOfPart_40 (fun v9 => ?_)
          refine Sm.getI hC fl_m7_78 rfl d_m7_latestOfPart_41 (fun v10 => ?_)
          refine Sm.iload_n hC d_m7_latestOfPart_44 rfl 1 rfl ?_
          refine Sm.icmp_ne (tgt := 50) hC d_m7_latestOfPart_45 (by decide) ?_ ?_
          · exact w_m7_latestOfPart_50 hC hR (s_m7_latestOfPart_8 n) ih r0 x1 x2 M7
          · refine Sm.iload_n hC d_m7_latestOfPart_48 rfl 2 rfl ?_
            exact Sm.iret hC d_m7_latestOfPart_49 rfl (Nat.sub_self _)
set_option maxRecDepth 100000 in
set_option maxHeartbeats 4000000 in
theorem ok_m7_latestOfPart {l : Launch} {V : Ev} {M M' : Mm} {r : Int32} {r0 : Nat} {a1 : Int32} (h : s_m7_latestOfPart r0 a1 M = some (r, M')) : Met l y_m7_latestOfPart (Cond.code y_m7_latestOfPart b_m7_latestOfPart 3 (some .int) :: TW) rm_m7_latestOfPart (va_Pc [rv V.1 r0, .int a1] (Wd V M)) (QC V (some (.int r)) M' 0) 0 0 (Af V) := by
  refine met_of (fun x : Int32 => some (.int x)) (lv0 := [(0, rv V.1 r0), (1, .int a1)]) (by decide) (by simp [lg_sl, cat_rv, cat_i, cat_l, cat_f]) (by simp [lv_args, cat_rv, cat_i, cat_l, cat_f]) (fun C hl hR hC => ?_) h
  subst hl
  generalize mN M = n0 at hC ⊢
  unfold s_m7_latestOfPart
  refine Sm.aload_n hC d_m7_latestOfPart_0 rfl 0 rfl ?_
  refine Sm.getR hC fl_m7_20 rfl d_m7_latestOfPart_1 (fun v1 => ?_)
  refine Sm.alen hC (by decide) rfl d_m7_latestOfPart_4 (fun v2 => ?_)
  refine Sm.iconst (v := 1) hC d_m7_latestOfPart_5 (by decide) ?_
  refine Sm.isub hC d_m7_latestOfPart_6 ?_
  refine Sm.istore_n (lv' := [(2, .int (v2 - (1 : Int32))), (0, rv V.1 r0), (1, .int a1)]) hC d_m7_latestOfPart_7 rfl (by decide) rfl ?_
  refine Sm.sub [1, 2, 0] rfl ?_
  exact w_m7_latestOfPart_8 hC hR FU r0 a1 (v2 - (1 : Int32)) M
/-! NewsWire$StoryText.isPartBehind(I)Z -/
abbrev b_m7_isPartBehind : ByteArray := prog_9_method_8_code
def y_m7_isPartBehind : MethodName := ⟨"NewsWire$StoryText", "isPartBehind", "(I)Z"⟩
def rm_m7_isPartBehind : Room := { frames := 3, cells := 0, slots := 0, locals := 103 }
theorem cw_m7_isPartBehind : CW y_m7_isPartBehind b_m7_isPartBehind 3 (some .boolean) 1 := ⟨tw_i 59 (by decide +kernel), tw_i 770 (by decide +kernel), by decide, by decide, by decide +kernel⟩
theorem d_m7_isPartBehind_0 : decode b_m7_isPartBehind 0 = .ok (.iload_n 1, 1) := by decide +kernel
theorem d_m7_isPartBehind_1 : decode b_m7_isPartBehind 1 = .ok (.iconst 1, 1) := by decide +kernel
theorem d_m7_isPartBehind_2 : decode b_m7_isPartBehind 2 = .ok (.iadd, 1) := by decide +kernel
theorem d_m7_isPartBehind_3 : decode b_m7_isPartBehind 3 = .ok (.istore_n 2, 1) := by decide +kernel
theorem d_m7_isPartBehind_4 : decode b_m7_isPartBehind 4 = .ok (.iload_n 2, 1) := by decide +kernel
theorem d_m7_isPartBehind_5 : decode b_m7_isPartBehind 5 = .ok (.bipush 8, 2) := by decide +kernel
theorem d_m7_isPartBehind_7 : decode b_m7_isPartBehind 7 = .ok (.if_icmp .ge 20, 3) := by decide +kernel
theorem d_m7_isPartBehind_10 : decode b_m7_isPartBehind 10 = .ok (.aload_n 0, 1) := by decide +kernel
theorem d_m7_isPartBehind_11 : decode b_m7_isPartBehind 11 = .ok (.iload_n 2, 1) := by decide +kernel
theorem d_m7_isPartBehind_12 : decode b_m7_isPartBehind 12 = .ok (.invokevirtual 52, 3) := by decide +kernel
theorem d_m7_isPartBehind_15 : decode b_m7_isPartBehind 15 = .ok (.iconst (-1), 1) := by decide +kernel
theorem d_m7_isPartBehind_16 : decode b_m7_isPartBehind 16 = .ok (.if_icmp .eq 5, 3) := by decide +kernel
theorem d_m7_isPartBehind_19 : decode b_m7_isPartBehind 19 = .ok (.iconst 1, 1) := by decide +kernel
theorem d_m7_isPartBehind_20 : decode b_m7_isPartBehind 20 = .ok (.ireturn, 1) := by decide +kernel
theorem d_m7_isPartBehind_21 : decode b_m7_isPartBehind 21 = .ok (.iinc 2 1, 3) := by decide +kernel
theorem d_m7_isPartBehind_24 : decode b_m7_isPartBehind 24 = .ok (.goto (-20), 3) := by decide +kernel
theorem d_m7_isPartBehind_27 : decode b_m7_isPartBehind 27 = .ok (.iconst 0, 1) := by decide +kernel
theorem d_m7_isPartBehind_28 : decode b_m7_isPartBehind 28 = .ok (.ireturn, 1) := by decide +kernel
def s_m7_isPartBehind_4  : Nat → Nat → Int32 → Mm → Option (Int32 × Mm)
  | 0, _, _, _ => none
  | n + 1, r0, x2, M => (if (8 : Int32) ≤ x2 then rz (0 : Int32) (some ((0 : Int32), M)) else cl (has M r0 17) (s_m7_latestOfPart r0 x2 M) (fun v1 M2 => (if v1 = (-1 : Int32) then (s_m7_isPartBehind_4 n) r0 (x2 + 1) M2 else rz (1 : Int32) (some ((1 : Int32), M2)))))
def s_m7_isPartBehind (r0 : Nat) (a1 : Int32) (M : Mm) : Option (Int32 × Mm) := s_m7_isPartBehind_4 FU r0 (a1 + (1 : Int32)) M
set_option maxRecDepth 100000 in
set_option maxHeartbeats 4000000 in
theorem w_m7_isPartBehind_4 {V : Ev} {C : Cx} {n0 : Nat} (hC : Cok V C y_m7_isPartBehind.cls b_m7_isPartBehind 3 n0 (some .boolean) y_m7_isPartBehind.name) (hR : cR C = rm_m7_isPartBehind)  : ∀ (n : Nat) (r0 : Nat) (x2 : Int32) (M : Mm), Sm V C 3 n0 n0 (qI V C) 4 [(0, rv V.1 r0), (2, .int x2)] [] M (s_m7_isPartBehind_4 n r0 x2 M) := by
  intro n
  induction n with
  | zero => exact fun r0 x2 M => Sm.none_
  | succ n ih =>
    intro r0 x2 M
    unfold s_m7_isPartBehind_4
    refine Sm.iload_n hC d_m7_isPartBehind_4 rfl 1 rfl ?_
    refine Sm.bipush (v := 8) hC d_m7_isPartBehind_5 (by decide) ?_
    refine Sm.icmp_ge (tgt := 27) hC d_m7_isPartBehind_7 (by decide) ?_ ?_
    · refine Sm.iconst (v := 0) hC d_m7_isPartBehind_27 (by decide) ?_
      exact Sm.zret hC d_m7_isPartBehind_28 rfl (Nat.sub_self _)
    · refine Sm.aload_n hC d_m7_isPartBehind_10 rfl 0 rfl ?_
      refine Sm.iload_n hC d_m7_isPartBehind_11 rfl 1 rfl ?_
      refine Sm.callVi 7 (As := [.int x2]) (st := []) hC hR cw_m7_latestOfPart (tw_i 762 (by decide +kernel)) (tw_i 764 (by decide +kernel)) (tw_i 19 (by decide +kernel)) ⟨_, rfl, rfl⟩ (fun r9 M9 h9 => ok_m7_latestOfPart h9) rfl rfl (RW.of ⟨rfl, rfl, by decide, by decide⟩) (by simp) d_m7_isPartBehind_12 (fun v1 M2 => ?_)
      refine Sm.iconst (v := -1) hC d_m7_isPartBehind_15 (by decide) ?_
      refine Sm.icmp_eq (tgt := 21) hC d_m7_isPartBehind_16 (by decide) ?_ ?_
      · refine Sm.iinc (v := x2 + 1) (lv' := [(2, .int (x2 + 1)), (0, rv V.1 r0)]) hC d_m7_isPartBehind_21 1 rfl rfl (by decide) rfl ?_
        refine Sm.goto (tgt := 4) hC d_m7_isPartBehind_24 (by decide) ?_
        refine Sm.sub [1, 0] rfl ?_
        exact ih r0 (x2 + 1) M2
      · refine Sm.iconst (v := 1) hC d_m7_isPartBehind_19 (by decide) ?_
        exact Sm.zret hC d_m7_isPartBehind_20 rfl (Nat.sub_self _)
set_option maxRecDepth 100000 in
set_option maxHeartbeats 4000000 in
theorem ok_m7_isPartBehind {l : Launch} {V : Ev} {M M' : Mm} {r : Int32} {r0 : Nat} {a1 : Int32} (h : s_m7_isPartBehind r0 a1 M = some (r, M')) : Met l y_m7_isPartBehind (Cond.code y_m7_isPartBehind b_m7_isPartBehind 3 (some .boolean) :: TW) rm_m7_isPartBehind (va_Pc [rv V.1 r0, .int a1] (Wd V M)) (QC V (some (.int r)) M' 0) 0 0 (Af V) := by
  refine met_of (fun x : Int32 => some (.int x)) (lv0 := [(0, rv V.1 r0), (1, .int a1)]) (by decide) (by simp [lg_sl, cat_rv, cat_i, cat_l, cat_f]) (by simp [lv_args, cat_rv, cat_i, cat_l, cat_f]) (fun C hl hR hC => ?_) h
  subst hl
  generalize mN M = n0 at hC ⊢
  unfold s_m7_isPartBehind
  refine Sm.iload_n hC d_m7_isPartBehind_0 rfl 1 rfl ?_
  refine Sm.iconst (v := 1) hC d_m7_isPartBehind_1 (by decide) ?_
  refine Sm.iadd hC d_m7_isPartBehind_2 ?_
  refine Sm.istore_n (lv' := [(2, .int (a1 + (1 : Int32))), (0, rv V.1 r0), (1, .int a1)]) hC d_m7_isPartBehind_3 rfl (by decide) rfl ?_
  refine Sm.sub [1, 0] rfl ?_
  exact w_m7_isPartBehind_4 hC hR FU r0 (a1 + (1 : Int32)) M
/-! NewsWire$StoryText.join([LNewsWire$Piece;ILNewsWire$Paper;I)V -/
theorem fl_m7_42 : FL "NewsWire$StoryText" 42 7 7 0 false .int := ⟨_, _, _, _, rfl, in_c7, ty_c7, nm_c7, by decide, rfl, tw_i 175 (by decide +kernel), rfl, rfl, rfl, rfl⟩
theorem fl_m7_49 : FL "NewsWire$StoryText" 49 7 9 0 false .int := ⟨_, _, _, _, rfl, in_c7, ty_c7, nm_c7, by decide, rfl, tw_i 179 (by decide +kernel), rfl, rfl, rfl, rfl⟩
theorem fl_m7_60 : FL "NewsWire$StoryText" 60 7 8 0 false .int := ⟨_, _, _, _, rfl, in_c7, ty_c7, nm_c7, by decide, rfl, tw_i 177 (by decide +kernel), rfl, rfl, rfl, rfl⟩
abbrev b_m7_join : ByteArray := prog_9_method_2_code
def y_m7_join : MethodName := ⟨"NewsWire$StoryText", "join", "([LNewsWire$Piece;ILNewsWire$Paper;I)V"⟩
def rm_m7_join : Room := { frames := 4, cells := 0, slots := 0, locals := 130 }
theorem cw_m7_join : CW y_m7_join b_m7_join 6 none 4 := ⟨tw_i 59 (by decide +kernel), tw_i 728 (by decide +kernel), by decide, by decide, by decide +kernel⟩
theorem d_m7_join_0 : decode b_m7_join 0 = .ok (.aload_n 0, 1) := by decide +kernel
theorem d_m7_join_1 : decode b_m7_join 1 = .ok (.aload_n 1, 1) := by decide +kernel
theorem d_m7_join_2 : decode b_m7_join 2 = .ok (.putfield 20, 3) := by decide +kernel
theorem d_m7_join_5 : decode b_m7_join 5 = .ok (.aload_n 0, 1) := by decide +kernel
theorem d_m7_join_6 : decode b_m7_join 6 = .ok (.iload_n 2, 1) := by decide +kernel
theorem d_m7_join_7 : decode b_m7_join 7 = .ok (.aload_n 3, 1) := by decide +kernel
theorem d_m7_join_8 : decode b_m7_join 8 = .ok (.iload 4, 2) := by decide +kernel
theorem d_m7_join_10 : decode b_m7_join 10 = .ok (.invokevirtual 30, 3) := by decide +kernel
theorem d_m7_join_13 : decode b_m7_join 13 = .ok (.aload_n 0, 1) := by decide +kernel
theorem d_m7_join_14 : decode b_m7_join 14 = .ok (.iconst 0, 1) := by decide +kernel
theorem d_m7_join_15 : decode b_m7_join 15 = .ok (.putfield 34, 3) := by decide +kernel
theorem d_m7_join_18 : decode b_m7_join 18 = .ok (.aload_n 0, 1) := by decide +kernel
theorem d_m7_join_19 : decode b_m7_join 19 = .ok (.aload_n 0, 1) := by decide +kernel
theorem d_m7_join_20 : decode b_m7_join 20 = .ok (.invokevirtual 38, 3) := by decide +kernel
theorem d_m7_join_23 : decode b_m7_join 23 = .ok (.putfield 42, 3) := by decide +kernel
theorem d_m7_join_26 : decode b_m7_join 26 = .ok (.aload_n 0, 1) := by decide +kernel
theorem d_m7_join_27 : decode b_m7_join 27 = .ok (.getfield 42, 3) := by decide +kernel
theorem d_m7_join_30 : decode b_m7_join 30 = .ok (.iconst (-1), 1) := by decide +kernel
theorem d_m7_join_31 : decode b_m7_join 31 = .ok (.if_icmp .eq 11, 3) := by decide +kernel
theorem d_m7_join_34 : decode b_m7_join 34 = .ok (.aload_n 0, 1) := by decide +kernel
theorem d_m7_join_35 : decode b_m7_join 35 = .ok (.aload_n 0, 1) := by decide +kernel
theorem d_m7_join_36 : decode b_m7_join 36 = .ok (.getfield 42, 3) := by decide +kernel
theorem d_m7_join_39 : decode b_m7_join 39 = .ok (.invokevirtual 45, 3) := by decide +kernel
theorem d_m7_join_42 : decode b_m7_join 42 = .ok (.aload_n 0, 1) := by decide +kernel
theorem d_m7_join_43 : decode b_m7_join 43 = .ok (.iconst 0, 1) := by decide +kernel
theorem d_m7_join_44 : decode b_m7_join 44 = .ok (.putfield 49, 3) := by decide +kernel
theorem d_m7_join_47 : decode b_m7_join 47 = .ok (.aload_n 0, 1) := by decide +kernel
theorem d_m7_join_48 : decode b_m7_join 48 = .ok (.iconst 0, 1) := by decide +kernel
theorem d_m7_join_49 : decode b_m7_join 49 = .ok (.invokevirtual 52, 3) := by decide +kernel
theorem d_m7_join_52 : decode b_m7_join 52 = .ok (.istore 5, 2) := by decide +kernel
theorem d_m7_join_54 : decode b_m7_join 54 = .ok (.iload 5, 2) := by decide +kernel
theorem d_m7_join_56 : decode b_m7_join 56 = .ok (.iconst (-1), 1) := by decide +kernel
theorem d_m7_join_57 : decode b_m7_join 57 = .ok (.if_icmp .eq 41, 3) := by decide +kernel
theorem d_m7_join_60 : decode b_m7_join 60 = .ok (.aload_n 0, 1) := by decide +kernel
theorem d_m7_join_61 : decode b_m7_join 61 = .ok (.getfield 49, 3) := by decide +kernel
theorem d_m7_join_64 : decode b_m7_join 64 = .ok (.bipush 8, 2) := by decide +kernel
theorem d_m7_join_66 : decode b_m7_join 66 = .ok (.if_icmp .ge 32, 3) := by decide +kernel
theorem d_m7_join_69 : decode b_m7_join 69 = .ok (.aload_n 0, 1) := by decide +kernel
theorem d_m7_join_70 : decode b_m7_join 70 = .ok (.iload 5, 2) := by decide +kernel
theorem d_m7_join_72 : decode b_m7_join 72 = .ok (.invokevirtual 45, 3) := by decide +kernel
theorem d_m7_join_75 : decode b_m7_join 75 = .ok (.aload_n 0, 1) := by decide +kernel
theorem d_m7_join_76 : decode b_m7_join 76 = .ok (.dup, 1) := by decide +kernel
theorem d_m7_join_77 : decode b_m7_join 77 = .ok (.getfield 49, 3) := by decide +kernel
theorem d_m7_join_80 : decode b_m7_join 80 = .ok (.iconst 1, 1) := by decide +kernel
theorem d_m7_join_81 : decode b_m7_join 81 = .ok (.iadd, 1) := by decide +kernel
theorem d_m7_join_82 : decode b_m7_join 82 = .ok (.putfield 49, 3) := by decide +kernel
theorem d_m7_join_85 : decode b_m7_join 85 = .ok (.aload_n 0, 1) := by decide +kernel
theorem d_m7_join_86 : decode b_m7_join 86 = .ok (.aload_n 0, 1) := by decide +kernel
theorem d_m7_join_87 : decode b_m7_join 87 = .ok (.getfield 49, 3) := by decide +kernel
theorem d_m7_join_90 : decode b_m7_join 90 = .ok (.invokevirtual 52, 3) := by decide +kernel
theorem d_m7_join_93 : decode b_m7_join 93 = .ok (.istore 5, 2) := by decide +kernel
theorem d_m7_join_95 : decode b_m7_join 95 = .ok (.goto (-41), 3) := by decide +kernel
theorem d_m7_join_98 : decode b_m7_join 98 = .ok (.aload_n 0, 1) := by decide +kernel
theorem d_m7_join_99 : decode b_m7_join 99 = .ok (.aload_n 0, 1) := by decide +kernel
theorem d_m7_join_100 : decode b_m7_join 100 = .ok (.aload_n 0, 1) := by decide +kernel
theorem d_m7_join_101 : decode b_m7_join 101 = .ok (.getfield 49, 3) := by decide +kernel
theorem d_m7_join_104 : decode b_m7_join 104 = .ok (.invokevirtual 56, 3) := by decide +kernel
theorem d_m7_join_107 : decode b_m7_join 107 = .ok (.ifCond .eq 10, 3) := by decide +kernel
theorem d_m7_join_110 : decode b_m7_join 110 = .ok (.aload_n 0, 1) := by decide +kernel
theorem d_m7_join_111 : decode b_m7_join 111 = .ok (.getfield 49, 3) := by decide +kernel
theorem d_m7_join_114 : decode b_m7_join 114 = .ok (.goto 4, 3) := by decide +kernel
theorem d_m7_join_117 : decode b_m7_join 117 = .ok (.iconst (-1), 1) := by decide +kernel
theorem d_m7_join_118 : decode b_m7_join 118 = .ok (.putfield 60, 3) := by decide +kernel
theorem d_m7_join_121 : decode b_m7_join 121 = .ok (.return_, 1) := by decide +kernel
def s_m7_join_118  (t0 : Nat) (t1 : Int32) (M : Mm) : Option (Unit × Mm) := pI M t0 17 8 t1 (fun M1 => some ((), M1))
def s_m7_join_98  (r0 : Nat) (M : Mm) : Option (Unit × Mm) := gI M r0 17 9 (fun v1 => cl (has M r0 17) (s_m7_isPartBehind r0 v1 M) (fun v2 M3 => (if v2 = 0 then s_m7_join_118 r0 (-1 : Int32) M3 else gI M3 r0 17 9 (fun v4 => s_m7_join_118 r0 v4 M3))))
def s_m7_join_54  : Nat → Nat → Int32 → Mm → Option (Unit × Mm)
  | 0, _, _, _ => none
  | n + 1, r0, x5, M => (if x5 = (-1 : Int32) then s_m7_join_98 r0 M else gI M r0 17 9 (fun v1 => (if (8 : Int32) ≤ v1 then s_m7_join_98 r0 M else cl (has M r0 17) (s_m7_appendPiece r0 x5 M) (fun _ M2 => gI M2 r0 17 9 (fun v3 => pI M2 r0 17 9 (v3 + (1 : Int32)) (fun M4 => gI M4 r0 17 9 (fun v5 => cl (has M4 r0 17) (s_m7_latestOfPart r0 v5 M4) (fun v6 M7 => (s_m7_join_54 n) r0 v6 M7))))))))
def s_m7_join_42  (r0 : Nat) (M : Mm) : Option (Unit × Mm) := pI M r0 17 9 (0 : Int32) (fun M1 => cl (has M1 r0 17) (s_m7_latestOfPart r0 (0 : Int32) M1) (fun v2 M3 => s_m7_join_54 FU r0 v2 M3))
def s_m7_join (r0 : Nat) (r1 : Nat) (a2 : Int32) (r3 : Nat) (a4 : Int32) (M : Mm) : Option (Unit × Mm) := pR M r0 17 2 r1 (fun M1 => cl (has M1 r0 17) (s_m7_findThere r0 a2 r3 a4 M1) (fun _ M2 => pI M2 r0 17 6 (0 : Int32) (fun M3 => cl (has M3 r0 17) (s_m7_latestLead r0 M3) (fun v4 M5 => pI M5 r0 17 7 v4 (fun M6 => gI M6 r0 17 7 (fun v7 => (if v7 = (-1 : Int32) then s_m7_join_42 r0 M6 else gI M6 r0 17 7 (fun v8 => cl (has M6 r0 17) (s_m7_appendPiece r0 v8 M6) (fun _ M9 => s_m7_join_42 r0 M9)))))))))
set_option maxRecDepth 100000 in
set_option maxHeartbeats 4000000 in
theorem w_m7_join_118 {V : Ev} {C : Cx} {n0 : Nat} (hC : Cok V C y_m7_join.cls b_m7_join 6 n0 none y_m7_join.name) (hR : cR C = rm_m7_join)  : ∀ (t0 : Nat) (t1 : Int32) (M : Mm), Sm V C 6 n0 n0 (qV V C) 118 [] [.int t1, rv V.1 t0] M (s_m7_join_118 t0 t1 M) := by
  intro t0 t1 M
  unfold s_m7_join_118
  refine Sm.putI hC fl_m7_60 rfl d_m7_join_118 (fun M1 => ?_)
  exact Sm.vret hC d_m7_join_121 rfl (Nat.sub_self _)
set_option maxRecDepth 100000 in
set_option maxHeartbeats 4000000 in
theorem w_m7_join_98 {V : Ev} {C : Cx} {n0 : Nat} (hC : Cok V C y_m7_join.cls b_m7_join 6 n0 none y_m7_join.name) (hR : cR C = rm_m7_join)  : ∀ (r0 : Nat) (M : Mm), Sm V C 6 n0 n0 (qV V C) 98 [(0, rv V.1 r0)] [] M (s_m7_join_98 r0 M) := by
  intro r0 M
  unfold s_m7_join_98
  refine Sm.aload_n hC d_m7_join_98 rfl 0 rfl ?_
  refine Sm.aload_n hC d_m7_join_99 rfl 0 rfl ?_
  refine Sm.aload_n hC d_m7_join_100 rfl 0 rfl ?_
  refine Sm.getI hC fl_m7_49 rfl d_m7_join_101 (fun v1 => ?_)
  refine Sm.callVi 7 (As := [.int v1]) (st := [rv V.1 r0]) hC hR cw_m7_isPartBehind (tw_i 767 (by decide +kernel)) (tw_i 769 (by decide +kernel)) (tw_i 20 (by decide +kernel)) ⟨_, rfl, rfl⟩ (fun r9 M9 h9 => ok_m7_isPartBehind h9) rfl rfl (RW.of ⟨rfl, rfl, by decide, by decide⟩) (by simp) d_m7_join_104 (fun v2 M3 => ?_)
  refine Sm.if_eq (tgt := 117) hC d_m7_join_107 (by decide) ?_ ?_
  · refine Sm.iconst (v := -1) hC d_m7_join_117 (by decide) ?_
    refine Sm.sub [] rfl ?_
    exact w_m7_join_118 hC hR r0 (-1 : Int32) M3
  · refine Sm.aload_n hC d_m7_join_110 rfl 0 rfl ?_
    refine Sm.getI hC fl_m7_49 rfl d_m7_join_111 (fun v4 => ?_)
    refine Sm.goto (tgt := 118) hC d_m7_join_114 (by decide) ?_
    refine Sm.sub [] rfl ?_
    exact w_m7_join_118 hC hR r0 v4 M3
set_option maxRecDepth 100000 in
set_option maxHeartbeats 4000000 in
theorem w_m7_join_54 {V : Ev} {C : Cx} {n0 : Nat} (hC : Cok V C y_m7_join.cls b_m7_join 6 n0 none y_m7_join.name) (hR : cR C = rm_m7_join)  : ∀ (n : Nat) (r0 : Nat) (x5 : Int32) (M : Mm), Sm V C 6 n0 n0 (qV V C) 54 [(0, rv V.1 r0), (5, .int x5)] [] M (s_m7_join_54 n r0 x5 M) := by
  intro n
  induction n with
  | zero => exact fun r0 x5 M => Sm.none_
  | succ n ih =>
    intro r0 x5 M
    unfold s_m7_join_54
    refine Sm.iload hC d_m7_join_54 1 rfl ?_
    refine Sm.iconst (v := -1) hC d_m7_join_56 (by decide) ?_
    refine Sm.icmp_eq (tgt := 98) hC d_m7_join_57 (by decide) ?_ ?_
    · refine Sm.sub [0] rfl ?_
      exact w_m7_join_98 hC hR r0 M
    · refine Sm.aload_n hC d_m7_join_60 rfl 0 rfl ?_
      refine Sm.getI hC fl_m7_49 rfl d_m7_join_61 (fun v1 => ?_)
      refine Sm.bipush (v := 8) hC d_m7_join_64 (by decide) ?_
      refine Sm.icmp_ge (tgt := 98) hC d_m7_join_66 (by decide) ?_ ?_
      · refine Sm.sub [0] rfl ?_
        exact w_m7_join_98 hC hR r0 M
      · refine Sm.aload_n hC d_m7_join_69 rfl 0 rfl ?_
        refine Sm.iload hC d_m7_join_70 1 rfl ?_
        refine Sm.callVv 7 (As := [.int x5]) (st := []) hC hR cw_m7_appendPiece (tw_i 746 (by decide +kernel)) (tw_i 748 (by decide +kernel)) (tw_i 15 (by decide +kernel)) ⟨_, rfl, rfl⟩ (fun r9 M9 h9 => ok_m7_appendPiece h9) rfl rfl (RW.of ⟨rfl, rfl, by decide, by decide⟩) (by simp) d_m7_join_72 (fun _ M2 => ?_)
        refine Sm.aload_n hC d_m7_join_75 rfl 0 rfl ?_
        refine Sm.dup hC d_m7_join_76 (cat_rv _ _) ?_
        refine Sm.getI hC fl_m7_49 rfl d_m7_join_77 (fun v3 => ?_)
        refine Sm.iconst (v := 1) hC d_m7_join_80 (by decide) ?_
        refine Sm.iadd hC d_m7_join_81 ?_
        refine Sm.putI hC fl_m7_49 rfl d_m7_join_82 (fun M4 => ?_)
        refine Sm.aload_n hC d_m7_join_85 rfl 0 rfl ?_
        refine Sm.aload_n hC d_m7_join_86 rfl 0 rfl ?_
        refine Sm.getI hC fl_m7_49 rfl d_m7_join_87 (fun v5 => ?_)
        refine Sm.callVi 7 (As := [.int v5]) (st := []) hC hR cw_m7_latestOfPart (tw_i 762 (by decide +kernel)) (tw_i 764 (by decide +kernel)) (tw_i 19 (by decide +kernel)) ⟨_, rfl, rfl⟩ (fun r9 M9 h9 => ok_m7_latestOfPart h9) rfl rfl (RW.of ⟨rfl, rfl, by decide, by decide⟩) (by simp) d_m7_join_90 (fun v6 M7 => ?_)
        refine Sm.istore (lv' := [(5, .int v6), (0, rv V.1 r0)]) hC d_m7_join_93 (by decide) rfl ?_
        refine Sm.goto (tgt := 54) hC d_m7_join_95 (by decide) ?_
        refine Sm.sub [1, 0] rfl ?_
        exact ih r0 v6 M7
set_option maxRecDepth 100000 in
set_option maxHeartbeats 4000000 in
theorem w_m7_join_42 {V : Ev} {C : Cx} {n0 : Nat} (hC : Cok V C y_m7_join.cls b_m7_join 6 n0 none y_m7_join.name) (hR : cR C = rm_m7_join)  : ∀ (r0 : Nat) (M : Mm), Sm V C 6 n0 n0 (qV V C) 42 [(0, rv V.1 r0)] [] M (s_m7_join_42 r0 M) := by
  intro r0 M
  unfold s_m7_join_42
  refine Sm.aload_n hC d_m7_join_42 rfl 0 rfl ?_
  refine Sm.iconst (v := 0) hC d_m7_join_43 (by decide) ?_
  refine Sm.putI hC fl_m7_49 rfl d_m7_join_44 (fun M1 => ?_)
  refine Sm.aload_n hC d_m7_join_47 rfl 0 rfl ?_
  refine Sm.iconst (v := 0) hC d_m7_join_48 (by decide) ?_
  refine Sm.callVi 7 (As := [.int (0 : Int32)]) (st := []) hC hR cw_m7_latestOfPart (tw_i 762 (by decide +kernel)) (tw_i 764 (by decide +kernel)) (tw_i 19 (by decide +kernel)) ⟨_, rfl, rfl⟩ (fun r9 M9 h9 => ok_m7_latestOfPart h9) rfl rfl (RW.of ⟨rfl, rfl, by decide, by decide⟩) (by simp) d_m7_join_49 (fun v2 M3 => ?_)
  refine Sm.istore (lv' := [(5, .int v2), (0, rv V.1 r0)]) hC d_m7_join_52 (by decide) rfl ?_
  refine Sm.sub [1, 0] rfl ?_
  exact w_m7_join_54 hC hR FU r0 v2 M3
set_option maxRecDepth 100000 in
set_option maxHeartbeats 4000000 in
theorem ok_m7_join {l : Launch} {V : Ev} {M M' : Mm} {r : Unit} {r0 : Nat} {r1 : Nat} {a2 : Int32} {r3 : Nat} {a4 : Int32} (h : s_m7_join r0 r1 a2 r3 a4 M = some (r, M')) : Met l y_m7_join (Cond.code y_m7_join b_m7_join 6 none :: TW) rm_m7_join (va_Pc [rv V.1 r0, rv V.1 r1, .int a2, rv V.1 r3, .int a4] (Wd V M)) (QC V none M' 0) 0 0 (Af V) := by
  refine met_of (fun _ : Unit => none) (lv0 := [(0, rv V.1 r0), (1, rv V.1 r1), (2, .int a2), (3, rv V.1 r3), (4, .int a4)]) (by decide) (by simp [lg_sl, cat_rv, cat_i, cat_l, cat_f]) (by simp [lv_args, cat_rv, cat_i, cat_l, cat_f]) (fun C hl hR hC => ?_) h
  subst hl
  generalize mN M = n0 at hC ⊢
  unfold s_m7_join
  refine Sm.aload_n hC d_m7_join_0 rfl 0 rfl ?_
  refine Sm.aload_n hC d_m7_join_1 rfl 1 rfl ?_
  refine Sm.putR hC fl_m7_20 rfl rfl d_m7_join_2 (fun M1 => ?_)
  refine Sm.aload_n hC d_m7_join_5 rfl 0 rfl ?_
  refine Sm.iload_n hC d_m7_join_6 rfl 2 rfl ?_
  refine Sm.aload_n hC d_m7_join_7 rfl 3 rfl ?_
  refine Sm.iload hC d_m7_join_8 4 rfl ?_
  refine Sm.callVv 7 (As := [.int a2, rv V.1 r3, .int a4]) (st := []) hC hR cw_m7_findThere (tw_i 729 (by decide +kernel)) (tw_i 731 (by decide +kernel)) (tw_i 12 (by decide +kernel)) ⟨_, rfl, rfl⟩ (fun r9 M9 h9 => ok_m7_findThere h9) rfl rfl (RW.of ⟨rfl, rfl, by decide, by decide⟩) (by simp) d_m7_join_10 (fun _ M2 => ?_)
  refine Sm.aload_n hC d_m7_join_13 rfl 0 rfl ?_
  refine Sm.iconst (v := 0) hC d_m7_join_14 (by decide) ?_
  refine Sm.putI hC fl_m7_34 rfl d_m7_join_15 (fun M3 => ?_)
  refine Sm.aload_n hC d_m7_join_18 rfl 0 rfl ?_
  refine Sm.aload_n hC d_m7_join_19 rfl 0 rfl ?_
  refine Sm.callVi 7 (As := []) (st := [rv V.1 r0]) hC hR cw_m7_latestLead (tw_i 738 (by decide +kernel)) (tw_i 740 (by decide +kernel)) (tw_i 13 (by decide +kernel)) ⟨_, rfl, rfl⟩ (fun r9 M9 h9 => ok_m7_latestLead h9) rfl rfl (RW.of ⟨rfl, rfl, by decide, by decide⟩) (by simp) d_m7_join_20 (fun v4 M5 => ?_)
  refine Sm.putI hC fl_m7_42 rfl d_m7_join_23 (fun M6 => ?_)
  refine Sm.aload_n hC d_m7_join_26 rfl 0 rfl ?_
  refine Sm.getI hC fl_m7_42 rfl d_m7_join_27 (fun v7 => ?_)
  refine Sm.iconst (v := -1) hC d_m7_join_30 (by decide) ?_
  refine Sm.icmp_eq (tgt := 42) hC d_m7_join_31 (by decide) ?_ ?_
  · refine Sm.sub [0] rfl ?_
    exact w_m7_join_42 hC hR r0 M6
  · refine Sm.aload_n hC d_m7_join_34 rfl 0 rfl ?_
    refine Sm.aload_n hC d_m7_join_35 rfl 0 rfl ?_
    refine Sm.getI hC fl_m7_42 rfl d_m7_join_36 (fun v8 => ?_)
    refine Sm.callVv 7 (As := [.int v8]) (st := []) hC hR cw_m7_appendPiece (tw_i 746 (by decide +kernel)) (tw_i 748 (by decide +kernel)) (tw_i 15 (by decide +kernel)) ⟨_, rfl, rfl⟩ (fun r9 M9 h9 => ok_m7_appendPiece h9) rfl rfl (RW.of ⟨rfl, rfl, by decide, by decide⟩) (by simp) d_m7_join_39 (fun _ M9 => ?_)
    refine Sm.sub [0] rfl ?_
    exact w_m7_join_42 hC hR r0 M9
/-! NewsWire$StoryText.setOfBringers()J -/
abbrev b_m7_setOfBringers : ByteArray := prog_9_method_3_code
def y_m7_setOfBringers : MethodName := ⟨"NewsWire$StoryText", "setOfBringers", "()J"⟩
def rm_m7_setOfBringers : Room := { frames := 1, cells := 0, slots := 0, locals := 60 }
theorem cw_m7_setOfBringers : CW y_m7_setOfBringers b_m7_setOfBringers 4 (some .long) 0 := ⟨tw_i 59 (by decide +kernel), tw_i 790 (by decide +kernel), by decide, by decide, by decide +kernel⟩
theorem d_m7_setOfBringers_0 : decode b_m7_setOfBringers 0 = .ok (.lconst 0, 1) := by decide +kernel
theorem d_m7_setOfBringers_1 : decode b_m7_setOfBringers 1 = .ok (.lstore_n 1, 1) := by decide +kernel
theorem d_m7_setOfBringers_2 : decode b_m7_setOfBringers 2 = .ok (.iconst 0, 1) := by decide +kernel
theorem d_m7_setOfBringers_3 : decode b_m7_setOfBringers 3 = .ok (.istore_n 3, 1) := by decide +kernel
theorem d_m7_setOfBringers_4 : decode b_m7_setOfBringers 4 = .ok (.iload_n 3, 1) := by decide +kernel
theorem d_m7_setOfBringers_5 : decode b_m7_setOfBringers 5 = .ok (.aload_n 0, 1) := by decide +kernel
theorem d_m7_setOfBringers_6 : decode b_m7_setOfBringers 6 = .ok (.getfield 34, 3) := by decide +kernel
theorem d_m7_setOfBringers_9 : decode b_m7_setOfBringers 9 = .ok (.if_icmp .ge 20, 3) := by decide +kernel
theorem d_m7_setOfBringers_12 : decode b_m7_setOfBringers 12 = .ok (.lload_n 1, 1) := by decide +kernel
theorem d_m7_setOfBringers_13 : decode b_m7_setOfBringers 13 = .ok (.lconst 1, 1) := by decide +kernel
theorem d_m7_setOfBringers_14 : decode b_m7_setOfBringers 14 = .ok (.aload_n 0, 1) := by decide +kernel
theorem d_m7_setOfBringers_15 : decode b_m7_setOfBringers 15 = .ok (.getfield 15, 3) := by decide +kernel
theorem d_m7_setOfBringers_18 : decode b_m7_setOfBringers 18 = .ok (.iload_n 3, 1) := by decide +kernel
theorem d_m7_setOfBringers_19 : decode b_m7_setOfBringers 19 = .ok (.iaload, 1) := by decide +kernel
theorem d_m7_setOfBringers_20 : decode b_m7_setOfBringers 20 = .ok (.lshl, 1) := by decide +kernel
theorem d_m7_setOfBringers_21 : decode b_m7_setOfBringers 21 = .ok (.lor, 1) := by decide +kernel
theorem d_m7_setOfBringers_22 : decode b_m7_setOfBringers 22 = .ok (.lstore_n 1, 1) := by decide +kernel
theorem d_m7_setOfBringers_23 : decode b_m7_setOfBringers 23 = .ok (.iinc 3 1, 3) := by decide +kernel
theorem d_m7_setOfBringers_26 : decode b_m7_setOfBringers 26 = .ok (.goto (-22), 3) := by decide +kernel
theorem d_m7_setOfBringers_29 : decode b_m7_setOfBringers 29 = .ok (.lload_n 1, 1) := by decide +kernel
theorem d_m7_setOfBringers_30 : decode b_m7_setOfBringers 30 = .ok (.lreturn, 1) := by decide +kernel
def s_m7_setOfBringers_4  : Nat → Nat → Int64 → Int32 → Mm → Option (Int64 × Mm)
  | 0, _, _, _, _ => none
  | n + 1, r0, l1, x3, M => gI M r0 17 6 (fun v1 => (if v1 ≤ x3 then some (l1, M) else gR M r0 17 1 (fun v2 => aI M v2 0 x3 (fun v3 => (s_m7_setOfBringers_4 n) r0 (l1 ||| ((1 : Int64) <<< (v3.toInt64 &&& 63))) (x3 + 1) M))))
def s_m7_setOfBringers (r0 : Nat) (M : Mm) : Option (Int64 × Mm) := s_m7_setOfBringers_4 FU r0 (0 : Int64) (0 : Int32) M
set_option maxRecDepth 100000 in
set_option maxHeartbeats 4000000 in
theorem w_m7_setOfBringers_4 {V : Ev} {C : Cx} {n0 : Nat} (hC : Cok V C y_m7_setOfBringers.cls b_m7_setOfBringers 4 n0 (some .long) y_m7_setOfBringers.name) (hR : cR C = rm_m7_setOfBringers)  : ∀ (n : Nat) (r0 : Nat) (l1 : Int64) (x3 : Int32) (M : Mm), Sm V C 4 n0 n0 (qL V C) 4 [(0, rv V.1 r0), (1, .long l1), (3, .int x3)] [] M (s_m7_setOfBringers_4 n r0 l1 x3 M) := by
  intro n
  induction n with
  | zero => exact fun r0 l1 x3 M => Sm.none_
  | succ n ih =>
    intro r0 l1 x3 M
    unfold s_m7_setOfBringers_4
    refine Sm.iload_n hC d_m7_setOfBringers_4 rfl 2 rfl ?_
    refine Sm.aload_n hC d_m7_setOfBringers_5 rfl 0 rfl ?_
    refine Sm.getI hC fl_m7_34 rfl d_m7_setOfBringers_6 (fun v1 => ?_)
    refine Sm.icmp_ge (tgt := 29) hC d_m7_setOfBringers_9 (by decide) ?_ ?_
    · refine Sm.lload_n hC d_m7_setOfBringers_29 rfl 1 rfl ?_
      exact Sm.lret hC d_m7_setOfBringers_30 rfl (Nat.sub_self _)
    · refine Sm.lload_n hC d_m7_setOfBringers_12 rfl 1 rfl ?_
      refine Sm.lconst (v := 1) hC d_m7_setOfBringers_13 (by decide) ?_
      refine Sm.aload_n hC d_m7_setOfBringers_14 rfl 0 rfl ?_
      refine Sm.getR hC fl_m7_15 rfl d_m7_setOfBringers_15 (fun v2 => ?_)
      refine Sm.iload_n hC d_m7_setOfBringers_18 rfl 2 rfl ?_
      refine Sm.iald hC d_m7_setOfBringers_19 (fun v3 => ?_)
      refine Sm.lshl hC d_m7_setOfBringers_20 ?_
      refine Sm.lor hC d_m7_setOfBringers_21 ?_
      refine Sm.lstore_n (lv' := [(1, .long (l1 ||| ((1 : Int64) <<< (v3.toInt64 &&& 63)))), (0, rv V.1 r0), (3, .int x3)]) hC d_m7_setOfBringers_22 rfl (by decide) (by simp [cat_rv]) ?_
      refine Sm.iinc (v := x3 + 1) (lv' := [(3, .int (x3 + 1)), (1, .long (l1 ||| ((1 : Int64) <<< (v3.toInt64 &&& 63)))), (0, rv V.1 r0)]) hC d_m7_setOfBringers_23 2 rfl rfl (by decide) rfl ?_
      refine Sm.goto (tgt := 4) hC d_m7_setOfBringers_26 (by decide) ?_
      refine Sm.sub [2, 1, 0] rfl ?_
      exact ih r0 (l1 ||| ((1 : Int64) <<< (v3.toInt64 &&& 63))) (x3 + 1) M
set_option maxRecDepth 100000 in
set_option maxHeartbeats 4000000 in
theorem ok_m7_setOfBringers {l : Launch} {V : Ev} {M M' : Mm} {r : Int64} {r0 : Nat} (h : s_m7_setOfBringers r0 M = some (r, M')) : Met l y_m7_setOfBringers (Cond.code y_m7_setOfBringers b_m7_setOfBringers 4 (some .long) :: TW) rm_m7_setOfBringers (va_Pc [rv V.1 r0] (Wd V M)) (QC V (some (.long r)) M' 0) 0 0 (Af V) := by
  refine met_of (fun x : Int64 => some (.long x)) (lv0 := [(0, rv V.1 r0)]) (by decide) (by simp [lg_sl, cat_rv, cat_i, cat_l, cat_f]) (by simp [lv_args, cat_rv, cat_i, cat_l, cat_f]) (fun C hl hR hC => ?_) h
  subst hl
  generalize mN M = n0 at hC ⊢
  unfold s_m7_setOfBringers
  refine Sm.lconst (v := 0) hC d_m7_setOfBringers_0 (by decide) ?_
  refine Sm.lstore_n (lv' := [(1, .long (0 : Int64)), (0, rv V.1 r0)]) hC d_m7_setOfBringers_1 rfl (by decide) (by simp [cat_rv]) ?_
  refine Sm.iconst (v := 0) hC d_m7_setOfBringers_2 (by decide) ?_
  refine Sm.istore_n (lv' := [(3, .int (0 : Int32)), (1, .long (0 : Int64)), (0, rv V.1 r0)]) hC d_m7_setOfBringers_3 rfl (by decide) rfl ?_
  refine Sm.sub [2, 1, 0] rfl ?_
  exact w_m7_setOfBringers_4 hC hR FU r0 (0 : Int64) (0 : Int32) M
/-! NewsWire$Tape.append(II)V -/
abbrev b_m8_append : ByteArray := prog_10_method_2_code
def y_m8_append : MethodName := ⟨"NewsWire$Tape", "append", "(II)V"⟩
def rm_m8_append : Room := { frames := 1, cells := 0, slots := 0, locals := 60 }
theorem cw_m8_append : CW y_m8_append b_m8_append 4 none 2 := ⟨tw_i 61 (by decide +kernel), tw_i 472 (by decide +kernel), by decide, by decide, by decide +kernel⟩
theorem d_m8_append_0 : decode b_m8_append 0 = .ok (.iload_n 2, 1) := by decide +kernel
theorem d_m8_append_1 : decode b_m8_append 1 = .ok (.iconst 1, 1) := by decide +kernel
theorem d_m8_append_2 : decode b_m8_append 2 = .ok (.isub, 1) := by decide +kernel
theorem d_m8_append_3 : decode b_m8_append 3 = .ok (.istore_n 3, 1) := by decide +kernel
theorem d_m8_append_4 : decode b_m8_append 4 = .ok (.iload_n 3, 1) := by decide +kernel
theorem d_m8_append_5 : decode b_m8_append 5 = .ok (.ifCond .lt 47, 3) := by decide +kernel
theorem d_m8_append_8 : decode b_m8_append 8 = .ok (.aload_n 0, 1) := by decide +kernel
theorem d_m8_append_9 : decode b_m8_append 9 = .ok (.getfield 15, 3) := by decide +kernel
theorem d_m8_append_12 : decode b_m8_append 12 = .ok (.bipush 80, 2) := by decide +kernel
theorem d_m8_append_14 : decode b_m8_append 14 = .ok (.if_icmp .ge 38, 3) := by decide +kernel
theorem d_m8_append_17 : decode b_m8_append 17 = .ok (.aload_n 0, 1) := by decide +kernel
theorem d_m8_append_18 : decode b_m8_append 18 = .ok (.getfield 9, 3) := by decide +kernel
theorem d_m8_append_21 : decode b_m8_append 21 = .ok (.aload_n 0, 1) := by decide +kernel
theorem d_m8_append_22 : decode b_m8_append 22 = .ok (.getfield 15, 3) := by decide +kernel
theorem d_m8_append_25 : decode b_m8_append 25 = .ok (.iload_n 1, 1) := by decide +kernel
theorem d_m8_append_26 : decode b_m8_append 26 = .ok (.bipush 8, 2) := by decide +kernel
theorem d_m8_append_28 : decode b_m8_append 28 = .ok (.iload_n 3, 1) := by decide +kernel
theorem d_m8_append_29 : decode b_m8_append 29 = .ok (.imul, 1) := by decide +kernel
theorem d_m8_append_30 : decode b_m8_append 30 = .ok (.iushr, 1) := by decide +kernel
theorem d_m8_append_31 : decode b_m8_append 31 = .ok (.sipush 255, 3) := by decide +kernel
theorem d_m8_append_34 : decode b_m8_append 34 = .ok (.iand, 1) := by decide +kernel
theorem d_m8_append_35 : decode b_m8_append 35 = .ok (.iastore, 1) := by decide +kernel
theorem d_m8_append_36 : decode b_m8_append 36 = .ok (.aload_n 0, 1) := by decide +kernel
theorem d_m8_append_37 : decode b_m8_append 37 = .ok (.dup, 1) := by decide +kernel
theorem d_m8_append_38 : decode b_m8_append 38 = .ok (.getfield 15, 3) := by decide +kernel
theorem d_m8_append_41 : decode b_m8_append 41 = .ok (.iconst 1, 1) := by decide +kernel
theorem d_m8_append_42 : decode b_m8_append 42 = .ok (.iadd, 1) := by decide +kernel
theorem d_m8_append_43 : decode b_m8_append 43 = .ok (.putfield 15, 3) := by decide +kernel
theorem d_m8_append_46 : decode b_m8_append 46 = .ok (.iinc 3 (-1), 3) := by decide +kernel
theorem d_m8_append_49 : decode b_m8_append 49 = .ok (.goto (-45), 3) := by decide +kernel
theorem d_m8_append_52 : decode b_m8_append 52 = .ok (.return_, 1) := by decide +kernel
def s_m8_append_52   (M : Mm) : Option (Unit × Mm) := some ((), M)
def s_m8_append_4  : Nat → Nat → Int32 → Int32 → Mm → Option (Unit × Mm)
  | 0, _, _, _, _ => none
  | n + 1, r0, x1, x3, M => (if x3 < 0 then s_m8_append_52 M else gI M r0 18 1 (fun v1 => (if (80 : Int32) ≤ v1 then s_m8_append_52 M else gR M r0 18 0 (fun v2 => gI M r0 18 1 (fun v3 => sI M v2 0 v3 (((x1.toUInt32 >>> (((8 : Int32) * x3).toUInt32 &&& Int32.toUInt32 31)).toInt32) &&& (255 : Int32)) (fun M4 => gI M4 r0 18 1 (fun v5 => pI M4 r0 18 1 (v5 + (1 : Int32)) (fun M6 => (s_m8_append_4 n) r0 x1 (x3 + (-1)) M6))))))))
def s_m8_append (r0 : Nat) (a1 : Int32) (a2 : Int32) (M : Mm) : Option (Unit × Mm) := s_m8_append_4 FU r0 a1 (a2 - (1 : Int32)) M
set_option maxRecDepth 100000 in
set_option maxHeartbeats 4000000 in
theorem w_m8_append_52 {V : Ev} {C : Cx} {n0 : Nat} (hC : Cok V C y_m8_append.cls b_m8_append 4 n0 none y_m8_append.name) (hR : cR C = rm_m8_append)  : ∀  (M : Mm), Sm V C 4 n0 n0 (qV V C) 52 [] [] M (s_m8_append_52 M) := by
  intro M
  unfold s_m8_append_52
  exact Sm.vret hC d_m8_append_52 rfl (Nat.sub_self _)
set_option maxRecDepth 100000 in
set_option maxHeartbeats 4000000 in
theorem w_m8_append_4 {V : Ev} {C : Cx} {n0 : Nat} (hC : Cok V C y_m8_append.cls b_m8_append 4 n0 none y_m8_append.name) (hR : cR C = rm_m8_append)  : ∀ (n : Nat) (r0 : Nat) (x1 : Int32) (x3 : Int32) (M : Mm), Sm V C 4 n0 n0 (qV V C) 4 [(0, rv V.1 r0), (1, .int x1), (3, .int x3)] [] M (s_m8_append_4 n r0 x1 x3 M) := by
  intro n
  induction n with
  | zero => exact fun r0 x1 x3 M => Sm.none_
  | succ n ih =>
    intro r0 x1 x3 M
    unfold s_m8_append_4
    refine Sm.iload_n hC d_m8_append_4 rfl 2 rfl ?_
    refine Sm.if_lt (tgt := 52) hC d_m8_append_5 (by decide) ?_ ?_
    · refine Sm.sub [] rfl ?_
      exact w_m8_append_52 hC hR M
    · refine Sm.aload_n hC d_m8_append_8 rfl 0 rfl ?_
      refine Sm.getI hC fl_m8_15 rfl d_m8_append_9 (fun v1 => ?_)
      refine Sm.bipush (v := 80) hC d_m8_append_12 (by decide) ?_
      refine Sm.icmp_ge (tgt := 52) hC d_m8_append_14 (by decide) ?_ ?_
      · refine Sm.sub [] rfl ?_
        exact w_m8_append_52 hC hR M
      · refine Sm.aload_n hC d_m8_append_17 rfl 0 rfl ?_
        refine Sm.getR hC fl_m8_9 rfl d_m8_append_18 (fun v2 => ?_)
        refine Sm.aload_n hC d_m8_append_21 rfl 0 rfl ?_
        refine Sm.getI hC fl_m8_15 rfl d_m8_append_22 (fun v3 => ?_)
        refine Sm.iload_n hC d_m8_append_25 rfl 1 rfl ?_
        refine Sm.bipush (v := 8) hC d_m8_append_26 (by decide) ?_
        refine Sm.iload_n hC d_m8_append_28 rfl 2 rfl ?_
        refine Sm.imul hC d_m8_append_29 ?_
        refine Sm.iushr hC d_m8_append_30 ?_
        refine Sm.sipush (v := 255) hC d_m8_append_31 (by decide) ?_
        refine Sm.iand hC d_m8_append_34 ?_
        refine Sm.iast hC d_m8_append_35 (fun M4 => ?_)
        refine Sm.aload_n hC d_m8_append_36 rfl 0 rfl ?_
        refine Sm.dup hC d_m8_append_37 (cat_rv _ _) ?_
        refine Sm.getI hC fl_m8_15 rfl d_m8_append_38 (fun v5 => ?_)
        refine Sm.iconst (v := 1) hC d_m8_append_41 (by decide) ?_
        refine Sm.iadd hC d_m8_append_42 ?_
        refine Sm.putI hC fl_m8_15 rfl d_m8_append_43 (fun M6 => ?_)
        refine Sm.iinc (v := x3 + (-1)) (lv' := [(3, .int (x3 + (-1))), (0, rv V.1 r0), (1, .int x1)]) hC d_m8_append_46 2 rfl rfl (by decide) rfl ?_
        refine Sm.goto (tgt := 4) hC d_m8_append_49 (by decide) ?_
        refine Sm.sub [1, 2, 0] rfl ?_
        exact ih r0 x1 (x3 + (-1)) M6
set_option maxRecDepth 100000 in
set_option maxHeartbeats 4000000 in
theorem ok_m8_append {l : Launch} {V : Ev} {M M' : Mm} {r : Unit} {r0 : Nat} {a1 : Int32} {a2 : Int32} (h : s_m8_append r0 a1 a2 M = some (r, M')) : Met l y_m8_append (Cond.code y_m8_append b_m8_append 4 none :: TW) rm_m8_append (va_Pc [rv V.1 r0, .int a1, .int a2] (Wd V M)) (QC V none M' 0) 0 0 (Af V) := by
  refine met_of (fun _ : Unit => none) (lv0 := [(0, rv V.1 r0), (1, .int a1), (2, .int a2)]) (by decide) (by simp [lg_sl, cat_rv, cat_i, cat_l, cat_f]) (by simp [lv_args, cat_rv, cat_i, cat_l, cat_f]) (fun C hl hR hC => ?_) h
  subst hl
  generalize mN M = n0 at hC ⊢
  unfold s_m8_append
  refine Sm.iload_n hC d_m8_append_0 rfl 2 rfl ?_
  refine Sm.iconst (v := 1) hC d_m8_append_1 (by decide) ?_
  refine Sm.isub hC d_m8_append_2 ?_
  refine Sm.istore_n (lv' := [(3, .int (a2 - (1 : Int32))), (0, rv V.1 r0), (1, .int a1), (2, .int a2)]) hC d_m8_append_3 rfl (by decide) rfl ?_
  refine Sm.sub [1, 2, 0] rfl ?_
  exact w_m8_append_4 hC hR FU r0 a1 (a2 - (1 : Int32)) M
/-! NewsWire$Wire.open(III)V -/
theorem fl_m9_21 : FL "NewsWire$Wire" 21 9 4 0 false .int := ⟨_, _, _, _, rfl, in_c9, ty_c9, nm_c9, by decide, rfl, tw_i 271 (by decide +kernel), rfl, rfl, rfl, rfl⟩
theorem fl_m9_25 : FL "NewsWire$Wire" 25 9 5 0 false .int := ⟨_, _, _, _, rfl, in_c9, ty_c9, nm_c9, by decide, rfl, tw_i 273 (by decide +kernel), rfl, rfl, rfl, rfl⟩
theorem fl_m9_28 : FL "NewsWire$Wire" 28 9 6 0 false .int := ⟨_, _, _, _, rfl, in_c9, ty_c9, nm_c9, by decide, rfl, tw_i 274 (by decide +kernel), rfl, rfl, rfl, rfl⟩
theorem fl_m9_15 : FL "NewsWire$Wire" 15 9 1 2 true (.array .int) := ⟨_, _, _, _, rfl, in_c9, ty_c9, nm_c9, by decide, rfl, tw_i 265 (by decide +kernel), rfl, rfl, rfl, rfl⟩
theorem fl_m9_18 : FL "NewsWire$Wire" 18 9 2 2 true (.array .int) := ⟨_, _, _, _, rfl, in_c9, ty_c9, nm_c9, by decide, rfl, tw_i 267 (by decide +kernel), rfl, rfl, rfl, rfl⟩
abbrev b_m9_open : ByteArray := prog_11_method_2_code
def y_m9_open : MethodName := ⟨"NewsWire$Wire", "open", "(III)V"⟩
def rm_m9_open : Room := { frames := 1, cells := 0, slots := 0, locals := 60 }
theorem cw_m9_open : CW y_m9_open b_m9_open 5 none 3 := ⟨tw_i 63 (by decide +kernel), tw_i 417 (by decide +kernel), by decide, by decide, by decide +kernel⟩
theorem d_m9_open_0 : decode b_m9_open 0 = .ok (.aload_n 0, 1) := by decide +kernel
theorem d_m9_open_1 : decode b_m9_open 1 = .ok (.iload_n 1, 1) := by decide +kernel
theorem d_m9_open_2 : decode b_m9_open 2 = .ok (.putfield 21, 3) := by decide +kernel
theorem d_m9_open_5 : decode b_m9_open 5 = .ok (.aload_n 0, 1) := by decide +kernel
theorem d_m9_open_6 : decode b_m9_open 6 = .ok (.iload_n 2, 1) := by decide +kernel
theorem d_m9_open_7 : decode b_m9_open 7 = .ok (.putfield 25, 3) := by decide +kernel
theorem d_m9_open_10 : decode b_m9_open 10 = .ok (.aload_n 0, 1) := by decide +kernel
theorem d_m9_open_11 : decode b_m9_open 11 = .ok (.iload_n 3, 1) := by decide +kernel
theorem d_m9_open_12 : decode b_m9_open 12 = .ok (.putfield 28, 3) := by decide +kernel
theorem d_m9_open_15 : decode b_m9_open 15 = .ok (.iconst 0, 1) := by decide +kernel
theorem d_m9_open_16 : decode b_m9_open 16 = .ok (.istore 4, 2) := by decide +kernel
theorem d_m9_open_18 : decode b_m9_open 18 = .ok (.iload 4, 2) := by decide +kernel
theorem d_m9_open_20 : decode b_m9_open 20 = .ok (.bipush 40, 2) := by decide +kernel
theorem d_m9_open_22 : decode b_m9_open 22 = .ok (.if_icmp .ge 25, 3) := by decide +kernel
theorem d_m9_open_25 : decode b_m9_open 25 = .ok (.aload_n 0, 1) := by decide +kernel
theorem d_m9_open_26 : decode b_m9_open 26 = .ok (.getfield 15, 3) := by decide +kernel
theorem d_m9_open_29 : decode b_m9_open 29 = .ok (.iload 4, 2) := by decide +kernel
theorem d_m9_open_31 : decode b_m9_open 31 = .ok (.iconst (-1), 1) := by decide +kernel
theorem d_m9_open_32 : decode b_m9_open 32 = .ok (.iastore, 1) := by decide +kernel
theorem d_m9_open_33 : decode b_m9_open 33 = .ok (.aload_n 0, 1) := by decide +kernel
theorem d_m9_open_34 : decode b_m9_open 34 = .ok (.getfield 18, 3) := by decide +kernel
theorem d_m9_open_37 : decode b_m9_open 37 = .ok (.iload 4, 2) := by decide +kernel
theorem d_m9_open_39 : decode b_m9_open 39 = .ok (.iconst (-1), 1) := by decide +kernel
theorem d_m9_open_40 : decode b_m9_open 40 = .ok (.iastore, 1) := by decide +kernel
theorem d_m9_open_41 : decode b_m9_open 41 = .ok (.iinc 4 1, 3) := by decide +kernel
theorem d_m9_open_44 : decode b_m9_open 44 = .ok (.goto (-26), 3) := by decide +kernel
theorem d_m9_open_47 : decode b_m9_open 47 = .ok (.return_, 1) := by decide +kernel
def s_m9_open_18  : Nat → Nat → Int32 → Mm → Option (Unit × Mm)
  | 0, _, _, _ => none
  | n + 1, r0, x4, M => (if (40 : Int32) ≤ x4 then some ((), M) else gR M r0 19 1 (fun v1 => sI M v1 0 x4 (-1 : Int32) (fun M2 => gR M2 r0 19 2 (fun v3 => sI M2 v3 0 x4 (-1 : Int32) (fun M4 => (s_m9_open_18 n) r0 (x4 + 1) M4)))))
def s_m9_open (r0 : Nat) (a1 : Int32) (a2 : Int32) (a3 : Int32) (M : Mm) : Option (Unit × Mm) := pI M r0 19 4 a1 (fun M1 => pI M1 r0 19 5 a2 (fun M2 => pI M2 r0 19 6 a3 (fun M3 => s_m9_open_18 FU r0 (0 : Int32) M3)))
set_option maxRecDepth 100000 in
set_option maxHeartbeats 4000000 in
theorem w_m9_open_18 {V : Ev} {C : Cx} {n0 : Nat} (hC : Cok V C y_m9_open.cls b_m9_open 5 n0 none y_m9_open.name) (hR : cR C = rm_m9_open)  : ∀ (n : Nat) (r0 : Nat) (x4 : Int32) (M : Mm), Sm V C 5 n0 n0 (qV V C) 18 [(0, rv V.1 r0), (4, .int x4)] [] M (s_m9_open_18 n r0 x4 M) := by
  intro n
  induction n with
  | zero => exact fun r0 x4 M => Sm.none_
  | succ n ih =>
    intro r0 x4 M
    unfold s_m9_open_18
    refine Sm.iload hC d_m9_open_18 1 rfl ?_
    refine Sm.bipush (v := 40) hC d_m9_open_20 (by decide) ?_
    refine Sm.icmp_ge (tgt := 47) hC d_m9_open_22 (by decide) ?_ ?_
    · exact Sm.vret hC d_m9_open_47 rfl (Nat.sub_self _)
    · refine Sm.aload_n hC d_m9_open_25 rfl 0 rfl ?_
      refine Sm.getR hC fl_m9_15 rfl d_m9_open_26 (fun v1 => ?_)
      refine Sm.iload hC d_m9_open_29 1 rfl ?_
      refine Sm.iconst (v := -1) hC d_m9_open_31 (by decide) ?_
      refine Sm.iast hC d_m9_open_32 (fun M2 => ?_)
      refine Sm.aload_n hC d_m9_open_33 rfl 0 rfl ?_
      refine Sm.getR hC fl_m9_18 rfl d_m9_open_34 (fun v3 => ?_)
      refine Sm.iload hC d_m9_open_37 1 rfl ?_
      refine Sm.iconst (v := -1) hC d_m9_open_39 (by decide) ?_
      refine Sm.iast hC d_m9_open_40 (fun M4 => ?_)
      refine Sm.iinc (v := x4 + 1) (lv' := [(4, .int (x4 + 1)), (0, rv V.1 r0)]) hC d_m9_open_41 1 rfl rfl (by decide) rfl ?_
      refine Sm.goto (tgt := 18) hC d_m9_open_44 (by decide) ?_
      refine Sm.sub [1, 0] rfl ?_
      exact ih r0 (x4 + 1) M4
set_option maxRecDepth 100000 in
set_option maxHeartbeats 4000000 in
theorem ok_m9_open {l : Launch} {V : Ev} {M M' : Mm} {r : Unit} {r0 : Nat} {a1 : Int32} {a2 : Int32} {a3 : Int32} (h : s_m9_open r0 a1 a2 a3 M = some (r, M')) : Met l y_m9_open (Cond.code y_m9_open b_m9_open 5 none :: TW) rm_m9_open (va_Pc [rv V.1 r0, .int a1, .int a2, .int a3] (Wd V M)) (QC V none M' 0) 0 0 (Af V) := by
  refine met_of (fun _ : Unit => none) (lv0 := [(0, rv V.1 r0), (1, .int a1), (2, .int a2), (3, .int a3)]) (by decide) (by simp [lg_sl, cat_rv, cat_i, cat_l, cat_f]) (by simp [lv_args, cat_rv, cat_i, cat_l, cat_f]) (fun C hl hR hC => ?_) h
  subst hl
  generalize mN M = n0 at hC ⊢
  unfold s_m9_open
  refine Sm.aload_n hC d_m9_open_0 rfl 0 rfl ?_
  refine Sm.iload_n hC d_m9_open_1 rfl 1 rfl ?_
  refine Sm.putI hC fl_m9_21 rfl d_m9_open_2 (fun M1 => ?_)
  refine Sm.aload_n hC d_m9_open_5 rfl 0 rfl ?_
  refine Sm.iload_n hC d_m9_open_6 rfl 2 rfl ?_
  refine Sm.putI hC fl_m9_25 rfl d_m9_open_7 (fun M2 => ?_)
  refine Sm.aload_n hC d_m9_open_10 rfl 0 rfl ?_
  refine Sm.iload_n hC d_m9_open_11 rfl 3 rfl ?_
  refine Sm.putI hC fl_m9_28 rfl d_m9_open_12 (fun M3 => ?_)
  refine Sm.iconst (v := 0) hC d_m9_open_15 (by decide) ?_
  refine Sm.istore (lv' := [(4, .int (0 : Int32)), (0, rv V.1 r0), (1, .int a1), (2, .int a2), (3, .int a3)]) hC d_m9_open_16 (by decide) rfl ?_
  refine Sm.sub [1, 0] rfl ?_
  exact w_m9_open_18 hC hR FU r0 (0 : Int32) M3
/-! NewsWire$Wire.goesTo(I)Z -/
abbrev b_m9_goesTo : ByteArray := prog_11_method_3_code
def y_m9_goesTo : MethodName := ⟨"NewsWire$Wire", "goesTo", "(I)Z"⟩
def rm_m9_goesTo : Room := { frames := 1, cells := 0, slots := 0, locals := 60 }
theorem cw_m9_goesTo : CW y_m9_goesTo b_m9_goesTo 2 (some .boolean) 1 := ⟨tw_i 63 (by decide +kernel), tw_i 676 (by decide +kernel), by decide, by decide, by decide +kernel⟩
theorem d_m9_goesTo_0 : decode b_m9_goesTo 0 = .ok (.aload_n 0, 1) := by decide +kernel
theorem d_m9_goesTo_1 : decode b_m9_goesTo 1 = .ok (.getfield 25, 3) := by decide +kernel
theorem d_m9_goesTo_4 : decode b_m9_goesTo 4 = .ok (.iload_n 1, 1) := by decide +kernel
theorem d_m9_goesTo_5 : decode b_m9_goesTo 5 = .ok (.ishr, 1) := by decide +kernel
theorem d_m9_goesTo_6 : decode b_m9_goesTo 6 = .ok (.iconst 1, 1) := by decide +kernel
theorem d_m9_goesTo_7 : decode b_m9_goesTo 7 = .ok (.iand, 1) := by decide +kernel
theorem d_m9_goesTo_8 : decode b_m9_goesTo 8 = .ok (.iconst 1, 1) := by decide +kernel
theorem d_m9_goesTo_9 : decode b_m9_goesTo 9 = .ok (.if_icmp .ne 7, 3) := by decide +kernel
theorem d_m9_goesTo_12 : decode b_m9_goesTo 12 = .ok (.iconst 1, 1) := by decide +kernel
theorem d_m9_goesTo_13 : decode b_m9_goesTo 13 = .ok (.goto 4, 3) := by decide +kernel
theorem d_m9_goesTo_16 : decode b_m9_goesTo 16 = .ok (.iconst 0, 1) := by decide +kernel
theorem d_m9_goesTo_17 : decode b_m9_goesTo 17 = .ok (.ireturn, 1) := by decide +kernel
def s_m9_goesTo_17  (t0 : Int32) (M : Mm) : Option (Int32 × Mm) := rz t0 (some (t0, M))
def s_m9_goesTo (r0 : Nat) (a1 : Int32) (M : Mm) : Option (Int32 × Mm) := gI M r0 19 5 (fun v1 => (if ¬ ((v1 >>> (a1 &&& 31)) &&& (1 : Int32)) = (1 : Int32) then s_m9_goesTo_17 (0 : Int32) M else s_m9_goesTo_17 (1 : Int32) M))
set_option maxRecDepth 100000 in
set_option maxHeartbeats 4000000 in
theorem w_m9_goesTo_17 {V : Ev} {C : Cx} {n0 : Nat} (hC : Cok V C y_m9_goesTo.cls b_m9_goesTo 2 n0 (some .boolean) y_m9_goesTo.name) (hR : cR C = rm_m9_goesTo)  : ∀ (t0 : Int32) (M : Mm), Sm V C 2 n0 n0 (qI V C) 17 [] [.int t0] M (s_m9_goesTo_17 t0 M) := by
  intro t0 M
  unfold s_m9_goesTo_17
  exact Sm.zret hC d_m9_goesTo_17 rfl (Nat.sub_self _)
set_option maxRecDepth 100000 in
set_option maxHeartbeats 4000000 in
theorem ok_m9_goesTo {l : Launch} {V : Ev} {M M' : Mm} {r : Int32} {r0 : Nat} {a1 : Int32} (h : s_m9_goesTo r0 a1 M = some (r, M')) : Met l y_m9_goesTo (Cond.code y_m9_goesTo b_m9_goesTo 2 (some .boolean) :: TW) rm_m9_goesTo (va_Pc [rv V.1 r0, .int a1] (Wd V M)) (QC V (some (.int r)) M' 0) 0 0 (Af V) := by
  refine met_of (fun x : Int32 => some (.int x)) (lv0 := [(0, rv V.1 r0), (1, .int a1)]) (by decide) (by simp [lg_sl, cat_rv, cat_i, cat_l, cat_f]) (by simp [lv_args, cat_rv, cat_i, cat_l, cat_f]) (fun C hl hR hC => ?_) h
  subst hl
  generalize mN M = n0 at hC ⊢
  unfold s_m9_goesTo
  refine Sm.aload_n hC d_m9_goesTo_0 rfl 0 rfl ?_
  refine Sm.getI hC fl_m9_25 rfl d_m9_goesTo_1 (fun v1 => ?_)
  refine Sm.iload_n hC d_m9_goesTo_4 rfl 1 rfl ?_
  refine Sm.ishr hC d_m9_goesTo_5 ?_
  refine Sm.iconst (v := 1) hC d_m9_goesTo_6 (by decide) ?_
  refine Sm.iand hC d_m9_goesTo_7 ?_
  refine Sm.iconst (v := 1) hC d_m9_goesTo_8 (by decide) ?_
  refine Sm.icmp_ne (tgt := 16) hC d_m9_goesTo_9 (by decide) ?_ ?_
  · refine Sm.iconst (v := 0) hC d_m9_goesTo_16 (by decide) ?_
    refine Sm.sub [] rfl ?_
    exact w_m9_goesTo_17 hC hR (0 : Int32) M
  · refine Sm.iconst (v := 1) hC d_m9_goesTo_12 (by decide) ?_
    refine Sm.goto (tgt := 17) hC d_m9_goesTo_13 (by decide) ?_
    refine Sm.sub [] rfl ?_
    exact w_m9_goesTo_17 hC hR (1 : Int32) M
