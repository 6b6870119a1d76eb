/-! NewsWireModel.run(I)I -/
theorem fl_m11_253 : FL "NewsWireModel" 253 11 42 0 false .int := ⟨_, _, _, _, rfl, in_c11, ty_c11, nm_c11, by decide, rfl, tw_i 907 (by decide +kernel), rfl, rfl, rfl, rfl⟩
abbrev b_m11_run : ByteArray := prog_13_method_41_code
def y_m11_run : MethodName := ⟨"NewsWireModel", "run", "(I)I"⟩
def rm_m11_run : Room := { frames := 5, cells := 0, slots := 0, locals := 157 }
theorem cw_m11_run : CW y_m11_run b_m11_run 8 (some .int) 1 := ⟨tw_i 66 (by decide +kernel), tw_i 1180 (by decide +kernel), by decide, by decide, by decide +kernel⟩
theorem d_m11_run_0 : decode b_m11_run 0 = .ok (.iload_n 1, 1) := by decide +kernel
theorem d_m11_run_1 : decode b_m11_run 1 = .ok (.ifCond .ge 10, 3) := by decide +kernel
theorem d_m11_run_4 : decode b_m11_run 4 = .ok (.aload_n 0, 1) := by decide +kernel
theorem d_m11_run_5 : decode b_m11_run 5 = .ok (.bipush (-4), 2) := by decide +kernel
theorem d_m11_run_7 : decode b_m11_run 7 = .ok (.invokevirtual 139, 3) := by decide +kernel
theorem d_m11_run_10 : decode b_m11_run 10 = .ok (.ireturn, 1) := by decide +kernel
theorem d_m11_run_11 : decode b_m11_run 11 = .ok (.iload_n 1, 1) := by decide +kernel
theorem d_m11_run_12 : decode b_m11_run 12 = .ok (.iconst 1, 1) := by decide +kernel
theorem d_m11_run_13 : decode b_m11_run 13 = .ok (.sipush 500, 3) := by decide +kernel
theorem d_m11_run_16 : decode b_m11_run 16 = .ok (.invokestatic 135, 3) := by decide +kernel
theorem d_m11_run_19 : decode b_m11_run 19 = .ok (.ifCond .ne 10, 3) := by decide +kernel
theorem d_m11_run_22 : decode b_m11_run 22 = .ok (.aload_n 0, 1) := by decide +kernel
theorem d_m11_run_23 : decode b_m11_run 23 = .ok (.bipush (-7), 2) := by decide +kernel
theorem d_m11_run_25 : decode b_m11_run 25 = .ok (.invokevirtual 139, 3) := by decide +kernel
theorem d_m11_run_28 : decode b_m11_run 28 = .ok (.ireturn, 1) := by decide +kernel
theorem d_m11_run_29 : decode b_m11_run 29 = .ok (.aload_n 0, 1) := by decide +kernel
theorem d_m11_run_30 : decode b_m11_run 30 = .ok (.getfield 243, 3) := by decide +kernel
theorem d_m11_run_33 : decode b_m11_run 33 = .ok (.istore_n 2, 1) := by decide +kernel
theorem d_m11_run_34 : decode b_m11_run 34 = .ok (.iconst 0, 1) := by decide +kernel
theorem d_m11_run_35 : decode b_m11_run 35 = .ok (.istore_n 3, 1) := by decide +kernel
theorem d_m11_run_36 : decode b_m11_run 36 = .ok (.iload_n 3, 1) := by decide +kernel
theorem d_m11_run_37 : decode b_m11_run 37 = .ok (.iload_n 1, 1) := by decide +kernel
theorem d_m11_run_38 : decode b_m11_run 38 = .ok (.if_icmp .ge 115, 3) := by decide +kernel
theorem d_m11_run_41 : decode b_m11_run 41 = .ok (.iconst 0, 1) := by decide +kernel
theorem d_m11_run_42 : decode b_m11_run 42 = .ok (.istore 4, 2) := by decide +kernel
theorem d_m11_run_44 : decode b_m11_run 44 = .ok (.iload 4, 2) := by decide +kernel
theorem d_m11_run_46 : decode b_m11_run 46 = .ok (.aload_n 0, 1) := by decide +kernel
theorem d_m11_run_47 : decode b_m11_run 47 = .ok (.getfield 146, 3) := by decide +kernel
theorem d_m11_run_50 : decode b_m11_run 50 = .ok (.if_icmp .ge 87, 3) := by decide +kernel
theorem d_m11_run_53 : decode b_m11_run 53 = .ok (.aload_n 0, 1) := by decide +kernel
theorem d_m11_run_54 : decode b_m11_run 54 = .ok (.iload 4, 2) := by decide +kernel
theorem d_m11_run_56 : decode b_m11_run 56 = .ok (.aload_n 0, 1) := by decide +kernel
theorem d_m11_run_57 : decode b_m11_run 57 = .ok (.getfield 211, 3) := by decide +kernel
theorem d_m11_run_60 : decode b_m11_run 60 = .ok (.invokevirtual 240, 3) := by decide +kernel
theorem d_m11_run_63 : decode b_m11_run 63 = .ok (.istore 5, 2) := by decide +kernel
theorem d_m11_run_65 : decode b_m11_run 65 = .ok (.aload_n 0, 1) := by decide +kernel
theorem d_m11_run_66 : decode b_m11_run 66 = .ok (.iload 4, 2) := by decide +kernel
theorem d_m11_run_68 : decode b_m11_run 68 = .ok (.invokevirtual 250, 3) := by decide +kernel
theorem d_m11_run_71 : decode b_m11_run 71 = .ok (.istore 6, 2) := by decide +kernel
theorem d_m11_run_73 : decode b_m11_run 73 = .ok (.iconst 0, 1) := by decide +kernel
theorem d_m11_run_74 : decode b_m11_run 74 = .ok (.istore 7, 2) := by decide +kernel
theorem d_m11_run_76 : decode b_m11_run 76 = .ok (.iload 7, 2) := by decide +kernel
theorem d_m11_run_78 : decode b_m11_run 78 = .ok (.aload_n 0, 1) := by decide +kernel
theorem d_m11_run_79 : decode b_m11_run 79 = .ok (.getfield 19, 3) := by decide +kernel
theorem d_m11_run_82 : decode b_m11_run 82 = .ok (.iload 4, 2) := by decide +kernel
theorem d_m11_run_84 : decode b_m11_run 84 = .ok (.iaload, 1) := by decide +kernel
theorem d_m11_run_85 : decode b_m11_run 85 = .ok (.if_icmp .ge 46, 3) := by decide +kernel
theorem d_m11_run_88 : decode b_m11_run 88 = .ok (.iload 6, 2) := by decide +kernel
theorem d_m11_run_90 : decode b_m11_run 90 = .ok (.iconst (-1), 1) := by decide +kernel
theorem d_m11_run_91 : decode b_m11_run 91 = .ok (.if_icmp .eq 40, 3) := by decide +kernel
theorem d_m11_run_94 : decode b_m11_run 94 = .ok (.aload_n 0, 1) := by decide +kernel
theorem d_m11_run_95 : decode b_m11_run 95 = .ok (.dup, 1) := by decide +kernel
theorem d_m11_run_96 : decode b_m11_run 96 = .ok (.getfield 253, 3) := by decide +kernel
theorem d_m11_run_99 : decode b_m11_run 99 = .ok (.iconst 1, 1) := by decide +kernel
theorem d_m11_run_100 : decode b_m11_run 100 = .ok (.iadd, 1) := by decide +kernel
theorem d_m11_run_101 : decode b_m11_run 101 = .ok (.putfield 253, 3) := by decide +kernel
theorem d_m11_run_104 : decode b_m11_run 104 = .ok (.iload 5, 2) := by decide +kernel
theorem d_m11_run_106 : decode b_m11_run 106 = .ok (.ifCond .ne 19, 3) := by decide +kernel
theorem d_m11_run_109 : decode b_m11_run 109 = .ok (.aload_n 0, 1) := by decide +kernel
theorem d_m11_run_110 : decode b_m11_run 110 = .ok (.iload 4, 2) := by decide +kernel
theorem d_m11_run_112 : decode b_m11_run 112 = .ok (.iload 6, 2) := by decide +kernel
theorem d_m11_run_114 : decode b_m11_run 114 = .ok (.invokevirtual 256, 3) := by decide +kernel
theorem d_m11_run_117 : decode b_m11_run 117 = .ok (.aload_n 0, 1) := by decide +kernel
theorem d_m11_run_118 : decode b_m11_run 118 = .ok (.iload 4, 2) := by decide +kernel
theorem d_m11_run_120 : decode b_m11_run 120 = .ok (.invokevirtual 250, 3) := by decide +kernel
theorem d_m11_run_123 : decode b_m11_run 123 = .ok (.istore 6, 2) := by decide +kernel
theorem d_m11_run_125 : decode b_m11_run 125 = .ok (.iinc 7 1, 3) := by decide +kernel
theorem d_m11_run_128 : decode b_m11_run 128 = .ok (.goto (-52), 3) := by decide +kernel
theorem d_m11_run_131 : decode b_m11_run 131 = .ok (.iinc 4 1, 3) := by decide +kernel
theorem d_m11_run_134 : decode b_m11_run 134 = .ok (.goto (-90), 3) := by decide +kernel
theorem d_m11_run_137 : decode b_m11_run 137 = .ok (.aload_n 0, 1) := by decide +kernel
theorem d_m11_run_138 : decode b_m11_run 138 = .ok (.dup, 1) := by decide +kernel
theorem d_m11_run_139 : decode b_m11_run 139 = .ok (.getfield 211, 3) := by decide +kernel
theorem d_m11_run_142 : decode b_m11_run 142 = .ok (.iconst 1, 1) := by decide +kernel
theorem d_m11_run_143 : decode b_m11_run 143 = .ok (.iadd, 1) := by decide +kernel
theorem d_m11_run_144 : decode b_m11_run 144 = .ok (.putfield 211, 3) := by decide +kernel
theorem d_m11_run_147 : decode b_m11_run 147 = .ok (.iinc 3 1, 3) := by decide +kernel
theorem d_m11_run_150 : decode b_m11_run 150 = .ok (.goto (-114), 3) := by decide +kernel
theorem d_m11_run_153 : decode b_m11_run 153 = .ok (.aload_n 0, 1) := by decide +kernel
theorem d_m11_run_154 : decode b_m11_run 154 = .ok (.invokevirtual 260, 3) := by decide +kernel
theorem d_m11_run_157 : decode b_m11_run 157 = .ok (.aload_n 0, 1) := by decide +kernel
theorem d_m11_run_158 : decode b_m11_run 158 = .ok (.getfield 243, 3) := by decide +kernel
theorem d_m11_run_161 : decode b_m11_run 161 = .ok (.iload_n 2, 1) := by decide +kernel
theorem d_m11_run_162 : decode b_m11_run 162 = .ok (.isub, 1) := by decide +kernel
theorem d_m11_run_163 : decode b_m11_run 163 = .ok (.ireturn, 1) := by decide +kernel
def s_m11_run_131 (k36 : Nat → Int32 → Int32 → Int32 → Mm → Option (Int32 × Mm)) (k44 : Nat → Int32 → Int32 → Int32 → Int32 → Mm → Option (Int32 × Mm)) (r0 : Nat) (x1 : Int32) (x2 : Int32) (x3 : Int32) (x4 : Int32) (M : Mm) : Option (Int32 × Mm) := k44 r0 x1 x2 x3 (x4 + 1) M
def s_m11_run_125 (k36 : Nat → Int32 → Int32 → Int32 → Mm → Option (Int32 × Mm)) (k44 : Nat → Int32 → Int32 → Int32 → Int32 → Mm → Option (Int32 × Mm)) (k76 : Nat → Int32 → Int32 → Int32 → Int32 → Int32 → Int32 → Int32 → Mm → Option (Int32 × Mm)) (r0 : Nat) (x1 : Int32) (x2 : Int32) (x3 : Int32) (x4 : Int32) (x5 : Int32) (x6 : Int32) (x7 : Int32) (M : Mm) : Option (Int32 × Mm) := k76 r0 x1 x2 x3 x4 x5 x6 (x7 + 1) M
def s_m11_run_76 (k36 : Nat → Int32 → Int32 → Int32 → Mm → Option (Int32 × Mm)) (k44 : Nat → Int32 → Int32 → Int32 → Int32 → Mm → Option (Int32 × Mm)) : Nat → Nat → Int32 → Int32 → Int32 → Int32 → Int32 → Int32 → Int32 → Mm → Option (Int32 × Mm)
  | 0, _, _, _, _, _, _, _, _, _ => none
  | n + 1, r0, x1, x2, x3, x4, x5, x6, x7, M => gR M r0 21 5 (fun v1 => aI M v1 0 x4 (fun v2 => (if v2 ≤ x7 then s_m11_run_131 k36 k44 r0 x1 x2 x3 x4 M else (if x6 = (-1 : Int32) then s_m11_run_131 k36 k44 r0 x1 x2 x3 x4 M else gI M r0 21 42 (fun v3 => pI M r0 21 42 (v3 + (1 : Int32)) (fun M4 => (if ¬ x5 = 0 then s_m11_run_125 k36 k44 (s_m11_run_76 k36 k44 n) r0 x1 x2 x3 x4 x5 x6 x7 M4 else cl (has M4 r0 21) (s_m11_hear r0 x4 x6 M4) (fun _ M5 => cl (has M5 r0 21) (s_m11_nextOn r0 x4 M5) (fun v6 M7 => s_m11_run_125 k36 k44 (s_m11_run_76 k36 k44 n) r0 x1 x2 x3 x4 x5 v6 x7 M7)))))))))
def s_m11_run_44 (k36 : Nat → Int32 → Int32 → Int32 → Mm → Option (Int32 × Mm)) : Nat → Nat → Int32 → Int32 → Int32 → Int32 → Mm → Option (Int32 × Mm)
  | 0, _, _, _, _, _, _ => none
  | n + 1, r0, x1, x2, x3, x4, M => gI M r0 21 2 (fun v1 => (if v1 ≤ x4 then gI M r0 21 31 (fun v2 => pI M r0 21 31 (v2 + (1 : Int32)) (fun M3 => k36 r0 x1 x2 (x3 + 1) M3)) else gI M r0 21 31 (fun v4 => cl (has M r0 21) (s_m11_isGarbled r0 x4 v4 M) (fun v5 M6 => cl (has M6 r0 21) (s_m11_nextOn r0 x4 M6) (fun v7 M8 => s_m11_run_76 k36 (s_m11_run_44 k36 n) FU r0 x1 x2 x3 x4 v5 v7 (0 : Int32) M8)))))
def s_m11_run_36  : Nat → Nat → Int32 → Int32 → Int32 → Mm → Option (Int32 × Mm)
  | 0, _, _, _, _, _ => none
  | n + 1, r0, x1, x2, x3, M => (if x1 ≤ x3 then cl (has M r0 21) (s_m11_forget r0 M) (fun _ M1 => gI M1 r0 21 43 (fun v2 => some (v2 - x2, M1))) else s_m11_run_44 (s_m11_run_36 n) FU r0 x1 x2 x3 (0 : Int32) M)
def s_m11_run (r0 : Nat) (a1 : Int32) (M : Mm) : Option (Int32 × Mm) := (if 0 ≤ a1 then cl true (s_m11_in a1 (1 : Int32) (500 : Int32) M) (fun v1 M2 => (if ¬ v1 = 0 then gI M2 r0 21 43 (fun v3 => s_m11_run_36 FU r0 a1 v3 (0 : Int32) M2) else cl (has M2 r0 21) (s_m11_refused r0 (-7 : Int32) M2) (fun v4 M5 => some (v4, M5)))) else cl (has M r0 21) (s_m11_refused r0 (-4 : Int32) M) (fun v6 M7 => some (v6, M7)))
set_option maxRecDepth 100000 in
set_option maxHeartbeats 4000000 in
theorem w_m11_run_131 {V : Ev} {C : Cx} {n0 : Nat} (hC : Cok V C y_m11_run.cls b_m11_run 8 n0 (some .int) y_m11_run.name) (hR : cR C = rm_m11_run) (k36 : Nat → Int32 → Int32 → Int32 → Mm → Option (Int32 × Mm)) (k44 : Nat → Int32 → Int32 → Int32 → Int32 → Mm → Option (Int32 × Mm)) (hk36 : ∀ (r0 : Nat) (x1 : Int32) (x2 : Int32) (x3 : Int32) (M : Mm), Sm V C 8 n0 n0 (qI V C) 36 [(0, rv V.1 r0), (1, .int x1), (2, .int x2), (3, .int x3)] [] M (k36 r0 x1 x2 x3 M)) (hk44 : ∀ (r0 : Nat) (x1 : Int32) (x2 : Int32) (x3 : Int32) (x4 : Int32) (M : Mm), Sm V C 8 n0 n0 (qI V C) 44 [(0, rv V.1 r0), (1, .int x1), (2, .int x2), (3, .int x3), (4, .int x4)] [] M (k44 r0 x1 x2 x3 x4 M)) : ∀ (r0 : Nat) (x1 : Int32) (x2 : Int32) (x3 : Int32) (x4 : Int32) (M : Mm), Sm V C 8 n0 n0 (qI V C) 131 [(0, rv V.1 r0), (1, .int x1), (2, .int x2), (3, .int x3), (4, .int x4)] [] M (s_m11_run_131 k36 k44 r0 x1 x2 x3 x4 M) := by
  intro r0 x1 x2 x3 x4 M
  unfold s_m11_run_131
  refine Sm.iinc (v := x4 + 1) (lv' := [(4, .int (x4 + 1)), (0, rv V.1 r0), (1, .int x1), (2, .int x2), (3, .int x3)]) hC d_m11_run_131 4 rfl rfl (by decide) rfl ?_
  refine Sm.goto (tgt := 44) hC d_m11_run_134 (by decide) ?_
  refine Sm.sub [1, 2, 3, 4, 0] rfl ?_
  exact hk44 r0 x1 x2 x3 (x4 + 1) M
set_option maxRecDepth 100000 in
set_option maxHeartbeats 4000000 in
theorem w_m11_run_125 {V : Ev} {C : Cx} {n0 : Nat} (hC : Cok V C y_m11_run.cls b_m11_run 8 n0 (some .int) y_m11_run.name) (hR : cR C = rm_m11_run) (k36 : Nat → Int32 → Int32 → Int32 → Mm → Option (Int32 × Mm)) (k44 : Nat → Int32 → Int32 → Int32 → Int32 → Mm → Option (Int32 × Mm)) (k76 : Nat → Int32 → Int32 → Int32 → Int32 → Int32 → Int32 → Int32 → Mm → Option (Int32 × Mm)) (hk36 : ∀ (r0 : Nat) (x1 : Int32) (x2 : Int32) (x3 : Int32) (M : Mm), Sm V C 8 n0 n0 (qI V C) 36 [(0, rv V.1 r0), (1, .int x1), (2, .int x2), (3, .int x3)] [] M (k36 r0 x1 x2 x3 M)) (hk44 : ∀ (r0 : Nat) (x1 : Int32) (x2 : Int32) (x3 : Int32) (x4 : Int32) (M : Mm), Sm V C 8 n0 n0 (qI V C) 44 [(0, rv V.1 r0), (1, .int x1), (2, .int x2), (3, .int x3), (4, .int x4)] [] M (k44 r0 x1 x2 x3 x4 M)) (hk76 : ∀ (r0 : Nat) (x1 : Int32) (x2 : Int32) (x3 : Int32) (x4 : Int32) (x5 : Int32) (x6 : Int32) (x7 : Int32) (M : Mm), Sm V C 8 n0 n0 (qI V C) 76 [(0, rv V.1 r0), (1, .int x1), (2, .int x2), (3, .int x3), (4, .int x4), (5, .int x5), (6, .int x6), (7, .int x7)] [] M (k76 r0 x1 x2 x3 x4 x5 x6 x7 M)) : ∀ (r0 : Nat) (x1 : Int32) (x2 : Int32) (x3 : Int32) (x4 : Int32) (x5 : Int32) (x6 : Int32) (x7 : Int32) (M : Mm), Sm V C 8 n0 n0 (qI V C) 125 [(0, rv V.1 r0), (1, .int x1), (2, .int x2), (3, .int x3), (4, .int x4), (5, .int x5), (6, .int x6), (7, .int x7)] [] M (s_m11_run_125 k36 k44 k76 r0 x1 x2 x3 x4 x5 x6 x7 M) := by
  intro r0 x1 x2 x3 x4 x5 x6 x7 M
  unfold s_m11_run_125
  refine Sm.iinc (v := x7 + 1) (lv' := [(7, .int (x7 + 1)), (0, rv V.1 r0), (1, .int x1), (2, .int x2), (3, .int x3), (4, .int x4), (5, .int x5), (6, .int x6)]) hC d_m11_run_125 7 rfl rfl (by decide) rfl ?_
  refine Sm.goto (tgt := 76) hC d_m11_run_128 (by decide) ?_
  refine Sm.sub [1, 2, 3, 4, 5, 6, 7, 0] rfl ?_
  exact hk76 r0 x1 x2 x3 x4 x5 x6 (x7 + 1) M
set_option maxRecDepth 100000 in
set_option maxHeartbeats 4000000 in
theorem w_m11_run_76 {V : Ev} {C : Cx} {n0 : Nat} (hC : Cok V C y_m11_run.cls b_m11_run 8 n0 (some .int) y_m11_run.name) (hR : cR C = rm_m11_run) (k36 : Nat → Int32 → Int32 → Int32 → Mm → Option (Int32 × Mm)) (k44 : Nat → Int32 → Int32 → Int32 → Int32 → Mm → Option (Int32 × Mm)) (hk36 : ∀ (r0 : Nat) (x1 : Int32) (x2 : Int32) (x3 : Int32) (M : Mm), Sm V C 8 n0 n0 (qI V C) 36 [(0, rv V.1 r0), (1, .int x1), (2, .int x2), (3, .int x3)] [] M (k36 r0 x1 x2 x3 M)) (hk44 : ∀ (r0 : Nat) (x1 : Int32) (x2 : Int32) (x3 : Int32) (x4 : Int32) (M : Mm), Sm V C 8 n0 n0 (qI V C) 44 [(0, rv V.1 r0), (1, .int x1), (2, .int x2), (3, .int x3), (4, .int x4)] [] M (k44 r0 x1 x2 x3 x4 M)) : ∀ (n : Nat) (r0 : Nat) (x1 : Int32) (x2 : Int32) (x3 : Int32) (x4 : Int32) (x5 : Int32) (x6 : Int32) (x7 : Int32) (M : Mm), Sm V C 8 n0 n0 (qI V C) 76 [(0, rv V.1 r0), (1, .int x1), (2, .int x2), (3, .int x3), (4, .int x4), (5, .int x5), (6, .int x6), (7, .int x7)] [] M (s_m11_run_76 k36 k44 n r0 x1 x2 x3 x4 x5 x6 x7 M) := by
  intro n
  induction n with
  | zero => exact fun r0 x1 x2 x3 x4 x5 x6 x7 M => Sm.none_
  | succ n ih =>
    intro r0 x1 x2 x3 x4 x5 x6 x7 M
    unfold s_m11_run_76
    refine Sm.iload hC d_m11_run_76 7 rfl ?_
    refine Sm.aload_n hC d_m11_run_78 rfl 0 rfl ?_
    refine Sm.getR hC fl_m11_19 rfl d_m11_run_79 (fun v1 => ?_)
    refine Sm.iload hC d_m11_run_82 4 rfl ?_
    refine Sm.iald hC d_m11_run_84 (fun v2 => ?_)
    refine Sm.icmp_ge (tgt := 131) hC d_m11_run_85 (by decide) ?_ ?_
    · refine Sm.sub [0, 1, 2, 3, 4] rfl ?_
      exact w_m11_run_131 hC hR k36 k44 hk36 hk44 r0 x1 x2 x3 x4 M
    · refine Sm.iload hC d_m11_run_88 6 rfl ?_
      refine Sm.iconst (v := -1) hC d_m11_run_90 (by decide) ?_
      refine Sm.icmp_eq (tgt := 131) hC d_m11_run_91 (by decide) ?_ ?_
      · refine Sm.sub [0, 1, 2, 3, 4] rfl ?_
        exact w_m11_run_131 hC hR k36 k44 hk36 hk44 r0 x1 x2 x3 x4 M
      · refine Sm.aload_n hC d_m11_run_94 rfl 0 rfl ?_
        refine Sm.dup hC d_m11_run_95 (cat_rv _ _) ?_
        refine Sm.getI hC fl_m11_253 rfl d_m11_run_96 (fun v3 => ?_)
        refine Sm.iconst (v := 1) hC d_m11_run_99 (by decide) ?_
        refine Sm.iadd hC d_m11_run_100 ?_
        refine Sm.putI hC fl_m11_253 rfl d_m11_run_101 (fun M4 => ?_)
        refine Sm.iload hC d_m11_run_104 5 rfl ?_
        refine Sm.if_ne (tgt := 125) hC d_m11_run_106 (by decide) ?_ ?_
        · exact w_m11_run_125 hC hR k36 k44 (s_m11_run_76 k36 k44 n) hk36 hk44 ih r0 x1 x2 x3 x4 x5 x6 x7 M4
        · refine Sm.aload_n hC d_m11_run_109 rfl 0 rfl ?_
          refine Sm.iload hC d_m11_run_110 4 rfl ?_
          refine Sm.iload hC d_m11_run_112 6 rfl ?_
          refine Sm.callVv 11 (As := [.int x4, .int x6]) (st := []) hC hR cw_m11_hear (tw_i 1185 (by decide +kernel)) (tw_i 1187 (by decide +kernel)) (tw_i 42 (by decide +kernel)) ⟨_, rfl, rfl⟩ (fun r9 M9 h9 => ok_m11_hear h9) rfl rfl (RW.of ⟨rfl, rfl, by decide, by decide⟩) (by simp) d_m11_run_114 (fun _ M5 => ?_)
          refine Sm.aload_n hC d_m11_run_117 rfl 0 rfl ?_
          refine Sm.iload hC d_m11_run_118 4 rfl ?_
          refine Sm.callVi 11 (As := [.int x4]) (st := []) hC hR cw_m11_nextOn (tw_i 1181 (by decide +kernel)) (tw_i 1183 (by decide +kernel)) (tw_i 41 (by decide +kernel)) ⟨_, rfl, rfl⟩ (fun r9 M9 h9 => ok_m11_nextOn h9) rfl rfl (RW.of ⟨rfl, rfl, by decide, by decide⟩) (by simp) d_m11_run_120 (fun v6 M7 => ?_)
          refine Sm.istore (lv' := [(6, .int v6), (0, rv V.1 r0), (1, .int x1), (2, .int x2), (3, .int x3), (4, .int x4), (5, .int x5), (7, .int x7)]) hC d_m11_run_123 (by decide) rfl ?_
          refine Sm.sub [1, 2, 3, 4, 5, 6, 0, 7] rfl ?_
          exact w_m11_run_125 hC hR k36 k44 (s_m11_run_76 k36 k44 n) hk36 hk44 ih r0 x1 x2 x3 x4 x5 v6 x7 M7
set_option maxRecDepth 100000 in
set_option maxHeartbeats 4000000 in
theorem w_m11_run_44 {V : Ev} {C : Cx} {n0 : Nat} (hC : Cok V C y_m11_run.cls b_m11_run 8 n0 (some .int) y_m11_run.name) (hR : cR C = rm_m11_run) (k36 : Nat → Int32 → Int32 → Int32 → Mm → Option (Int32 × Mm)) (hk36 : ∀ (r0 : Nat) (x1 : Int32) (x2 : Int32) (x3 : Int32) (M : Mm), Sm V C 8 n0 n0 (qI V C) 36 [(0, rv V.1 r0), (1, .int x1), (2, .int x2), (3, .int x3)] [] M (k36 r0 x1 x2 x3 M)) : ∀ (n : Nat) (r0 : Nat) (x1 : Int32) (x2 : Int32) (x3 : Int32) (x4 : Int32) (M : Mm), Sm V C 8 n0 n0 (qI V C) 44 [(0, rv V.1 r0), (1, .int x1), (2, .int x2), (3, .int x3), (4, .int x4)] [] M (s_m11_run_44 k36 n r0 x1 x2 x3 x4 M) := by
  intro n
  induction n with
  | zero => exact fun r0 x1 x2 x3 x4 M => Sm.none_
  | succ n ih =>
    intro r0 x1 x2 x3 x4 M
    unfold s_m11_run_44
    refine Sm.iload hC d_m11_run_44 4 rfl ?_
    refine Sm.aload_n hC d_m11_run_46 rfl 0 rfl ?_
    refine Sm.getI hC fl_m11_146 rfl d_m11_run_47 (fun v1 => ?_)
    refine Sm.icmp_ge (tgt := 137) hC d_m11_run_50 (by decide) ?_ ?_
    · refine Sm.aload_n hC d_m11_run_137 rfl 0 rfl ?_
      refine Sm.dup hC d_m11_run_138 (cat_rv _ _) ?_
      refine Sm.getI hC fl_m11_211 rfl d_m11_run_139 (fun v2 => ?_)
      refine Sm.iconst (v := 1) hC d_m11_run_142 (by decide) ?_
      refine Sm.iadd hC d_m11_run_143 ?_
      refine Sm.putI hC fl_m11_211 rfl d_m11_run_144 (fun M3 => ?_)
      refine Sm.iinc (v := x3 + 1) (lv' := [(3, .int (x3 + 1)), (0, rv V.1 r0), (1, .int x1), (2, .int x2), (4, .int x4)]) hC d_m11_run_147 3 rfl rfl (by decide) rfl ?_
      refine Sm.goto (tgt := 36) hC d_m11_run_150 (by decide) ?_
      refine Sm.sub [1, 2, 3, 0] rfl ?_
      exact hk36 r0 x1 x2 (x3 + 1) M3
    · refine Sm.aload_n hC d_m11_run_53 rfl 0 rfl ?_
      refine Sm.iload hC d_m11_run_54 4 rfl ?_
      refine Sm.aload_n hC d_m11_run_56 rfl 0 rfl ?_
      refine Sm.getI hC fl_m11_211 rfl d_m11_run_57 (fun v4 => ?_)
      refine Sm.callVi 11 (As := [.int x4, .int v4]) (st := []) hC hR cw_m11_isGarbled (tw_i 1173 (by decide +kernel)) (tw_i 1175 (by decide +kernel)) (tw_i 40 (by decide +kernel)) ⟨_, rfl, rfl⟩ (fun r9 M9 h9 => ok_m11_isGarbled h9) rfl rfl (RW.of ⟨rfl, rfl, by decide, by decide⟩) (by simp) d_m11_run_60 (fun v5 M6 => ?_)
      refine Sm.istore (lv' := [(5, .int v5), (0, rv V.1 r0), (1, .int x1), (2, .int x2), (3, .int x3), (4, .int x4)]) hC d_m11_run_63 (by decide) rfl ?_
      refine Sm.aload_n hC d_m11_run_65 rfl 1 rfl ?_
      refine Sm.iload hC d_m11_run_66 5 rfl ?_
      refine Sm.callVi 11 (As := [.int x4]) (st := []) hC hR cw_m11_nextOn (tw_i 1181 (by decide +kernel)) (tw_i 1183 (by decide +kernel)) (tw_i 41 (by decide +kernel)) ⟨_, rfl, rfl⟩ (fun r9 M9 h9 => ok_m11_nextOn h9) rfl rfl (RW.of ⟨rfl, rfl, by decide, by decide⟩) (by simp) d_m11_run_68 (fun v7 M8 => ?_)
      refine Sm.istore (lv' := [(6, .int v7), (5, .int v5), (0, rv V.1 r0), (1, .int x1), (2, .int x2), (3, .int x3), (4, .int x4)]) hC d_m11_run_71 (by decide) rfl ?_
      refine Sm.iconst (v := 0) hC d_m11_run_73 (by decide) ?_
      refine Sm.istore (lv' := [(7, .int (0 : Int32)), (6, .int v7), (5, .int v5), (0, rv V.1 r0), (1, .int x1), (2, .int x2), (3, .int x3), (4, .int x4)]) hC d_m11_run_74 (by decide) rfl ?_
      refine Sm.sub [3, 4, 5, 6, 7, 2, 1, 0] rfl ?_
      exact w_m11_run_76 hC hR k36 (s_m11_run_44 k36 n) hk36 ih FU r0 x1 x2 x3 x4 v5 v7 (0 : Int32) M8
set_option maxRecDepth 100000 in
set_option maxHeartbeats 4000000 in
theorem w_m11_run_36 {V : Ev} {C : Cx} {n0 : Nat} (hC : Cok V C y_m11_run.cls b_m11_run 8 n0 (some .int) y_m11_run.name) (hR : cR C = rm_m11_run)  : ∀ (n : Nat) (r0 : Nat) (x1 : Int32) (x2 : Int32) (x3 : Int32) (M : Mm), Sm V C 8 n0 n0 (qI V C) 36 [(0, rv V.1 r0), (1, .int x1), (2, .int x2), (3, .int x3)] [] M (s_m11_run_36 n r0 x1 x2 x3 M) := by
  intro n
  induction n with
  | zero => exact fun r0 x1 x2 x3 M => Sm.none_
  | succ n ih =>
    intro r0 x1 x2 x3 M
    unfold s_m11_run_36
    refine Sm.iload_n hC d_m11_run_36 rfl 3 rfl ?_
    refine Sm.iload_n hC d_m11_run_37 rfl 1 rfl ?_
    refine Sm.icmp_ge (tgt := 153) hC d_m11_run_38 (by decide) ?_ ?_
    · refine Sm.aload_n hC d_m11_run_153 rfl 0 rfl ?_
      refine Sm.callVv 11 (As := []) (st := []) hC hR cw_m11_forget (tw_i 1193 (by decide +kernel)) (tw_i 1195 (by decide +kernel)) (tw_i 44 (by decide +kernel)) ⟨_, rfl, rfl⟩ (fun r9 M9 h9 => ok_m11_forget h9) rfl rfl (RW.of ⟨rfl, rfl, by decide, by decide⟩) (by simp) d_m11_run_154 (fun _ M1 => ?_)
      refine Sm.aload_n hC d_m11_run_157 rfl 0 rfl ?_
      refine Sm.getI hC fl_m11_243 rfl d_m11_run_158 (fun v2 => ?_)
      refine Sm.iload_n hC d_m11_run_161 rfl 2 rfl ?_
      refine Sm.isub hC d_m11_run_162 ?_
      exact Sm.iret hC d_m11_run_163 rfl (Nat.sub_self _)
    · refine Sm.iconst (v := 0) hC d_m11_run_41 (by decide) ?_
      refine Sm.istore (lv' := [(4, .int (0 : Int32)), (0, rv V.1 r0), (1, .int x1), (2, .int x2), (3, .int x3)]) hC d_m11_run_42 (by decide) rfl ?_
      refine Sm.sub [1, 2, 3, 4, 0] rfl ?_
      exact w_m11_run_44 hC hR (s_m11_run_36 n) ih FU r0 x1 x2 x3 (0 : Int32) M
set_option maxRecDepth 100000 in
set_option maxHeartbeats 4000000 in
theorem ok_m11_run {l : Launch} {V : Ev} {M M' : Mm} {r : Int32} {r0 : Nat} {a1 : Int32} (h : s_m11_run r0 a1 M = some (r, M')) : Met l y_m11_run (Cond.code y_m11_run b_m11_run 8 (some .int) :: TW) rm_m11_run (va_Pc [rv V.1 r0, .int a1] (Wd V M)) (QC V (some (.int r)) M' 0) 0 0 (Af V) := by
  refine met_of (fun x : Int32 => some (.int x)) (lv0 := [(0, rv V.1 r0), (1, .int a1)]) (by decide) (by simp [lg_sl, cat_rv, cat_i, cat_l, cat_f]) (by simp [lv_args, cat_rv, cat_i, cat_l, cat_f]) (fun C hl hR hC => ?_) h
  subst hl
  generalize mN M = n0 at hC ⊢
  unfold s_m11_run
  refine Sm.iload_n hC d_m11_run_0 rfl 1 rfl ?_
  refine Sm.if_ge (tgt := 11) hC d_m11_run_1 (by decide) ?_ ?_
  · refine Sm.iload_n hC d_m11_run_11 rfl 1 rfl ?_
    refine Sm.iconst (v := 1) hC d_m11_run_12 (by decide) ?_
    refine Sm.sipush (v := 500) hC d_m11_run_13 (by decide) ?_
    refine Sm.callSi (As := [.int a1, .int (1 : Int32), .int (500 : Int32)]) (st := []) hC hR cw_m11_in (tw_i 1045 (by decide +kernel)) (tw_i 1046 (by decide +kernel)) (fun r9 M9 h9 => ok_m11_in h9) rfl rfl (RW.of ⟨rfl, rfl, by decide, by decide⟩) (by simp) d_m11_run_16 (fun v1 M2 => ?_)
    refine Sm.if_ne (tgt := 29) hC d_m11_run_19 (by decide) ?_ ?_
    · refine Sm.aload_n hC d_m11_run_29 rfl 0 rfl ?_
      refine Sm.getI hC fl_m11_243 rfl d_m11_run_30 (fun v3 => ?_)
      refine Sm.istore_n (lv' := [(2, .int v3), (0, rv V.1 r0), (1, .int a1)]) hC d_m11_run_33 rfl (by decide) rfl ?_
      refine Sm.iconst (v := 0) hC d_m11_run_34 (by decide) ?_
      refine Sm.istore_n (lv' := [(3, .int (0 : Int32)), (2, .int v3), (0, rv V.1 r0), (1, .int a1)]) hC d_m11_run_35 rfl (by decide) rfl ?_
      refine Sm.sub [2, 3, 1, 0] rfl ?_
      exact w_m11_run_36 hC hR FU r0 a1 v3 (0 : Int32) M2
    · refine Sm.aload_n hC d_m11_run_22 rfl 0 rfl ?_
      refine Sm.bipush (v := -7) hC d_m11_run_23 (by decide) ?_
      refine Sm.callVi 11 (As := [.int (-7 : Int32)]) (st := []) hC hR cw_m11_refused (tw_i 1048 (by decide +kernel)) (tw_i 1050 (by decide +kernel)) (tw_i 23 (by decide +kernel)) ⟨_, rfl, rfl⟩ (fun r9 M9 h9 => ok_m11_refused h9) rfl rfl (RW.of ⟨rfl, rfl, by decide, by decide⟩) (by simp) d_m11_run_25 (fun v4 M5 => ?_)
      exact Sm.iret hC d_m11_run_28 rfl (Nat.sub_self _)
  · refine Sm.aload_n hC d_m11_run_4 rfl 0 rfl ?_
    refine Sm.bipush (v := -4) hC d_m11_run_5 (by decide) ?_
    refine Sm.callVi 11 (As := [.int (-4 : Int32)]) (st := []) hC hR cw_m11_refused (tw_i 1048 (by decide +kernel)) (tw_i 1050 (by decide +kernel)) (tw_i 23 (by decide +kernel)) ⟨_, rfl, rfl⟩ (fun r9 M9 h9 => ok_m11_refused h9) rfl rfl (RW.of ⟨rfl, rfl, by decide, by decide⟩) (by simp) d_m11_run_7 (fun v6 M7 => ?_)
    exact Sm.iret hC d_m11_run_10 rfl (Nat.sub_self _)
/-! NewsWireModel.sent(III)I -/
abbrev b_m11_sent : ByteArray := prog_13_method_42_code
def y_m11_sent : MethodName := ⟨"NewsWireModel", "sent", "(III)I"⟩
def rm_m11_sent : Room := { frames := 3, cells := 0, slots := 0, locals := 103 }
theorem cw_m11_sent : CW y_m11_sent b_m11_sent 7 (some .int) 3 := ⟨tw_i 66 (by decide +kernel), tw_i 1200 (by decide +kernel), by decide, by decide, by decide +kernel⟩
theorem d_m11_sent_0 : decode b_m11_sent 0 = .ok (.aload_n 0, 1) := by decide +kernel
theorem d_m11_sent_1 : decode b_m11_sent 1 = .ok (.iload_n 1, 1) := by decide +kernel
theorem d_m11_sent_2 : decode b_m11_sent 2 = .ok (.invokevirtual 152, 3) := by decide +kernel
theorem d_m11_sent_5 : decode b_m11_sent 5 = .ok (.ifCond .eq 11, 3) := by decide +kernel
theorem d_m11_sent_8 : decode b_m11_sent 8 = .ok (.aload_n 0, 1) := by decide +kernel
theorem d_m11_sent_9 : decode b_m11_sent 9 = .ok (.iload_n 2, 1) := by decide +kernel
theorem d_m11_sent_10 : decode b_m11_sent 10 = .ok (.invokevirtual 231, 3) := by decide +kernel
theorem d_m11_sent_13 : decode b_m11_sent 13 = .ok (.ifCond .ne 10, 3) := by decide +kernel
theorem d_m11_sent_16 : decode b_m11_sent 16 = .ok (.aload_n 0, 1) := by decide +kernel
theorem d_m11_sent_17 : decode b_m11_sent 17 = .ok (.bipush (-3), 2) := by decide +kernel
theorem d_m11_sent_19 : decode b_m11_sent 19 = .ok (.invokevirtual 139, 3) := by decide +kernel
theorem d_m11_sent_22 : decode b_m11_sent 22 = .ok (.ireturn, 1) := by decide +kernel
theorem d_m11_sent_23 : decode b_m11_sent 23 = .ok (.bipush 40, 2) := by decide +kernel
theorem d_m11_sent_25 : decode b_m11_sent 25 = .ok (.iload_n 2, 1) := by decide +kernel
theorem d_m11_sent_26 : decode b_m11_sent 26 = .ok (.imul, 1) := by decide +kernel
theorem d_m11_sent_27 : decode b_m11_sent 27 = .ok (.iload_n 1, 1) := by decide +kernel
theorem d_m11_sent_28 : decode b_m11_sent 28 = .ok (.iadd, 1) := by decide +kernel
theorem d_m11_sent_29 : decode b_m11_sent 29 = .ok (.istore 4, 2) := by decide +kernel
theorem d_m11_sent_31 : decode b_m11_sent 31 = .ok (.aload_n 0, 1) := by decide +kernel
theorem d_m11_sent_32 : decode b_m11_sent 32 = .ok (.getfield 82, 3) := by decide +kernel
theorem d_m11_sent_35 : decode b_m11_sent 35 = .ok (.iload 4, 2) := by decide +kernel
theorem d_m11_sent_37 : decode b_m11_sent 37 = .ok (.iaload, 1) := by decide +kernel
theorem d_m11_sent_38 : decode b_m11_sent 38 = .ok (.iconst (-1), 1) := by decide +kernel
theorem d_m11_sent_39 : decode b_m11_sent 39 = .ok (.if_icmp .ne 10, 3) := by decide +kernel
theorem d_m11_sent_42 : decode b_m11_sent 42 = .ok (.aload_n 0, 1) := by decide +kernel
theorem d_m11_sent_43 : decode b_m11_sent 43 = .ok (.bipush (-2), 2) := by decide +kernel
theorem d_m11_sent_45 : decode b_m11_sent 45 = .ok (.invokevirtual 139, 3) := by decide +kernel
theorem d_m11_sent_48 : decode b_m11_sent 48 = .ok (.ireturn, 1) := by decide +kernel
theorem d_m11_sent_49 : decode b_m11_sent 49 = .ok (.iconst 0, 1) := by decide +kernel
theorem d_m11_sent_50 : decode b_m11_sent 50 = .ok (.istore 5, 2) := by decide +kernel
theorem d_m11_sent_52 : decode b_m11_sent 52 = .ok (.iload_n 3, 1) := by decide +kernel
theorem d_m11_sent_53 : decode b_m11_sent 53 = .ok (.tableswitch 118 0 2 #[27, 35, 43], 27) := by decide +kernel
theorem d_m11_sent_80 : decode b_m11_sent 80 = .ok (.aload_n 0, 1) := by decide +kernel
theorem d_m11_sent_81 : decode b_m11_sent 81 = .ok (.getfield 85, 3) := by decide +kernel
theorem d_m11_sent_84 : decode b_m11_sent 84 = .ok (.iload 4, 2) := by decide +kernel
theorem d_m11_sent_86 : decode b_m11_sent 86 = .ok (.iaload, 1) := by decide +kernel
theorem d_m11_sent_87 : decode b_m11_sent 87 = .ok (.ireturn, 1) := by decide +kernel
theorem d_m11_sent_88 : decode b_m11_sent 88 = .ok (.aload_n 0, 1) := by decide +kernel
theorem d_m11_sent_89 : decode b_m11_sent 89 = .ok (.getfield 88, 3) := by decide +kernel
theorem d_m11_sent_92 : decode b_m11_sent 92 = .ok (.iload 4, 2) := by decide +kernel
theorem d_m11_sent_94 : decode b_m11_sent 94 = .ok (.iaload, 1) := by decide +kernel
theorem d_m11_sent_95 : decode b_m11_sent 95 = .ok (.ireturn, 1) := by decide +kernel
theorem d_m11_sent_96 : decode b_m11_sent 96 = .ok (.iconst 0, 1) := by decide +kernel
theorem d_m11_sent_97 : decode b_m11_sent 97 = .ok (.istore 6, 2) := by decide +kernel
theorem d_m11_sent_99 : decode b_m11_sent 99 = .ok (.iload 6, 2) := by decide +kernel
theorem d_m11_sent_101 : decode b_m11_sent 101 = .ok (.aload_n 0, 1) := by decide +kernel
theorem d_m11_sent_102 : decode b_m11_sent 102 = .ok (.getfield 82, 3) := by decide +kernel
theorem d_m11_sent_105 : decode b_m11_sent 105 = .ok (.iload 4, 2) := by decide +kernel
theorem d_m11_sent_107 : decode b_m11_sent 107 = .ok (.iaload, 1) := by decide +kernel
theorem d_m11_sent_108 : decode b_m11_sent 108 = .ok (.if_icmp .ge 45, 3) := by decide +kernel
theorem d_m11_sent_111 : decode b_m11_sent 111 = .ok (.iload 5, 2) := by decide +kernel
theorem d_m11_sent_113 : decode b_m11_sent 113 = .ok (.aload_n 0, 1) := by decide +kernel
theorem d_m11_sent_114 : decode b_m11_sent 114 = .ok (.getfield 88, 3) := by decide +kernel
theorem d_m11_sent_117 : decode b_m11_sent 117 = .ok (.bipush 40, 2) := by decide +kernel
theorem d_m11_sent_119 : decode b_m11_sent 119 = .ok (.iload_n 2, 1) := by decide +kernel
theorem d_m11_sent_120 : decode b_m11_sent 120 = .ok (.imul, 1) := by decide +kernel
theorem d_m11_sent_121 : decode b_m11_sent 121 = .ok (.aload_n 0, 1) := by decide +kernel
theorem d_m11_sent_122 : decode b_m11_sent 122 = .ok (.getfield 79, 3) := by decide +kernel
theorem d_m11_sent_125 : decode b_m11_sent 125 = .ok (.bipush 40, 2) := by decide +kernel
theorem d_m11_sent_127 : decode b_m11_sent 127 = .ok (.iload_n 2, 1) := by decide +kernel
theorem d_m11_sent_128 : decode b_m11_sent 128 = .ok (.imul, 1) := by decide +kernel
theorem d_m11_sent_129 : decode b_m11_sent 129 = .ok (.iload 6, 2) := by decide +kernel
theorem d_m11_sent_131 : decode b_m11_sent 131 = .ok (.iadd, 1) := by decide +kernel
theorem d_m11_sent_132 : decode b_m11_sent 132 = .ok (.iaload, 1) := by decide +kernel
theorem d_m11_sent_133 : decode b_m11_sent 133 = .ok (.iadd, 1) := by decide +kernel
theorem d_m11_sent_134 : decode b_m11_sent 134 = .ok (.iaload, 1) := by decide +kernel
theorem d_m11_sent_135 : decode b_m11_sent 135 = .ok (.iconst (-1), 1) := by decide +kernel
theorem d_m11_sent_136 : decode b_m11_sent 136 = .ok (.if_icmp .ne 7, 3) := by decide +kernel
theorem d_m11_sent_139 : decode b_m11_sent 139 = .ok (.iconst 1, 1) := by decide +kernel
theorem d_m11_sent_140 : decode b_m11_sent 140 = .ok (.goto 4, 3) := by decide +kernel
theorem d_m11_sent_143 : decode b_m11_sent 143 = .ok (.iconst 0, 1) := by decide +kernel
theorem d_m11_sent_144 : decode b_m11_sent 144 = .ok (.iadd, 1) := by decide +kernel
theorem d_m11_sent_145 : decode b_m11_sent 145 = .ok (.istore 5, 2) := by decide +kernel
theorem d_m11_sent_147 : decode b_m11_sent 147 = .ok (.iinc 6 1, 3) := by decide +kernel
theorem d_m11_sent_150 : decode b_m11_sent 150 = .ok (.goto (-51), 3) := by decide +kernel
theorem d_m11_sent_153 : decode b_m11_sent 153 = .ok (.aload_n 0, 1) := by decide +kernel
theorem d_m11_sent_154 : decode b_m11_sent 154 = .ok (.getfield 88, 3) := by decide +kernel
theorem d_m11_sent_157 : decode b_m11_sent 157 = .ok (.iload 4, 2) := by decide +kernel
theorem d_m11_sent_159 : decode b_m11_sent 159 = .ok (.iaload, 1) := by decide +kernel
theorem d_m11_sent_160 : decode b_m11_sent 160 = .ok (.iconst (-1), 1) := by decide +kernel
theorem d_m11_sent_161 : decode b_m11_sent 161 = .ok (.if_icmp .eq 7, 3) := by decide +kernel
theorem d_m11_sent_164 : decode b_m11_sent 164 = .ok (.iconst (-1), 1) := by decide +kernel
theorem d_m11_sent_165 : decode b_m11_sent 165 = .ok (.goto 5, 3) := by decide +kernel
theorem d_m11_sent_168 : decode b_m11_sent 168 = .ok (.iload 5, 2) := by decide +kernel
theorem d_m11_sent_170 : decode b_m11_sent 170 = .ok (.ireturn, 1) := by decide +kernel
theorem d_m11_sent_171 : decode b_m11_sent 171 = .ok (.aload_n 0, 1) := by decide +kernel
theorem d_m11_sent_172 : decode b_m11_sent 172 = .ok (.bipush (-7), 2) := by decide +kernel
theorem d_m11_sent_174 : decode b_m11_sent 174 = .ok (.invokevirtual 139, 3) := by decide +kernel
theorem d_m11_sent_177 : decode b_m11_sent 177 = .ok (.ireturn, 1) := by decide +kernel
def s_m11_sent_16  (r0 : Nat) (M : Mm) : Option (Int32 × Mm) := cl (has M r0 21) (s_m11_refused r0 (-3 : Int32) M) (fun v1 M2 => some (v1, M2))
def s_m11_sent_170  (t0 : Int32) (M : Mm) : Option (Int32 × Mm) := some (t0, M)
def s_m11_sent_144 (k99 : Nat → Int32 → Int32 → Int32 → Int32 → Mm → Option (Int32 × Mm)) (r0 : Nat) (x2 : Int32) (x4 : Int32) (x6 : Int32) (t0 : Int32) (t1 : Int32) (M : Mm) : Option (Int32 × Mm) := k99 r0 x2 x4 (t0 + t1) (x6 + 1) M
def s_m11_sent_99  : Nat → Nat → Int32 → Int32 → Int32 → Int32 → Mm → Option (Int32 × Mm)
  | 0, _, _, _, _, _, _ => none
  | n + 1, r0, x2, x4, x5, x6, M => gR M r0 21 34 (fun v1 => aI M v1 0 x4 (fun v2 => (if v2 ≤ x6 then gR M r0 21 36 (fun v3 => aI M v3 0 x4 (fun v4 => (if v4 = (-1 : Int32) then s_m11_sent_170 x5 M else s_m11_sent_170 (-1 : Int32) M))) else gR M r0 21 36 (fun v5 => gR M r0 21 33 (fun v6 => aI M v6 0 (((40 : Int32) * x2) + x6) (fun v7 => aI M v5 0 (((40 : Int32) * x2) + v7) (fun v8 => (if ¬ v8 = (-1 : Int32) then s_m11_sent_144 (s_m11_sent_99 n) r0 x2 x4 x6 x5 (0 : Int32) M else s_m11_sent_144 (s_m11_sent_99 n) r0 x2 x4 x6 x5 (1 : Int32) M))))))))
def s_m11_sent (r0 : Nat) (a1 : Int32) (a2 : Int32) (a3 : Int32) (M : Mm) : Option (Int32 × Mm) := cl (has M r0 21) (s_m11_isPiece r0 a1 M) (fun v1 M2 => (if v1 = 0 then s_m11_sent_16 r0 M2 else cl (has M2 r0 21) (s_m11_isWire r0 a2 M2) (fun v3 M4 => (if ¬ v3 = 0 then gR M4 r0 21 34 (fun v5 => aI M4 v5 0 (((40 : Int32) * a2) + a1) (fun v6 => (if ¬ v6 = (-1 : Int32) then (if a3 = 0 then gR M4 r0 21 35 (fun v7 => aI M4 v7 0 (((40 : Int32) * a2) + a1) (fun v8 => some (v8, M4))) else if a3 = 1 then gR M4 r0 21 36 (fun v9 => aI M4 v9 0 (((40 : Int32) * a2) + a1) (fun v10 => some (v10, M4))) else if a3 = 2 then s_m11_sent_99 FU r0 a2 (((40 : Int32) * a2) + a1) (0 : Int32) (0 : Int32) M4 else cl (has M4 r0 21) (s_m11_refused r0 (-7 : Int32) M4) (fun v11 M12 => some (v11, M12))) else cl (has M4 r0 21) (s_m11_refused r0 (-2 : Int32) M4) (fun v13 M14 => some (v13, M14))))) else s_m11_sent_16 r0 M4))))
set_option maxRecDepth 100000 in
set_option maxHeartbeats 4000000 in
theorem w_m11_sent_16 {V : Ev} {C : Cx} {n0 : Nat} (hC : Cok V C y_m11_sent.cls b_m11_sent 7 n0 (some .int) y_m11_sent.name) (hR : cR C = rm_m11_sent)  : ∀ (r0 : Nat) (M : Mm), Sm V C 7 n0 n0 (qI V C) 16 [(0, rv V.1 r0)] [] M (s_m11_sent_16 r0 M) := by
  intro r0 M
  unfold s_m11_sent_16
  refine Sm.aload_n hC d_m11_sent_16 rfl 0 rfl ?_
  refine Sm.bipush (v := -3) hC d_m11_sent_17 (by decide) ?_
  refine Sm.callVi 11 (As := [.int (-3 : Int32)]) (st := []) hC hR cw_m11_refused (tw_i 1048 (by decide +kernel)) (tw_i 1050 (by decide +kernel)) (tw_i 23 (by decide +kernel)) ⟨_, rfl, rfl⟩ (fun r9 M9 h9 => ok_m11_refused h9) rfl rfl (RW.of ⟨rfl, rfl, by decide, by decide⟩) (by simp) d_m11_sent_19 (fun v1 M2 => ?_)
  exact Sm.iret hC d_m11_sent_22 rfl (Nat.sub_self _)
set_option maxRecDepth 100000 in
set_option maxHeartbeats 4000000 in
theorem w_m11_sent_170 {V : Ev} {C : Cx} {n0 : Nat} (hC : Cok V C y_m11_sent.cls b_m11_sent 7 n0 (some .int) y_m11_sent.name) (hR : cR C = rm_m11_sent)  : ∀ (t0 : Int32) (M : Mm), Sm V C 7 n0 n0 (qI V C) 170 [] [.int t0] M (s_m11_sent_170 t0 M) := by
  intro t0 M
  unfold s_m11_sent_170
  exact Sm.iret hC d_m11_sent_170 rfl (Nat.sub_self _)
set_option maxRecDepth 100000 in
set_option maxHeartbeats 4000000 in
theorem w_m11_sent_144 {V : Ev} {C : Cx} {n0 : Nat} (hC : Cok V C y_m11_sent.cls b_m11_sent 7 n0 (some .int) y_m11_sent.name) (hR : cR C = rm_m11_sent) (k99 : Nat → Int32 → Int32 → Int32 → Int32 → Mm → Option (Int32 × Mm)) (hk99 : ∀ (r0 : Nat) (x2 : Int32) (x4 : Int32) (x5 : Int32) (x6 : Int32) (M : Mm), Sm V C 7 n0 n0 (qI V C) 99 [(0, rv V.1 r0), (2, .int x2), (4, .int x4), (5, .int x5), (6, .int x6)] [] M (k99 r0 x2 x4 x5 x6 M)) : ∀ (r0 : Nat) (x2 : Int32) (x4 : Int32) (x6 : Int32) (t0 : Int32) (t1 : Int32) (M : Mm), Sm V C 7 n0 n0 (qI V C) 144 [(0, rv V.1 r0), (2, .int x2), (4, .int x4), (6, .int x6)] [.int t1, .int t0] M (s_m11_sent_144 k99 r0 x2 x4 x6 t0 t1 M) := by
  intro r0 x2 x4 x6 t0 t1 M
  unfold s_m11_sent_144
  refine Sm.iadd hC d_m11_sent_144 ?_
  refine Sm.istore (lv' := [(5, .int (t0 + t1)), (0, rv V.1 r0), (2, .int x2), (4, .int x4), (6, .int x6)]) hC d_m11_sent_145 (by decide) rfl ?_
  refine Sm.iinc (v := x6 + 1) (lv' := [(6, .int (x6 + 1)), (5, .int (t0 + t1)), (0, rv V.1 r0), (2, .int x2), (4, .int x4)]) hC d_m11_sent_147 4 rfl rfl (by decide) rfl ?_
  refine Sm.goto (tgt := 99) hC d_m11_sent_150 (by decide) ?_
  refine Sm.sub [2, 3, 4, 1, 0] rfl ?_
  exact hk99 r0 x2 x4 (t0 + t1) (x6 + 1) M
set_option maxRecDepth 100000 in
set_option maxHeartbeats 4000000 in
theorem w_m11_sent_99 {V : Ev} {C : Cx} {n0 : Nat} (hC : Cok V C y_m11_sent.cls b_m11_sent 7 n0 (some .int) y_m11_sent.name) (hR : cR C = rm_m11_sent)  : ∀ (n : Nat) (r0 : Nat) (x2 : Int32) (x4 : Int32) (x5 : Int32) (x6 : Int32) (M : Mm), Sm V C 7 n0 n0 (qI V C) 99 [(0, rv V.1 r0), (2, .int x2), (4, .int x4), (5, .int x5), (6, .int x6)] [] M (s_m11_sent_99 n r0 x2 x4 x5 x6 M) := by
  intro n
  induction n with
  | zero => exact fun r0 x2 x4 x5 x6 M => Sm.none_
  | succ n ih =>
    intro r0 x2 x4 x5 x6 M
    unfold s_m11_sent_99
    refine Sm.iload hC d_m11_sent_99 4 rfl ?_
    refine Sm.aload_n hC d_m11_sent_101 rfl 0 rfl ?_
    refine Sm.getR hC fl_m11_82 rfl d_m11_sent_102 (fun v1 => ?_)
    refine Sm.iload hC d_m11_sent_105 2 rfl ?_
    refine Sm.iald hC d_m11_sent_107 (fun v2 => ?_)
    refine Sm.icmp_ge (tgt := 153) hC d_m11_sent_108 (by decide) ?_ ?_
    · refine Sm.aload_n hC d_m11_sent_153 rfl 0 rfl ?_
      refine Sm.getR hC fl_m11_88 rfl d_m11_sent_154 (fun v3 => ?_)
      refine Sm.iload hC d_m11_sent_157 2 rfl ?_
      refine Sm.iald hC d_m11_sent_159 (fun v4 => ?_)
      refine Sm.iconst (v := -1) hC d_m11_sent_160 (by decide) ?_
      refine Sm.icmp_eq (tgt := 168) hC d_m11_sent_161 (by decide) ?_ ?_
      · refine Sm.iload hC d_m11_sent_168 3 rfl ?_
        refine Sm.sub [] rfl ?_
        exact w_m11_sent_170 hC hR x5 M
      · refine Sm.iconst (v := -1) hC d_m11_sent_164 (by decide) ?_
        refine Sm.goto (tgt := 170) hC d_m11_sent_165 (by decide) ?_
        refine Sm.sub [] rfl ?_
        exact w_m11_sent_170 hC hR (-1 : Int32) M
    · refine Sm.iload hC d_m11_sent_111 3 rfl ?_
      refine Sm.aload_n hC d_m11_sent_113 rfl 0 rfl ?_
      refine Sm.getR hC fl_m11_88 rfl d_m11_sent_114 (fun v5 => ?_)
      refine Sm.bipush (v := 40) hC d_m11_sent_117 (by decide) ?_
      refine Sm.iload_n hC d_m11_sent_119 rfl 1 rfl ?_
      refine Sm.imul hC d_m11_sent_120 ?_
      refine Sm.aload_n hC d_m11_sent_121 rfl 0 rfl ?_
      refine Sm.getR hC fl_m11_79 rfl d_m11_sent_122 (fun v6 => ?_)
      refine Sm.bipush (v := 40) hC d_m11_sent_125 (by decide) ?_
      refine Sm.iload_n hC d_m11_sent_127 rfl 1 rfl ?_
      refine Sm.imul hC d_m11_sent_128 ?_
      refine Sm.iload hC d_m11_sent_129 4 rfl ?_
      refine Sm.iadd hC d_m11_sent_131 ?_
      refine Sm.iald hC d_m11_sent_132 (fun v7 => ?_)
      refine Sm.iadd hC d_m11_sent_133 ?_
      refine Sm.iald hC d_m11_sent_134 (fun v8 => ?_)
      refine Sm.iconst (v := -1) hC d_m11_sent_135 (by decide) ?_
      refine Sm.icmp_ne (tgt := 143) hC d_m11_sent_136 (by decide) ?_ ?_
      · refine Sm.iconst (v := 0) hC d_m11_sent_143 (by decide) ?_
        refine Sm.sub [0, 1, 2, 4] rfl ?_
        exact w_m11_sent_144 hC hR (s_m11_sent_99 n) ih r0 x2 x4 x6 x5 (0 : Int32) M
      · refine Sm.iconst (v := 1) hC d_m11_sent_139 (by decide) ?_
        refine Sm.goto (tgt := 144) hC d_m11_sent_140 (by decide) ?_
        refine Sm.sub [0, 1, 2, 4] rfl ?_
        exact w_m11_sent_144 hC hR (s_m11_sent_99 n) ih r0 x2 x4 x6 x5 (1 : Int32) M
set_option maxRecDepth 100000 in
set_option maxHeartbeats 4000000 in
theorem ok_m11_sent {l : Launch} {V : Ev} {M M' : Mm} {r : Int32} {r0 : Nat} {a1 : Int32} {a2 : Int32} {a3 : Int32} (h : s_m11_sent r0 a1 a2 a3 M = some (r, M')) : Met l y_m11_sent (Cond.code y_m11_sent b_m11_sent 7 (some .int) :: TW) rm_m11_sent (va_Pc [rv V.1 r0, .int a1, .int a2, .int a3] (Wd V M)) (QC V (some (.int r)) M' 0) 0 0 (Af V) := by
  refine met_of (fun x : Int32 => some (.int x)) (lv0 := [(0, rv V.1 r0), (1, .int a1), (2, .int a2), (3, .int a3)]) (by decide) (by simp [lg_sl, cat_rv, cat_i, cat_l, cat_f]) (by simp [lv_args, cat_rv, cat_i, cat_l, cat_f]) (fun C hl hR hC => ?_) h
  subst hl
  generalize mN M = n0 at hC ⊢
  unfold s_m11_sent
  refine Sm.aload_n hC d_m11_sent_0 rfl 0 rfl ?_
  refine Sm.iload_n hC d_m11_sent_1 rfl 1 rfl ?_
  refine Sm.callVi 11 (As := [.int a1]) (st := []) hC hR cw_m11_isPiece (tw_i 1060 (by decide +kernel)) (tw_i 1062 (by decide +kernel)) (tw_i 24 (by decide +kernel)) ⟨_, rfl, rfl⟩ (fun r9 M9 h9 => ok_m11_isPiece h9) rfl rfl (RW.of ⟨rfl, rfl, by decide, by decide⟩) (by simp) d_m11_sent_2 (fun v1 M2 => ?_)
  refine Sm.if_eq (tgt := 16) hC d_m11_sent_5 (by decide) ?_ ?_
  · refine Sm.sub [0] rfl ?_
    exact w_m11_sent_16 hC hR r0 M2
  · refine Sm.aload_n hC d_m11_sent_8 rfl 0 rfl ?_
    refine Sm.iload_n hC d_m11_sent_9 rfl 2 rfl ?_
    refine Sm.callVi 11 (As := [.int a2]) (st := []) hC hR cw_m11_isWire (tw_i 1161 (by decide +kernel)) (tw_i 1163 (by decide +kernel)) (tw_i 38 (by decide +kernel)) ⟨_, rfl, rfl⟩ (fun r9 M9 h9 => ok_m11_isWire h9) rfl rfl (RW.of ⟨rfl, rfl, by decide, by decide⟩) (by simp) d_m11_sent_10 (fun v3 M4 => ?_)
    refine Sm.if_ne (tgt := 23) hC d_m11_sent_13 (by decide) ?_ ?_
    · refine Sm.bipush (v := 40) hC d_m11_sent_23 (by decide) ?_
      refine Sm.iload_n hC d_m11_sent_25 rfl 2 rfl ?_
      refine Sm.imul hC d_m11_sent_26 ?_
      refine Sm.iload_n hC d_m11_sent_27 rfl 1 rfl ?_
      refine Sm.iadd hC d_m11_sent_28 ?_
      refine Sm.istore (lv' := [(4, .int (((40 : Int32) * a2) + a1)), (0, rv V.1 r0), (1, .int a1), (2, .int a2), (3, .int a3)]) hC d_m11_sent_29 (by decide) rfl ?_
      refine Sm.aload_n hC d_m11_sent_31 rfl 1 rfl ?_
      refine Sm.getR hC fl_m11_82 rfl d_m11_sent_32 (fun v5 => ?_)
      refine Sm.iload hC d_m11_sent_35 0 rfl ?_
      refine Sm.iald hC d_m11_sent_37 (fun v6 => ?_)
      refine Sm.iconst (v := -1) hC d_m11_sent_38 (by decide) ?_
      refine Sm.icmp_ne (tgt := 49) hC d_m11_sent_39 (by decide) ?_ ?_
      · refine Sm.iconst (v := 0) hC d_m11_sent_49 (by decide) ?_
        refine Sm.istore (lv' := [(5, .int (0 : Int32)), (4, .int (((40 : Int32) * a2) + a1)), (0, rv V.1 r0), (1, .int a1), (2, .int a2), (3, .int a3)]) hC d_m11_sent_50 (by decide) rfl ?_
        refine Sm.iload_n hC d_m11_sent_52 rfl 5 rfl ?_
        refine Sm.if_ (fun h9 => ?_) (fun h53_0 => ?_)
        · refine Sm.tswIn (tgt := 80) hC d_m11_sent_53 (by rw [h9]; decide) (by rw [h9]; decide) (by rw [h9] <;> rfl) (by decide) ?_
          refine Sm.aload_n hC d_m11_sent_80 rfl 2 rfl ?_
          refine Sm.getR hC fl_m11_85 rfl d_m11_sent_81 (fun v7 => ?_)
          refine Sm.iload hC d_m11_sent_84 1 rfl ?_
          refine Sm.iald hC d_m11_sent_86 (fun v8 => ?_)
          exact Sm.iret hC d_m11_sent_87 rfl (Nat.sub_self _)
        refine Sm.if_ (fun h9 => ?_) (fun h53_1 => ?_)
        · refine Sm.tswIn (tgt := 88) hC d_m11_sent_53 (by rw [h9]; decide) (by rw [h9]; decide) (by rw [h9] <;> rfl) (by decide) ?_
          refine Sm.aload_n hC d_m11_sent_88 rfl 2 rfl ?_
          refine Sm.getR hC fl_m11_88 rfl d_m11_sent_89 (fun v9 => ?_)
          refine Sm.iload hC d_m11_sent_92 1 rfl ?_
          refine Sm.iald hC d_m11_sent_94 (fun v10 => ?_)
          exact Sm.iret hC d_m11_sent_95 rfl (Nat.sub_self _)
        refine Sm.if_ (fun h9 => ?_) (fun h53_2 => ?_)
        · refine Sm.tswIn (tgt := 96) hC d_m11_sent_53 (by rw [h9]; decide) (by rw [h9]; decide) (by rw [h9] <;> rfl) (by decide) ?_
          refine Sm.iconst (v := 0) hC d_m11_sent_96 (by decide) ?_
          refine Sm.istore (lv' := [(6, .int (0 : Int32)), (5, .int (0 : Int32)), (4, .int (((40 : Int32) * a2) + a1)), (0, rv V.1 r0), (1, .int a1), (2, .int a2), (3, .int a3)]) hC d_m11_sent_97 (by decide) rfl ?_
          refine Sm.sub [3, 5, 2, 1, 0] rfl ?_
          exact w_m11_sent_99 hC hR FU r0 a2 (((40 : Int32) * a2) + a1) (0 : Int32) (0 : Int32) M4
        refine Sm.tswOut (tgt := 171) hC d_m11_sent_53 (out_of (n := 3) (by decide) (fun i hi => by
            match i, hi with
            | 0, _ => exact h53_0
            | 1, _ => exact h53_1
            | 2, _ => exact h53_2)) (by decide) ?_
        refine Sm.aload_n hC d_m11_sent_171 rfl 2 rfl ?_
        refine Sm.bipush (v := -7) hC d_m11_sent_172 (by decide) ?_
        refine Sm.callVi 11 (As := [.int (-7 : Int32)]) (st := []) hC hR cw_m11_refused (tw_i 1048 (by decide +kernel)) (tw_i 1050 (by decide +kernel)) (tw_i 23 (by decide +kernel)) ⟨_, rfl, rfl⟩ (fun r9 M9 h9 => ok_m11_refused h9) rfl rfl (RW.of ⟨rfl, rfl, by decide, by decide⟩) (by simp) d_m11_sent_174 (fun v11 M12 => ?_)
        exact Sm.iret hC d_m11_sent_177 rfl (Nat.sub_self _)
      · refine Sm.aload_n hC d_m11_sent_42 rfl 1 rfl ?_
        refine Sm.bipush (v := -2) hC d_m11_sent_43 (by decide) ?_
        refine Sm.callVi 11 (As := [.int (-2 : Int32)]) (st := []) hC hR cw_m11_refused (tw_i 1048 (by decide +kernel)) (tw_i 1050 (by decide +kernel)) (tw_i 23 (by decide +kernel)) ⟨_, rfl, rfl⟩ (fun r9 M9 h9 => ok_m11_refused h9) rfl rfl (RW.of ⟨rfl, rfl, by decide, by decide⟩) (by simp) d_m11_sent_45 (fun v13 M14 => ?_)
        exact Sm.iret hC d_m11_sent_48 rfl (Nat.sub_self _)
    · refine Sm.sub [0] rfl ?_
      exact w_m11_sent_16 hC hR r0 M4
/-! NewsWireModel.since(II)I -/
abbrev b_m11_since : ByteArray := prog_13_method_43_code
def y_m11_since : MethodName := ⟨"NewsWireModel", "since", "(II)I"⟩
def rm_m11_since : Room := { frames := 3, cells := 0, slots := 0, locals := 103 }
theorem cw_m11_since : CW y_m11_since b_m11_since 3 (some .int) 2 := ⟨tw_i 66 (by decide +kernel), tw_i 1204 (by decide +kernel), by decide, by decide, by decide +kernel⟩
theorem d_m11_since_0 : decode b_m11_since 0 = .ok (.aload_n 0, 1) := by decide +kernel
theorem d_m11_since_1 : decode b_m11_since 1 = .ok (.iload_n 1, 1) := by decide +kernel
theorem d_m11_since_2 : decode b_m11_since 2 = .ok (.invokevirtual 152, 3) := by decide +kernel
theorem d_m11_since_5 : decode b_m11_since 5 = .ok (.ifCond .eq 24, 3) := by decide +kernel
theorem d_m11_since_8 : decode b_m11_since 8 = .ok (.iload_n 2, 1) := by decide +kernel
theorem d_m11_since_9 : decode b_m11_since 9 = .ok (.invokestatic 224, 3) := by decide +kernel
theorem d_m11_since_12 : decode b_m11_since 12 = .ok (.ifCond .eq 17, 3) := by decide +kernel
theorem d_m11_since_15 : decode b_m11_since 15 = .ok (.aload_n 0, 1) := by decide +kernel
theorem d_m11_since_16 : decode b_m11_since 16 = .ok (.getfield 91, 3) := by decide +kernel
theorem d_m11_since_19 : decode b_m11_since 19 = .ok (.bipush 40, 2) := by decide +kernel
theorem d_m11_since_21 : decode b_m11_since 21 = .ok (.iload_n 2, 1) := by decide +kernel
theorem d_m11_since_22 : decode b_m11_since 22 = .ok (.imul, 1) := by decide +kernel
theorem d_m11_since_23 : decode b_m11_since 23 = .ok (.iload_n 1, 1) := by decide +kernel
theorem d_m11_since_24 : decode b_m11_since 24 = .ok (.iadd, 1) := by decide +kernel
theorem d_m11_since_25 : decode b_m11_since 25 = .ok (.iaload, 1) := by decide +kernel
theorem d_m11_since_26 : decode b_m11_since 26 = .ok (.goto 9, 3) := by decide +kernel
theorem d_m11_since_29 : decode b_m11_since 29 = .ok (.aload_n 0, 1) := by decide +kernel
theorem d_m11_since_30 : decode b_m11_since 30 = .ok (.bipush (-3), 2) := by decide +kernel
theorem d_m11_since_32 : decode b_m11_since 32 = .ok (.invokevirtual 139, 3) := by decide +kernel
theorem d_m11_since_35 : decode b_m11_since 35 = .ok (.ireturn, 1) := by decide +kernel
def s_m11_since_35  (t0 : Int32) (M : Mm) : Option (Int32 × Mm) := some (t0, M)
def s_m11_since_29  (r0 : Nat) (M : Mm) : Option (Int32 × Mm) := cl (has M r0 21) (s_m11_refused r0 (-3 : Int32) M) (fun v1 M2 => s_m11_since_35 v1 M2)
def s_m11_since (r0 : Nat) (a1 : Int32) (a2 : Int32) (M : Mm) : Option (Int32 × Mm) := cl (has M r0 21) (s_m11_isPiece r0 a1 M) (fun v1 M2 => (if v1 = 0 then s_m11_since_29 r0 M2 else cl true (s_m11_isPaper a2 M2) (fun v3 M4 => (if v3 = 0 then s_m11_since_29 r0 M4 else gR M4 r0 21 37 (fun v5 => aI M4 v5 0 (((40 : Int32) * a2) + a1) (fun v6 => s_m11_since_35 v6 M4))))))
set_option maxRecDepth 100000 in
set_option maxHeartbeats 4000000 in
theorem w_m11_since_35 {V : Ev} {C : Cx} {n0 : Nat} (hC : Cok V C y_m11_since.cls b_m11_since 3 n0 (some .int) y_m11_since.name) (hR : cR C = rm_m11_since)  : ∀ (t0 : Int32) (M : Mm), Sm V C 3 n0 n0 (qI V C) 35 [] [.int t0] M (s_m11_since_35 t0 M) := by
  intro t0 M
  unfold s_m11_since_35
  exact Sm.iret hC d_m11_since_35 rfl (Nat.sub_self _)
set_option maxRecDepth 100000 in
set_option maxHeartbeats 4000000 in
theorem w_m11_since_29 {V : Ev} {C : Cx} {n0 : Nat} (hC : Cok V C y_m11_since.cls b_m11_since 3 n0 (some .int) y_m11_since.name) (hR : cR C = rm_m11_since)  : ∀ (r0 : Nat) (M : Mm), Sm V C 3 n0 n0 (qI V C) 29 [(0, rv V.1 r0)] [] M (s_m11_since_29 r0 M) := by
  intro r0 M
  unfold s_m11_since_29
  refine Sm.aload_n hC d_m11_since_29 rfl 0 rfl ?_
  refine Sm.bipush (v := -3) hC d_m11_since_30 (by decide) ?_
  refine Sm.callVi 11 (As := [.int (-3 : Int32)]) (st := []) hC hR cw_m11_refused (tw_i 1048 (by decide +kernel)) (tw_i 1050 (by decide +kernel)) (tw_i 23 (by decide +kernel)) ⟨_, rfl, rfl⟩ (fun r9 M9 h9 => ok_m11_refused h9) rfl rfl (RW.of ⟨rfl, rfl, by decide, by decide⟩) (by simp) d_m11_since_32 (fun v1 M2 => ?_)
  refine Sm.sub [] rfl ?_
  exact w_m11_since_35 hC hR v1 M2
set_option maxRecDepth 100000 in
set_option maxHeartbeats 4000000 in
theorem ok_m11_since {l : Launch} {V : Ev} {M M' : Mm} {r : Int32} {r0 : Nat} {a1 : Int32} {a2 : Int32} (h : s_m11_since r0 a1 a2 M = some (r, M')) : Met l y_m11_since (Cond.code y_m11_since b_m11_since 3 (some .int) :: TW) rm_m11_since (va_Pc [rv V.1 r0, .int a1, .int a2] (Wd V M)) (QC V (some (.int r)) M' 0) 0 0 (Af V) := by
  refine met_of (fun x : Int32 => some (.int x)) (lv0 := [(0, rv V.1 r0), (1, .int a1), (2, .int a2)]) (by decide) (by simp [lg_sl, cat_rv, cat_i, cat_l, cat_f]) (by simp [lv_args, cat_rv, cat_i, cat_l, cat_f]) (fun C hl hR hC => ?_) h
  subst hl
  generalize mN M = n0 at hC ⊢
  unfold s_m11_since
  refine Sm.aload_n hC d_m11_since_0 rfl 0 rfl ?_
  refine Sm.iload_n hC d_m11_since_1 rfl 1 rfl ?_
  refine Sm.callVi 11 (As := [.int a1]) (st := []) hC hR cw_m11_isPiece (tw_i 1060 (by decide +kernel)) (tw_i 1062 (by decide +kernel)) (tw_i 24 (by decide +kernel)) ⟨_, rfl, rfl⟩ (fun r9 M9 h9 => ok_m11_isPiece h9) rfl rfl (RW.of ⟨rfl, rfl, by decide, by decide⟩) (by simp) d_m11_since_2 (fun v1 M2 => ?_)
  refine Sm.if_eq (tgt := 29) hC d_m11_since_5 (by decide) ?_ ?_
  · refine Sm.sub [0] rfl ?_
    exact w_m11_since_29 hC hR r0 M2
  · refine Sm.iload_n hC d_m11_since_8 rfl 2 rfl ?_
    refine Sm.callSi (As := [.int a2]) (st := []) hC hR cw_m11_isPaper (tw_i 1150 (by decide +kernel)) (tw_i 1151 (by decide +kernel)) (fun r9 M9 h9 => ok_m11_isPaper h9) rfl rfl (RW.of ⟨rfl, rfl, by decide, by decide⟩) (by simp) d_m11_since_9 (fun v3 M4 => ?_)
    refine Sm.if_eq (tgt := 29) hC d_m11_since_12 (by decide) ?_ ?_
    · refine Sm.sub [0] rfl ?_
      exact w_m11_since_29 hC hR r0 M4
    · refine Sm.aload_n hC d_m11_since_15 rfl 0 rfl ?_
      refine Sm.getR hC fl_m11_91 rfl d_m11_since_16 (fun v5 => ?_)
      refine Sm.bipush (v := 40) hC d_m11_since_19 (by decide) ?_
      refine Sm.iload_n hC d_m11_since_21 rfl 2 rfl ?_
      refine Sm.imul hC d_m11_since_22 ?_
      refine Sm.iload_n hC d_m11_since_23 rfl 1 rfl ?_
      refine Sm.iadd hC d_m11_since_24 ?_
      refine Sm.iald hC d_m11_since_25 (fun v6 => ?_)
      refine Sm.goto (tgt := 35) hC d_m11_since_26 (by decide) ?_
      refine Sm.sub [] rfl ?_
      exact w_m11_since_35 hC hR v6 M4
/-! NewsWireModel.cost(I)I -/
abbrev b_m11_cost : ByteArray := prog_13_method_44_code
def y_m11_cost : MethodName := ⟨"NewsWireModel", "cost", "(I)I"⟩
def rm_m11_cost : Room := { frames := 3, cells := 0, slots := 0, locals := 102 }
theorem cw_m11_cost : CW y_m11_cost b_m11_cost 2 (some .int) 1 := ⟨tw_i 66 (by decide +kernel), tw_i 1208 (by decide +kernel), by decide, by decide, by decide +kernel⟩
theorem d_m11_cost_0 : decode b_m11_cost 0 = .ok (.iload_n 1, 1) := by decide +kernel
theorem d_m11_cost_1 : decode b_m11_cost 1 = .ok (.invokestatic 224, 3) := by decide +kernel
theorem d_m11_cost_4 : decode b_m11_cost 4 = .ok (.ifCond .eq 12, 3) := by decide +kernel
theorem d_m11_cost_7 : decode b_m11_cost 7 = .ok (.aload_n 0, 1) := by decide +kernel
theorem d_m11_cost_8 : decode b_m11_cost 8 = .ok (.getfield 94, 3) := by decide +kernel
theorem d_m11_cost_11 : decode b_m11_cost 11 = .ok (.iload_n 1, 1) := by decide +kernel
theorem d_m11_cost_12 : decode b_m11_cost 12 = .ok (.iaload, 1) := by decide +kernel
theorem d_m11_cost_13 : decode b_m11_cost 13 = .ok (.goto 9, 3) := by decide +kernel
theorem d_m11_cost_16 : decode b_m11_cost 16 = .ok (.aload_n 0, 1) := by decide +kernel
theorem d_m11_cost_17 : decode b_m11_cost 17 = .ok (.bipush (-3), 2) := by decide +kernel
theorem d_m11_cost_19 : decode b_m11_cost 19 = .ok (.invokevirtual 139, 3) := by decide +kernel
theorem d_m11_cost_22 : decode b_m11_cost 22 = .ok (.ireturn, 1) := by decide +kernel
def s_m11_cost_22  (t0 : Int32) (M : Mm) : Option (Int32 × Mm) := some (t0, M)
def s_m11_cost (r0 : Nat) (a1 : Int32) (M : Mm) : Option (Int32 × Mm) := cl true (s_m11_isPaper a1 M) (fun v1 M2 => (if v1 = 0 then cl (has M2 r0 21) (s_m11_refused r0 (-3 : Int32) M2) (fun v3 M4 => s_m11_cost_22 v3 M4) else gR M2 r0 21 38 (fun v5 => aI M2 v5 0 a1 (fun v6 => s_m11_cost_22 v6 M2))))
set_option maxRecDepth 100000 in
set_option maxHeartbeats 4000000 in
theorem w_m11_cost_22 {V : Ev} {C : Cx} {n0 : Nat} (hC : Cok V C y_m11_cost.cls b_m11_cost 2 n0 (some .int) y_m11_cost.name) (hR : cR C = rm_m11_cost)  : ∀ (t0 : Int32) (M : Mm), Sm V C 2 n0 n0 (qI V C) 22 [] [.int t0] M (s_m11_cost_22 t0 M) := by
  intro t0 M
  unfold s_m11_cost_22
  exact Sm.iret hC d_m11_cost_22 rfl (Nat.sub_self _)
set_option maxRecDepth 100000 in
set_option maxHeartbeats 4000000 in
theorem ok_m11_cost {l : Launch} {V : Ev} {M M' : Mm} {r : Int32} {r0 : Nat} {a1 : Int32} (h : s_m11_cost r0 a1 M = some (r, M')) : Met l y_m11_cost (Cond.code y_m11_cost b_m11_cost 2 (some .int) :: TW) rm_m11_cost (va_Pc [rv V.1 r0, .int a1] (Wd V M)) (QC V (some (.int r)) M' 0) 0 0 (Af V) := by
  refine met_of (fun x : Int32 => some (.int x)) (lv0 := [(0, rv V.1 r0), (1, .int a1)]) (by decide) (by simp [lg_sl, cat_rv, cat_i, cat_l, cat_f]) (by simp [lv_args, cat_rv, cat_i, cat_l, cat_f]) (fun C hl hR hC => ?_) h
  subst hl
  generalize mN M = n0 at hC ⊢
  unfold s_m11_cost
  refine Sm.iload_n hC d_m11_cost_0 rfl 1 rfl ?_
  refine Sm.callSi (As := [.int a1]) (st := []) hC hR cw_m11_isPaper (tw_i 1150 (by decide +kernel)) (tw_i 1151 (by decide +kernel)) (fun r9 M9 h9 => ok_m11_isPaper h9) rfl rfl (RW.of ⟨rfl, rfl, by decide, by decide⟩) (by simp) d_m11_cost_1 (fun v1 M2 => ?_)
  refine Sm.if_eq (tgt := 16) hC d_m11_cost_4 (by decide) ?_ ?_
  · refine Sm.aload_n hC d_m11_cost_16 rfl 0 rfl ?_
    refine Sm.bipush (v := -3) hC d_m11_cost_17 (by decide) ?_
    refine Sm.callVi 11 (As := [.int (-3 : Int32)]) (st := []) hC hR cw_m11_refused (tw_i 1048 (by decide +kernel)) (tw_i 1050 (by decide +kernel)) (tw_i 23 (by decide +kernel)) ⟨_, rfl, rfl⟩ (fun r9 M9 h9 => ok_m11_refused h9) rfl rfl (RW.of ⟨rfl, rfl, by decide, by decide⟩) (by simp) d_m11_cost_19 (fun v3 M4 => ?_)
    refine Sm.sub [] rfl ?_
    exact w_m11_cost_22 hC hR v3 M4
  · refine Sm.aload_n hC d_m11_cost_7 rfl 0 rfl ?_
    refine Sm.getR hC fl_m11_94 rfl d_m11_cost_8 (fun v5 => ?_)
    refine Sm.iload_n hC d_m11_cost_11 rfl 1 rfl ?_
    refine Sm.iald hC d_m11_cost_12 (fun v6 => ?_)
    refine Sm.goto (tgt := 22) hC d_m11_cost_13 (by decide) ?_
    refine Sm.sub [] rfl ?_
    exact w_m11_cost_22 hC hR v6 M2
/-! NewsWireModel.first(II)I -/
abbrev b_m11_first : ByteArray := prog_13_method_45_code
def y_m11_first : MethodName := ⟨"NewsWireModel", "first", "(II)I"⟩
def rm_m11_first : Room := { frames := 3, cells := 0, slots := 0, locals := 102 }
theorem cw_m11_first : CW y_m11_first b_m11_first 6 (some .int) 2 := ⟨tw_i 66 (by decide +kernel), tw_i 1212 (by decide +kernel), by decide, by decide, by decide +kernel⟩
theorem d_m11_first_0 : decode b_m11_first 0 = .ok (.iload_n 1, 1) := by decide +kernel
theorem d_m11_first_1 : decode b_m11_first 1 = .ok (.iconst 0, 1) := by decide +kernel
theorem d_m11_first_2 : decode b_m11_first 2 = .ok (.bipush 7, 2) := by decide +kernel
theorem d_m11_first_4 : decode b_m11_first 4 = .ok (.invokestatic 135, 3) := by decide +kernel
theorem d_m11_first_7 : decode b_m11_first 7 = .ok (.ifCond .eq 10, 3) := by decide +kernel
theorem d_m11_first_10 : decode b_m11_first 10 = .ok (.iload_n 2, 1) := by decide +kernel
theorem d_m11_first_11 : decode b_m11_first 11 = .ok (.invokestatic 224, 3) := by decide +kernel
theorem d_m11_first_14 : decode b_m11_first 14 = .ok (.ifCond .ne 10, 3) := by decide +kernel
theorem d_m11_first_17 : decode b_m11_first 17 = .ok (.aload_n 0, 1) := by decide +kernel
theorem d_m11_first_18 : decode b_m11_first 18 = .ok (.bipush (-3), 2) := by decide +kernel
theorem d_m11_first_20 : decode b_m11_first 20 = .ok (.invokevirtual 139, 3) := by decide +kernel
theorem d_m11_first_23 : decode b_m11_first 23 = .ok (.ireturn, 1) := by decide +kernel
theorem d_m11_first_24 : decode b_m11_first 24 = .ok (.iconst (-1), 1) := by decide +kernel
theorem d_m11_first_25 : decode b_m11_first 25 = .ok (.istore_n 3, 1) := by decide +kernel
theorem d_m11_first_26 : decode b_m11_first 26 = .ok (.iconst 0, 1) := by decide +kernel
theorem d_m11_first_27 : decode b_m11_first 27 = .ok (.istore 4, 2) := by decide +kernel
theorem d_m11_first_29 : decode b_m11_first 29 = .ok (.iload 4, 2) := by decide +kernel
theorem d_m11_first_31 : decode b_m11_first 31 = .ok (.aload_n 0, 1) := by decide +kernel
theorem d_m11_first_32 : decode b_m11_first 32 = .ok (.getfield 143, 3) := by decide +kernel
theorem d_m11_first_35 : decode b_m11_first 35 = .ok (.if_icmp .ge 54, 3) := by decide +kernel
theorem d_m11_first_38 : decode b_m11_first 38 = .ok (.aload_n 0, 1) := by decide +kernel
theorem d_m11_first_39 : decode b_m11_first 39 = .ok (.getfield 91, 3) := by decide +kernel
theorem d_m11_first_42 : decode b_m11_first 42 = .ok (.bipush 40, 2) := by decide +kernel
theorem d_m11_first_44 : decode b_m11_first 44 = .ok (.iload_n 2, 1) := by decide +kernel
theorem d_m11_first_45 : decode b_m11_first 45 = .ok (.imul, 1) := by decide +kernel
theorem d_m11_first_46 : decode b_m11_first 46 = .ok (.iload 4, 2) := by decide +kernel
theorem d_m11_first_48 : decode b_m11_first 48 = .ok (.iadd, 1) := by decide +kernel
theorem d_m11_first_49 : decode b_m11_first 49 = .ok (.iaload, 1) := by decide +kernel
theorem d_m11_first_50 : decode b_m11_first 50 = .ok (.istore 5, 2) := by decide +kernel
theorem d_m11_first_52 : decode b_m11_first 52 = .ok (.aload_n 0, 1) := by decide +kernel
theorem d_m11_first_53 : decode b_m11_first 53 = .ok (.getfield 25, 3) := by decide +kernel
theorem d_m11_first_56 : decode b_m11_first 56 = .ok (.iload 4, 2) := by decide +kernel
theorem d_m11_first_58 : decode b_m11_first 58 = .ok (.iaload, 1) := by decide +kernel
theorem d_m11_first_59 : decode b_m11_first 59 = .ok (.iload_n 1, 1) := by decide +kernel
theorem d_m11_first_60 : decode b_m11_first 60 = .ok (.if_icmp .ne 23, 3) := by decide +kernel
theorem d_m11_first_63 : decode b_m11_first 63 = .ok (.iload 5, 2) := by decide +kernel
theorem d_m11_first_65 : decode b_m11_first 65 = .ok (.iconst (-1), 1) := by decide +kernel
theorem d_m11_first_66 : decode b_m11_first 66 = .ok (.if_icmp .eq 17, 3) := by decide +kernel
theorem d_m11_first_69 : decode b_m11_first 69 = .ok (.iload_n 3, 1) := by decide +kernel
theorem d_m11_first_70 : decode b_m11_first 70 = .ok (.iconst (-1), 1) := by decide +kernel
theorem d_m11_first_71 : decode b_m11_first 71 = .ok (.if_icmp .eq 9, 3) := by decide +kernel
theorem d_m11_first_74 : decode b_m11_first 74 = .ok (.iload 5, 2) := by decide +kernel
theorem d_m11_first_76 : decode b_m11_first 76 = .ok (.iload_n 3, 1) := by decide +kernel
theorem d_m11_first_77 : decode b_m11_first 77 = .ok (.if_icmp .ge 6, 3) := by decide +kernel
theorem d_m11_first_80 : decode b_m11_first 80 = .ok (.iload 5, 2) := by decide +kernel
theorem d_m11_first_82 : decode b_m11_first 82 = .ok (.istore_n 3, 1) := by decide +kernel
theorem d_m11_first_83 : decode b_m11_first 83 = .ok (.iinc 4 1, 3) := by decide +kernel
theorem d_m11_first_86 : decode b_m11_first 86 = .ok (.goto (-57), 3) := by decide +kernel
theorem d_m11_first_89 : decode b_m11_first 89 = .ok (.iload_n 3, 1) := by decide +kernel
theorem d_m11_first_90 : decode b_m11_first 90 = .ok (.ireturn, 1) := by decide +kernel
def s_m11_first_17  (r0 : Nat) (M : Mm) : Option (Int32 × Mm) := cl (has M r0 21) (s_m11_refused r0 (-3 : Int32) M) (fun v1 M2 => some (v1, M2))
def s_m11_first_83 (k29 : Nat → Int32 → Int32 → Int32 → Int32 → Mm → Option (Int32 × Mm)) (r0 : Nat) (x1 : Int32) (x2 : Int32) (x3 : Int32) (x4 : Int32) (M : Mm) : Option (Int32 × Mm) := k29 r0 x1 x2 x3 (x4 + 1) M
def s_m11_first_80 (k29 : Nat → Int32 → Int32 → Int32 → Int32 → Mm → Option (Int32 × Mm)) (r0 : Nat) (x1 : Int32) (x2 : Int32) (x4 : Int32) (x5 : Int32) (M : Mm) : Option (Int32 × Mm) := s_m11_first_83 k29 r0 x1 x2 x5 x4 M
def s_m11_first_29  : Nat → Nat → Int32 → Int32 → Int32 → Int32 → Mm → Option (Int32 × Mm)
  | 0, _, _, _, _, _, _ => none
  | n + 1, r0, x1, x2, x3, x4, M => gI M r0 21 6 (fun v1 => (if v1 ≤ x4 then some (x3, M) else gR M r0 21 37 (fun v2 => aI M v2 0 (((40 : Int32) * x2) + x4) (fun v3 => gR M r0 21 8 (fun v4 => aI M v4 0 x4 (fun v5 => (if ¬ v5 = x1 then s_m11_first_83 (s_m11_first_29 n) r0 x1 x2 x3 x4 M else (if v3 = (-1 : Int32) then s_m11_first_83 (s_m11_first_29 n) r0 x1 x2 x3 x4 M else (if x3 = (-1 : Int32) then s_m11_first_80 (s_m11_first_29 n) r0 x1 x2 x4 v3 M else (if x3 ≤ v3 then s_m11_first_83 (s_m11_first_29 n) r0 x1 x2 x3 x4 M else s_m11_first_80 (s_m11_first_29 n) r0 x1 x2 x4 v3 M))))))))))
def s_m11_first (r0 : Nat) (a1 : Int32) (a2 : Int32) (M : Mm) : Option (Int32 × Mm) := cl true (s_m11_in a1 (0 : Int32) (7 : Int32) M) (fun v1 M2 => (if v1 = 0 then s_m11_first_17 r0 M2 else cl true (s_m11_isPaper a2 M2) (fun v3 M4 => (if ¬ v3 = 0 then s_m11_first_29 FU r0 a1 a2 (-1 : Int32) (0 : Int32) M4 else s_m11_first_17 r0 M4))))
set_option maxRecDepth 100000 in
set_option maxHeartbeats 4000000 in
theorem w_m11_first_17 {V : Ev} {C : Cx} {n0 : Nat} (hC : Cok V C y_m11_first.cls b_m11_first 6 n0 (some .int) y_m11_first.name) (hR : cR C = rm_m11_first)  : ∀ (r0 : Nat) (M : Mm), Sm V C 6 n0 n0 (qI V C) 17 [(0, rv V.1 r0)] [] M (s_m11_first_17 r0 M) := by
  intro r0 M
  unfold s_m11_first_17
  refine Sm.aload_n hC d_m11_first_17 rfl 0 rfl ?_
  refine Sm.bipush (v := -3) hC d_m11_first_18 (by decide) ?_
  refine Sm.callVi 11 (As := [.int (-3 : Int32)]) (st := []) hC hR cw_m11_refused (tw_i 1048 (by decide +kernel)) (tw_i 1050 (by decide +kernel)) (tw_i 23 (by decide +kernel)) ⟨_, rfl, rfl⟩ (fun r9 M9 h9 => ok_m11_refused h9) rfl rfl (RW.of ⟨rfl, rfl, by decide, by decide⟩) (by simp) d_m11_first_20 (fun v1 M2 => ?_)
  exact Sm.iret hC d_m11_first_23 rfl (Nat.sub_self _)
set_option maxRecDepth 100000 in
set_option maxHeartbeats 4000000 in
theorem w_m11_first_83 {V : Ev} {C : Cx} {n0 : Nat} (hC : Cok V C y_m11_first.cls b_m11_first 6 n0 (some .int) y_m11_first.name) (hR : cR C = rm_m11_first) (k29 : Nat → Int32 → Int32 → Int32 → Int32 → Mm → Option (Int32 × Mm)) (hk29 : ∀ (r0 : Nat) (x1 : Int32) (x2 : Int32) (x3 : Int32) (x4 : Int32) (M : Mm), Sm V C 6 n0 n0 (qI V C) 29 [(0, rv V.1 r0), (1, .int x1), (2, .int x2), (3, .int x3), (4, .int x4)] [] M (k29 r0 x1 x2 x3 x4 M)) : ∀ (r0 : Nat) (x1 : Int32) (x2 : Int32) (x3 : Int32) (x4 : Int32) (M : Mm), Sm V C 6 n0 n0 (qI V C) 83 [(0, rv V.1 r0), (1, .int x1), (2, .int x2), (3, .int x3), (4, .int x4)] [] M (s_m11_first_83 k29 r0 x1 x2 x3 x4 M) := by
  intro r0 x1 x2 x3 x4 M
  unfold s_m11_first_83
  refine Sm.iinc (v := x4 + 1) (lv' := [(4, .int (x4 + 1)), (0, rv V.1 r0), (1, .int x1), (2, .int x2), (3, .int x3)]) hC d_m11_first_83 4 rfl rfl (by decide) rfl ?_
  refine Sm.goto (tgt := 29) hC d_m11_first_86 (by decide) ?_
  refine Sm.sub [1, 2, 3, 4, 0] rfl ?_
  exact hk29 r0 x1 x2 x3 (x4 + 1) M
set_option maxRecDepth 100000 in
set_option maxHeartbeats 4000000 in
theorem w_m11_first_80 {V : Ev} {C : Cx} {n0 : Nat} (hC : Cok V C y_m11_first.cls b_m11_first 6 n0 (some .int) y_m11_first.name) (hR : cR C = rm_m11_first) (k29 : Nat → Int32 → Int32 → Int32 → Int32 → Mm → Option (Int32 × Mm)) (hk29 : ∀ (r0 : Nat) (x1 : Int32) (x2 : Int32) (x3 : Int32) (x4 : Int32) (M : Mm), Sm V C 6 n0 n0 (qI V C) 29 [(0, rv V.1 r0), (1, .int x1), (2, .int x2), (3, .int x3), (4, .int x4)] [] M (k29 r0 x1 x2 x3 x4 M)) : ∀ (r0 : Nat) (x1 : Int32) (x2 : Int32) (x4 : Int32) (x5 : Int32) (M : Mm), Sm V C 6 n0 n0 (qI V C) 80 [(0, rv V.1 r0), (1, .int x1), (2, .int x2), (4, .int x4), (5, .int x5)] [] M (s_m11_first_80 k29 r0 x1 x2 x4 x5 M) := by
  intro r0 x1 x2 x4 x5 M
  unfold s_m11_first_80
  refine Sm.iload hC d_m11_first_80 4 rfl ?_
  refine Sm.istore_n (lv' := [(3, .int x5), (0, rv V.1 r0), (1, .int x1), (2, .int x2), (4, .int x4), (5, .int x5)]) hC d_m11_first_82 rfl (by decide) rfl ?_
  refine Sm.sub [1, 2, 3, 0, 4] rfl ?_
  exact w_m11_first_83 hC hR k29 hk29 r0 x1 x2 x5 x4 M
set_option maxRecDepth 100000 in
set_option maxHeartbeats 4000000 in
theorem w_m11_first_29 {V : Ev} {C : Cx} {n0 : Nat} (hC : Cok V C y_m11_first.cls b_m11_first 6 n0 (some .int) y_m11_first.name) (hR : cR C = rm_m11_first)  : ∀ (n : Nat) (r0 : Nat) (x1 : Int32) (x2 : Int32) (x3 : Int32) (x4 : Int32) (M : Mm), Sm V C 6 n0 n0 (qI V C) 29 [(0, rv V.1 r0), (1, .int x1), (2, .int x2), (3, .int x3), (4, .int x4)] [] M (s_m11_first_29 n r0 x1 x2 x3 x4 M) := by
  intro n
  induction n with
  | zero => exact fun r0 x1 x2 x3 x4 M => Sm.none_
  | succ n ih =>
    intro r0 x1 x2 x3 x4 M
    unfold s_m11_first_29
    refine Sm.iload hC d_m11_first_29 4 rfl ?_
    refine Sm.aload_n hC d_m11_first_31 rfl 0 rfl ?_
    refine Sm.getI hC fl_m11_143 rfl d_m11_first_32 (fun v1 => ?_)
    refine Sm.icmp_ge (tgt := 89) hC d_m11_first_35 (by decide) ?_ ?_
    · refine Sm.iload_n hC d_m11_first_89 rfl 3 rfl ?_
      exact Sm.iret hC d_m11_first_90 rfl (Nat.sub_self _)
    · refine Sm.aload_n hC d_m11_first_38 rfl 0 rfl ?_
      refine Sm.getR hC fl_m11_91 rfl d_m11_first_39 (fun v2 => ?_)
      refine Sm.bipush (v := 40) hC d_m11_first_42 (by decide) ?_
      refine Sm.iload_n hC d_m11_first_44 rfl 2 rfl ?_
      refine Sm.imul hC d_m11_first_45 ?_
      refine Sm.iload hC d_m11_first_46 4 rfl ?_
      refine Sm.iadd hC d_m11_first_48 ?_
      refine Sm.iald hC d_m11_first_49 (fun v3 => ?_)
      refine Sm.istore (lv' := [(5, .int v3), (0, rv V.1 r0), (1, .int x1), (2, .int x2), (3, .int x3), (4, .int x4)]) hC d_m11_first_50 (by decide) rfl ?_
      refine Sm.aload_n hC d_m11_first_52 rfl 1 rfl ?_
      refine Sm.getR hC fl_m11_25 rfl d_m11_first_53 (fun v4 => ?_)
      refine Sm.iload hC d_m11_first_56 5 rfl ?_
      refine Sm.iald hC d_m11_first_58 (fun v5 => ?_)
      refine Sm.iload_n hC d_m11_first_59 rfl 2 rfl ?_
      refine Sm.icmp_ne (tgt := 83) hC d_m11_first_60 (by decide) ?_ ?_
      · refine Sm.sub [1, 2, 3, 4, 5] rfl ?_
        exact w_m11_first_83 hC hR (s_m11_first_29 n) ih r0 x1 x2 x3 x4 M
      · refine Sm.iload hC d_m11_first_63 0 rfl ?_
        refine Sm.iconst (v := -1) hC d_m11_first_65 (by decide) ?_
        refine Sm.icmp_eq (tgt := 83) hC d_m11_first_66 (by decide) ?_ ?_
        · refine Sm.sub [1, 2, 3, 4, 5] rfl ?_
          exact w_m11_first_83 hC hR (s_m11_first_29 n) ih r0 x1 x2 x3 x4 M
        · refine Sm.iload_n hC d_m11_first_69 rfl 4 rfl ?_
          refine Sm.iconst (v := -1) hC d_m11_first_70 (by decide) ?_
          refine Sm.icmp_eq (tgt := 80) hC d_m11_first_71 (by decide) ?_ ?_
          · refine Sm.sub [1, 2, 3, 5, 0] rfl ?_
            exact w_m11_first_80 hC hR (s_m11_first_29 n) ih r0 x1 x2 x4 v3 M
          · refine Sm.iload hC d_m11_first_74 0 rfl ?_
            refine Sm.iload_n hC d_m11_first_76 rfl 4 rfl ?_
            refine Sm.icmp_ge (tgt := 83) hC d_m11_first_77 (by decide) ?_ ?_
            · refine Sm.sub [1, 2, 3, 4, 5] rfl ?_
              exact w_m11_first_83 hC hR (s_m11_first_29 n) ih r0 x1 x2 x3 x4 M
            · refine Sm.sub [1, 2, 3, 5, 0] rfl ?_
              exact w_m11_first_80 hC hR (s_m11_first_29 n) ih r0 x1 x2 x4 v3 M
set_option maxRecDepth 100000 in
set_option maxHeartbeats 4000000 in
theorem ok_m11_first {l : Launch} {V : Ev} {M M' : Mm} {r : Int32} {r0 : Nat} {a1 : Int32} {a2 : Int32} (h : s_m11_first r0 a1 a2 M = some (r, M')) : Met l y_m11_first (Cond.code y_m11_first b_m11_first 6 (some .int) :: TW) rm_m11_first (va_Pc [rv V.1 r0, .int a1, .int a2] (Wd V M)) (QC V (some (.int r)) M' 0) 0 0 (Af V) := by
  refine met_of (fun x : Int32 => some (.int x)) (lv0 := [(0, rv V.1 r0), (1, .int a1), (2, .int a2)]) (by decide) (by simp [lg_sl, cat_rv, cat_i, cat_l, cat_f]) (by simp [lv_args, cat_rv, cat_i, cat_l, cat_f]) (fun C hl hR hC => ?_) h
  subst hl
  generalize mN M = n0 at hC ⊢
  unfold s_m11_first
  refine Sm.iload_n hC d_m11_first_0 rfl 1 rfl ?_
  refine Sm.iconst (v := 0) hC d_m11_first_1 (by decide) ?_
  refine Sm.bipush (v := 7) hC d_m11_first_2 (by decide) ?_
  refine Sm.callSi (As := [.int a1, .int (0 : Int32), .int (7 : Int32)]) (st := []) hC hR cw_m11_in (tw_i 1045 (by decide +kernel)) (tw_i 1046 (by decide +kernel)) (fun r9 M9 h9 => ok_m11_in h9) rfl rfl (RW.of ⟨rfl, rfl, by decide, by decide⟩) (by simp) d_m11_first_4 (fun v1 M2 => ?_)
  refine Sm.if_eq (tgt := 17) hC d_m11_first_7 (by decide) ?_ ?_
  · refine Sm.sub [0] rfl ?_
    exact w_m11_first_17 hC hR r0 M2
  · refine Sm.iload_n hC d_m11_first_10 rfl 2 rfl ?_
    refine Sm.callSi (As := [.int a2]) (st := []) hC hR cw_m11_isPaper (tw_i 1150 (by decide +kernel)) (tw_i 1151 (by decide +kernel)) (fun r9 M9 h9 => ok_m11_isPaper h9) rfl rfl (RW.of ⟨rfl, rfl, by decide, by decide⟩) (by simp) d_m11_first_11 (fun v3 M4 => ?_)
    refine Sm.if_ne (tgt := 24) hC d_m11_first_14 (by decide) ?_ ?_
    · refine Sm.iconst (v := -1) hC d_m11_first_24 (by decide) ?_
      refine Sm.istore_n (lv' := [(3, .int (-1 : Int32)), (0, rv V.1 r0), (1, .int a1), (2, .int a2)]) hC d_m11_first_25 rfl (by decide) rfl ?_
      refine Sm.iconst (v := 0) hC d_m11_first_26 (by decide) ?_
      refine Sm.istore (lv' := [(4, .int (0 : Int32)), (3, .int (-1 : Int32)), (0, rv V.1 r0), (1, .int a1), (2, .int a2)]) hC d_m11_first_27 (by decide) rfl ?_
      refine Sm.sub [2, 3, 4, 1, 0] rfl ?_
      exact w_m11_first_29 hC hR FU r0 a1 a2 (-1 : Int32) (0 : Int32) M4
    · refine Sm.sub [0] rfl ?_
      exact w_m11_first_17 hC hR r0 M4
/-! NewsWireModel.has(III)Z -/
abbrev b_m11_has : ByteArray := prog_13_method_46_code
def y_m11_has : MethodName := ⟨"NewsWireModel", "has", "(III)Z"⟩
def rm_m11_has : Room := { frames := 1, cells := 0, slots := 0, locals := 60 }
theorem cw_m11_has : CW y_m11_has b_m11_has 4 (some .boolean) 3 := ⟨tw_i 66 (by decide +kernel), tw_i 1240 (by decide +kernel), by decide, by decide, by decide +kernel⟩
theorem d_m11_has_0 : decode b_m11_has 0 = .ok (.aload_n 0, 1) := by decide +kernel
theorem d_m11_has_1 : decode b_m11_has 1 = .ok (.getfield 91, 3) := by decide +kernel
theorem d_m11_has_4 : decode b_m11_has 4 = .ok (.bipush 40, 2) := by decide +kernel
theorem d_m11_has_6 : decode b_m11_has 6 = .ok (.iload_n 2, 1) := by decide +kernel
theorem d_m11_has_7 : decode b_m11_has 7 = .ok (.imul, 1) := by decide +kernel
theorem d_m11_has_8 : decode b_m11_has 8 = .ok (.iload_n 1, 1) := by decide +kernel
theorem d_m11_has_9 : decode b_m11_has 9 = .ok (.iadd, 1) := by decide +kernel
theorem d_m11_has_10 : decode b_m11_has 10 = .ok (.iaload, 1) := by decide +kernel
theorem d_m11_has_11 : decode b_m11_has 11 = .ok (.iconst (-1), 1) := by decide +kernel
theorem d_m11_has_12 : decode b_m11_has 12 = .ok (.if_icmp .eq 22, 3) := by decide +kernel
theorem d_m11_has_15 : decode b_m11_has 15 = .ok (.aload_n 0, 1) := by decide +kernel
theorem d_m11_has_16 : decode b_m11_has 16 = .ok (.getfield 91, 3) := by decide +kernel
theorem d_m11_has_19 : decode b_m11_has 19 = .ok (.bipush 40, 2) := by decide +kernel
theorem d_m11_has_21 : decode b_m11_has 21 = .ok (.iload_n 2, 1) := by decide +kernel
theorem d_m11_has_22 : decode b_m11_has 22 = .ok (.imul, 1) := by decide +kernel
theorem d_m11_has_23 : decode b_m11_has 23 = .ok (.iload_n 1, 1) := by decide +kernel
theorem d_m11_has_24 : decode b_m11_has 24 = .ok (.iadd, 1) := by decide +kernel
theorem d_m11_has_25 : decode b_m11_has 25 = .ok (.iaload, 1) := by decide +kernel
theorem d_m11_has_26 : decode b_m11_has 26 = .ok (.iload_n 3, 1) := by decide +kernel
theorem d_m11_has_27 : decode b_m11_has 27 = .ok (.if_icmp .gt 7, 3) := by decide +kernel
theorem d_m11_has_30 : decode b_m11_has 30 = .ok (.iconst 1, 1) := by decide +kernel
theorem d_m11_has_31 : decode b_m11_has 31 = .ok (.goto 4, 3) := by decide +kernel
theorem d_m11_has_34 : decode b_m11_has 34 = .ok (.iconst 0, 1) := by decide +kernel
theorem d_m11_has_35 : decode b_m11_has 35 = .ok (.ireturn, 1) := by decide +kernel
def s_m11_has_35  (t0 : Int32) (M : Mm) : Option (Int32 × Mm) := rz t0 (some (t0, M))
def s_m11_has_34   (M : Mm) : Option (Int32 × Mm) := s_m11_has_35 (0 : Int32) M
def s_m11_has (r0 : Nat) (a1 : Int32) (a2 : Int32) (a3 : Int32) (M : Mm) : Option (Int32 × Mm) := gR M r0 21 37 (fun v1 => aI M v1 0 (((40 : Int32) * a2) + a1) (fun v2 => (if v2 = (-1 : Int32) then s_m11_has_34 M else gR M r0 21 37 (fun v3 => aI M v3 0 (((40 : Int32) * a2) + a1) (fun v4 => (if a3 < v4 then s_m11_has_34 M else s_m11_has_35 (1 : Int32) M))))))
set_option maxRecDepth 100000 in
set_option maxHeartbeats 4000000 in
theorem w_m11_has_35 {V : Ev} {C : Cx} {n0 : Nat} (hC : Cok V C y_m11_has.cls b_m11_has 4 n0 (some .boolean) y_m11_has.name) (hR : cR C = rm_m11_has)  : ∀ (t0 : Int32) (M : Mm), Sm V C 4 n0 n0 (qI V C) 35 [] [.int t0] M (s_m11_has_35 t0 M) := by
  intro t0 M
  unfold s_m11_has_35
  exact Sm.zret hC d_m11_has_35 rfl (Nat.sub_self _)
set_option maxRecDepth 100000 in
set_option maxHeartbeats 4000000 in
theorem w_m11_has_34 {V : Ev} {C : Cx} {n0 : Nat} (hC : Cok V C y_m11_has.cls b_m11_has 4 n0 (some .boolean) y_m11_has.name) (hR : cR C = rm_m11_has)  : ∀  (M : Mm), Sm V C 4 n0 n0 (qI V C) 34 [] [] M (s_m11_has_34 M) := by
  intro M
  unfold s_m11_has_34
  refine Sm.iconst (v := 0) hC d_m11_has_34 (by decide) ?_
  exact w_m11_has_35 hC hR (0 : Int32) M
set_option maxRecDepth 100000 in
set_option maxHeartbeats 4000000 in
theorem ok_m11_has {l : Launch} {V : Ev} {M M' : Mm} {r : Int32} {r0 : Nat} {a1 : Int32} {a2 : Int32} {a3 : Int32} (h : s_m11_has r0 a1 a2 a3 M = some (r, M')) : Met l y_m11_has (Cond.code y_m11_has b_m11_has 4 (some .boolean) :: TW) rm_m11_has (va_Pc [rv V.1 r0, .int a1, .int a2, .int a3] (Wd V M)) (QC V (some (.int r)) M' 0) 0 0 (Af V) := by
  refine met_of (fun x : Int32 => some (.int x)) (lv0 := [(0, rv V.1 r0), (1, .int a1), (2, .int a2), (3, .int a3)]) (by decide) (by simp [lg_sl, cat_rv, cat_i, cat_l, cat_f]) (by simp [lv_args, cat_rv, cat_i, cat_l, cat_f]) (fun C hl hR hC => ?_) h
  subst hl
  generalize mN M = n0 at hC ⊢
  unfold s_m11_has
  refine Sm.aload_n hC d_m11_has_0 rfl 0 rfl ?_
  refine Sm.getR hC fl_m11_91 rfl d_m11_has_1 (fun v1 => ?_)
  refine Sm.bipush (v := 40) hC d_m11_has_4 (by decide) ?_
  refine Sm.iload_n hC d_m11_has_6 rfl 2 rfl ?_
  refine Sm.imul hC d_m11_has_7 ?_
  refine Sm.iload_n hC d_m11_has_8 rfl 1 rfl ?_
  refine Sm.iadd hC d_m11_has_9 ?_
  refine Sm.iald hC d_m11_has_10 (fun v2 => ?_)
  refine Sm.iconst (v := -1) hC d_m11_has_11 (by decide) ?_
  refine Sm.icmp_eq (tgt := 34) hC d_m11_has_12 (by decide) ?_ ?_
  · refine Sm.sub [] rfl ?_
    exact w_m11_has_34 hC hR M
  · refine Sm.aload_n hC d_m11_has_15 rfl 0 rfl ?_
    refine Sm.getR hC fl_m11_91 rfl d_m11_has_16 (fun v3 => ?_)
    refine Sm.bipush (v := 40) hC d_m11_has_19 (by decide) ?_
    refine Sm.iload_n hC d_m11_has_21 rfl 2 rfl ?_
    refine Sm.imul hC d_m11_has_22 ?_
    refine Sm.iload_n hC d_m11_has_23 rfl 1 rfl ?_
    refine Sm.iadd hC d_m11_has_24 ?_
    refine Sm.iald hC d_m11_has_25 (fun v4 => ?_)
    refine Sm.iload_n hC d_m11_has_26 rfl 3 rfl ?_
    refine Sm.icmp_gt (tgt := 34) hC d_m11_has_27 (by decide) ?_ ?_
    · refine Sm.sub [] rfl ?_
      exact w_m11_has_34 hC hR M
    · refine Sm.iconst (v := 1) hC d_m11_has_30 (by decide) ?_
      refine Sm.goto (tgt := 35) hC d_m11_has_31 (by decide) ?_
      refine Sm.sub [] rfl ?_
      exact w_m11_has_35 hC hR (1 : Int32) M
/-! NewsWireModel.isThere(III)Z -/
abbrev b_m11_isThere : ByteArray := prog_13_method_47_code
def y_m11_isThere : MethodName := ⟨"NewsWireModel", "isThere", "(III)Z"⟩
def rm_m11_isThere : Room := { frames := 2, cells := 0, slots := 0, locals := 83 }
theorem cw_m11_isThere : CW y_m11_isThere b_m11_isThere 6 (some .boolean) 3 := ⟨tw_i 66 (by decide +kernel), tw_i 1236 (by decide +kernel), by decide, by decide, by decide +kernel⟩
theorem d_m11_isThere_0 : decode b_m11_isThere 0 = .ok (.aload_n 0, 1) := by decide +kernel
theorem d_m11_isThere_1 : decode b_m11_isThere 1 = .ok (.iload_n 1, 1) := by decide +kernel
theorem d_m11_isThere_2 : decode b_m11_isThere 2 = .ok (.iload_n 2, 1) := by decide +kernel
theorem d_m11_isThere_3 : decode b_m11_isThere 3 = .ok (.iload_n 3, 1) := by decide +kernel
theorem d_m11_isThere_4 : decode b_m11_isThere 4 = .ok (.invokevirtual 263, 3) := by decide +kernel
theorem d_m11_isThere_7 : decode b_m11_isThere 7 = .ok (.ifCond .eq 27, 3) := by decide +kernel
theorem d_m11_isThere_10 : decode b_m11_isThere 10 = .ok (.aload_n 0, 1) := by decide +kernel
theorem d_m11_isThere_11 : decode b_m11_isThere 11 = .ok (.getfield 22, 3) := by decide +kernel
theorem d_m11_isThere_14 : decode b_m11_isThere 14 = .ok (.iload_n 1, 1) := by decide +kernel
theorem d_m11_isThere_15 : decode b_m11_isThere 15 = .ok (.iaload, 1) := by decide +kernel
theorem d_m11_isThere_16 : decode b_m11_isThere 16 = .ok (.iconst 5, 1) := by decide +kernel
theorem d_m11_isThere_17 : decode b_m11_isThere 17 = .ok (.if_icmp .ne 13, 3) := by decide +kernel
theorem d_m11_isThere_20 : decode b_m11_isThere 20 = .ok (.iload_n 3, 1) := by decide +kernel
theorem d_m11_isThere_21 : decode b_m11_isThere 21 = .ok (.aload_n 0, 1) := by decide +kernel
theorem d_m11_isThere_22 : decode b_m11_isThere 22 = .ok (.getfield 40, 3) := by decide +kernel
theorem d_m11_isThere_25 : decode b_m11_isThere 25 = .ok (.iload_n 1, 1) := by decide +kernel
theorem d_m11_isThere_26 : decode b_m11_isThere 26 = .ok (.iaload, 1) := by decide +kernel
theorem d_m11_isThere_27 : decode b_m11_isThere 27 = .ok (.if_icmp .lt 7, 3) := by decide +kernel
theorem d_m11_isThere_30 : decode b_m11_isThere 30 = .ok (.iconst 1, 1) := by decide +kernel
theorem d_m11_isThere_31 : decode b_m11_isThere 31 = .ok (.goto 4, 3) := by decide +kernel
theorem d_m11_isThere_34 : decode b_m11_isThere 34 = .ok (.iconst 0, 1) := by decide +kernel
theorem d_m11_isThere_35 : decode b_m11_isThere 35 = .ok (.istore 4, 2) := by decide +kernel
theorem d_m11_isThere_37 : decode b_m11_isThere 37 = .ok (.iload_n 1, 1) := by decide +kernel
theorem d_m11_isThere_38 : decode b_m11_isThere 38 = .ok (.iconst 1, 1) := by decide +kernel
theorem d_m11_isThere_39 : decode b_m11_isThere 39 = .ok (.iadd, 1) := by decide +kernel
theorem d_m11_isThere_40 : decode b_m11_isThere 40 = .ok (.istore 5, 2) := by decide +kernel
theorem d_m11_isThere_42 : decode b_m11_isThere 42 = .ok (.iload 5, 2) := by decide +kernel
theorem d_m11_isThere_44 : decode b_m11_isThere 44 = .ok (.aload_n 0, 1) := by decide +kernel
theorem d_m11_isThere_45 : decode b_m11_isThere 45 = .ok (.getfield 143, 3) := by decide +kernel
theorem d_m11_isThere_48 : decode b_m11_isThere 48 = .ok (.if_icmp .ge 54, 3) := by decide +kernel
theorem d_m11_isThere_51 : decode b_m11_isThere 51 = .ok (.iload 4, 2) := by decide +kernel
theorem d_m11_isThere_53 : decode b_m11_isThere 53 = .ok (.ifCond .eq 49, 3) := by decide +kernel
theorem d_m11_isThere_56 : decode b_m11_isThere 56 = .ok (.aload_n 0, 1) := by decide +kernel
theorem d_m11_isThere_57 : decode b_m11_isThere 57 = .ok (.getfield 22, 3) := by decide +kernel
theorem d_m11_isThere_60 : decode b_m11_isThere 60 = .ok (.iload 5, 2) := by decide +kernel
theorem d_m11_isThere_62 : decode b_m11_isThere 62 = .ok (.iaload, 1) := by decide +kernel
theorem d_m11_isThere_63 : decode b_m11_isThere 63 = .ok (.iconst 4, 1) := by decide +kernel
theorem d_m11_isThere_64 : decode b_m11_isThere 64 = .ok (.if_icmp .ne 25, 3) := by decide +kernel
theorem d_m11_isThere_67 : decode b_m11_isThere 67 = .ok (.aload_n 0, 1) := by decide +kernel
theorem d_m11_isThere_68 : decode b_m11_isThere 68 = .ok (.getfield 37, 3) := by decide +kernel
theorem d_m11_isThere_71 : decode b_m11_isThere 71 = .ok (.iload 5, 2) := by decide +kernel
theorem d_m11_isThere_73 : decode b_m11_isThere 73 = .ok (.iaload, 1) := by decide +kernel
theorem d_m11_isThere_74 : decode b_m11_isThere 74 = .ok (.iload_n 1, 1) := by decide +kernel
theorem d_m11_isThere_75 : decode b_m11_isThere 75 = .ok (.if_icmp .ne 14, 3) := by decide +kernel
theorem d_m11_isThere_78 : decode b_m11_isThere 78 = .ok (.aload_n 0, 1) := by decide +kernel
theorem d_m11_isThere_79 : decode b_m11_isThere 79 = .ok (.iload 5, 2) := by decide +kernel
theorem d_m11_isThere_81 : decode b_m11_isThere 81 = .ok (.iload_n 2, 1) := by decide +kernel
theorem d_m11_isThere_82 : decode b_m11_isThere 82 = .ok (.iload_n 3, 1) := by decide +kernel
theorem d_m11_isThere_83 : decode b_m11_isThere 83 = .ok (.invokevirtual 263, 3) := by decide +kernel
theorem d_m11_isThere_86 : decode b_m11_isThere 86 = .ok (.ifCond .ne 7, 3) := by decide +kernel
theorem d_m11_isThere_89 : decode b_m11_isThere 89 = .ok (.iconst 1, 1) := by decide +kernel
theorem d_m11_isThere_90 : decode b_m11_isThere 90 = .ok (.goto 4, 3) := by decide +kernel
theorem d_m11_isThere_93 : decode b_m11_isThere 93 = .ok (.iconst 0, 1) := by decide +kernel
theorem d_m11_isThere_94 : decode b_m11_isThere 94 = .ok (.istore 4, 2) := by decide +kernel
theorem d_m11_isThere_96 : decode b_m11_isThere 96 = .ok (.iinc 5 1, 3) := by decide +kernel
theorem d_m11_isThere_99 : decode b_m11_isThere 99 = .ok (.goto (-57), 3) := by decide +kernel
theorem d_m11_isThere_102 : decode b_m11_isThere 102 = .ok (.iload 4, 2) := by decide +kernel
theorem d_m11_isThere_104 : decode b_m11_isThere 104 = .ok (.ireturn, 1) := by decide +kernel
def s_m11_isThere_102  (x4 : Int32) (M : Mm) : Option (Int32 × Mm) := rz x4 (some (x4, M))
def s_m11_isThere_94 (k42 : Nat → Int32 → Int32 → Int32 → Int32 → Int32 → Mm → Option (Int32 × Mm)) (r0 : Nat) (x1 : Int32) (x2 : Int32) (x3 : Int32) (x5 : Int32) (t0 : Int32) (M : Mm) : Option (Int32 × Mm) := k42 r0 x1 x2 x3 t0 (x5 + 1) M
def s_m11_isThere_89 (k42 : Nat → Int32 → Int32 → Int32 → Int32 → Int32 → Mm → Option (Int32 × Mm)) (r0 : Nat) (x1 : Int32) (x2 : Int32) (x3 : Int32) (x5 : Int32) (M : Mm) : Option (Int32 × Mm) := s_m11_isThere_94 k42 r0 x1 x2 x3 x5 (1 : Int32) M
def s_m11_isThere_42  : Nat → Nat → Int32 → Int32 → Int32 → Int32 → Int32 → Mm → Option (Int32 × Mm)
  | 0, _, _, _, _, _, _, _ => none
  | n + 1, r0, x1, x2, x3, x4, x5, M => gI M r0 21 6 (fun v1 => (if v1 ≤ x5 then s_m11_isThere_102 x4 M else (if x4 = 0 then s_m11_isThere_102 x4 M else gR M r0 21 7 (fun v2 => aI M v2 0 x5 (fun v3 => (if ¬ v3 = (4 : Int32) then s_m11_isThere_89 (s_m11_isThere_42 n) r0 x1 x2 x3 x5 M else gR M r0 21 12 (fun v4 => aI M v4 0 x5 (fun v5 => (if ¬ v5 = x1 then s_m11_isThere_89 (s_m11_isThere_42 n) r0 x1 x2 x3 x5 M else cl (has M r0 21) (s_m11_has r0 x5 x2 x3 M) (fun v6 M7 => (if ¬ v6 = 0 then s_m11_isThere_94 (s_m11_isThere_42 n) r0 x1 x2 x3 x5 (0 : Int32) M7 else s_m11_isThere_89 (s_m11_isThere_42 n) r0 x1 x2 x3 x5 M7)))))))))))
def s_m11_isThere_35  (r0 : Nat) (x1 : Int32) (x2 : Int32) (x3 : Int32) (t0 : Int32) (M : Mm) : Option (Int32 × Mm) := s_m11_isThere_42 FU r0 x1 x2 x3 t0 (x1 + (1 : Int32)) M
def s_m11_isThere_34  (r0 : Nat) (x1 : Int32) (x2 : Int32) (x3 : Int32) (M : Mm) : Option (Int32 × Mm) := s_m11_isThere_35 r0 x1 x2 x3 (0 : Int32) M
def s_m11_isThere_30  (r0 : Nat) (x1 : Int32) (x2 : Int32) (x3 : Int32) (M : Mm) : Option (Int32 × Mm) := s_m11_isThere_35 r0 x1 x2 x3 (1 : Int32) M
def s_m11_isThere (r0 : Nat) (a1 : Int32) (a2 : Int32) (a3 : Int32) (M : Mm) : Option (Int32 × Mm) := cl (has M r0 21) (s_m11_has r0 a1 a2 a3 M) (fun v1 M2 => (if v1 = 0 then s_m11_isThere_34 r0 a1 a2 a3 M2 else gR M2 r0 21 7 (fun v3 => aI M2 v3 0 a1 (fun v4 => (if ¬ v4 = (5 : Int32) then s_m11_isThere_30 r0 a1 a2 a3 M2 else gR M2 r0 21 13 (fun v5 => aI M2 v5 0 a1 (fun v6 => (if a3 < v6 then s_m11_isThere_34 r0 a1 a2 a3 M2 else s_m11_isThere_30 r0 a1 a2 a3 M2))))))))
set_option maxRecDepth 100000 in
set_option maxHeartbeats 4000000 in
theorem w_m11_isThere_102 {V : Ev} {C : Cx} {n0 : Nat} (hC : Cok V C y_m11_isThere.cls b_m11_isThere 6 n0 (some .boolean) y_m11_isThere.name) (hR : cR C = rm_m11_isThere)  : ∀ (x4 : Int32) (M : Mm), Sm V C 6 n0 n0 (qI V C) 102 [(4, .int x4)] [] M (s_m11_isThere_102 x4 M) := by
  intro x4 M
  unfold s_m11_isThere_102
  refine Sm.iload hC d_m11_isThere_102 0 rfl ?_
  exact Sm.zret hC d_m11_isThere_104 rfl (Nat.sub_self _)
set_option maxRecDepth 100000 in
set_option maxHeartbeats 4000000 in
theorem w_m11_isThere_94 {V : Ev} {C : Cx} {n0 : Nat} (hC : Cok V C y_m11_isThere.cls b_m11_isThere 6 n0 (some .boolean) y_m11_isThere.name) (hR : cR C = rm_m11_isThere) (k42 : Nat → Int32 → Int32 → Int32 → Int32 → Int32 → Mm → Option (Int32 × Mm)) (hk42 : ∀ (r0 : Nat) (x1 : Int32) (x2 : Int32) (x3 : Int32) (x4 : Int32) (x5 : Int32) (M : Mm), Sm V C 6 n0 n0 (qI V C) 42 [(0, rv V.1 r0), (1, .int x1), (2, .int x2), (3, .int x3), (4, .int x4), (5, .int x5)] [] M (k42 r0 x1 x2 x3 x4 x5 M)) : ∀ (r0 : Nat) (x1 : Int32) (x2 : Int32) (x3 : Int32) (x5 : Int32) (t0 : Int32) (M : Mm), Sm V C 6 n0 n0 (qI V C) 94 [(0, rv V.1 r0), (1, .int x1), (2, .int x2), (3, .int x3), (5, .int x5)] [.int t0] M (s_m11_isThere_94 k42 r0 x1 x2 x3 x5 t0 M) := by
  intro r0 x1 x2 x3 x5 t0 M
  unfold s_m11_isThere_94
  refine Sm.istore (lv' := [(4, .int t0), (0, rv V.1 r0), (1, .int x1), (2, .int x2), (3, .int x3), (5, .int x5)]) hC d_m11_isThere_94 (by decide) rfl ?_
  refine Sm.iinc (v := x5 + 1) (lv' := [(5, .int (x5 + 1)), (4, .int t0), (0, rv V.1 r0), (1, .int x1), (2, .int x2), (3, .int x3)]) hC d_m11_isThere_96 5 rfl rfl (by decide) rfl ?_
  refine Sm.goto (tgt := 42) hC d_m11_isThere_99 (by decide) ?_
  refine Sm.sub [2, 3, 4, 5, 1, 0] rfl ?_
  exact hk42 r0 x1 x2 x3 t0 (x5 + 1) M
set_option maxRecDepth 100000 in
set_option maxHeartbeats 4000000 in
theorem w_m11_isThere_89 {V : Ev} {C : Cx} {n0 : Nat} (hC : Cok V C y_m11_isThere.cls b_m11_isThere 6 n0 (some .boolean) y_m11_isThere.name) (hR : cR C = rm_m11_isThere) (k42 : Nat → Int32 → Int32 → Int32 → Int32 → Int32 → Mm → Option (Int32 × Mm)) (hk42 : ∀ (r0 : Nat) (x1 : Int32) (x2 : Int32) (x3 : Int32) (x4 : Int32) (x5 : Int32) (M : Mm), Sm V C 6 n0 n0 (qI V C) 42 [(0, rv V.1 r0), (1, .int x1), (2, .int x2), (3, .int x3), (4, .int x4), (5, .int x5)] [] M (k42 r0 x1 x2 x3 x4 x5 M)) : ∀ (r0 : Nat) (x1 : Int32) (x2 : Int32) (x3 : Int32) (x5 : Int32) (M : Mm), Sm V C 6 n0 n0 (qI V C) 89 [(0, rv V.1 r0), (1, .int x1), (2, .int x2), (3, .int x3), (5, .int x5)] [] M (s_m11_isThere_89 k42 r0 x1 x2 x3 x5 M) := by
  intro r0 x1 x2 x3 x5 M
  unfold s_m11_isThere_89
  refine Sm.iconst (v := 1) hC d_m11_isThere_89 (by decide) ?_
  refine Sm.goto (tgt := 94) hC d_m11_isThere_90 (by decide) ?_
  exact w_m11_isThere_94 hC hR k42 hk42 r0 x1 x2 x3 x5 (1 : Int32) M
set_option maxRecDepth 100000 in
set_option maxHeartbeats 4000000 in
theorem w_m11_isThere_42 {V : Ev} {C : Cx} {n0 : Nat} (hC : Cok V C y_m11_isThere.cls b_m11_isThere 6 n0 (some .boolean) y_m11_isThere.name) (hR : cR C = rm_m11_isThere)  : ∀ (n : Nat) (r0 : Nat) (x1 : Int32) (x2 : Int32) (x3 : Int32) (x4 : Int32) (x5 : Int32) (M : Mm), Sm V C 6 n0 n0 (qI V C) 42 [(0, rv V.1 r0), (1, .int x1), (2, .int x2), (3, .int x3), (4, .int x4), (5, .int x5)] [] M (s_m11_isThere_42 n r0 x1 x2 x3 x4 x5 M) := by
  intro n
  induction n with
  | zero => exact fun r0 x1 x2 x3 x4 x5 M => Sm.none_
  | succ n ih =>
    intro r0 x1 x2 x3 x4 x5 M
    unfold s_m11_isThere_42
    refine Sm.iload hC d_m11_isThere_42 5 rfl ?_
    refine Sm.aload_n hC d_m11_isThere_44 rfl 0 rfl ?_
    refine Sm.getI hC fl_m11_143 rfl d_m11_isThere_45 (fun v1 => ?_)
    refine Sm.icmp_ge (tgt := 102) hC d_m11_isThere_48 (by decide) ?_ ?_
    · refine Sm.sub [4] rfl ?_
      exact w_m11_isThere_102 hC hR x4 M
    · refine Sm.iload hC d_m11_isThere_51 4 rfl ?_
      refine Sm.if_eq (tgt := 102) hC d_m11_isThere_53 (by decide) ?_ ?_
      · refine Sm.sub [4] rfl ?_
        exact w_m11_isThere_102 hC hR x4 M
      · refine Sm.aload_n hC d_m11_isThere_56 rfl 0 rfl ?_
        refine Sm.getR hC fl_m11_22 rfl d_m11_isThere_57 (fun v2 => ?_)
        refine Sm.iload hC d_m11_isThere_60 5 rfl ?_
        refine Sm.iald hC d_m11_isThere_62 (fun v3 => ?_)
        refine Sm.iconst (v := 4) hC d_m11_isThere_63 (by decide) ?_
        refine Sm.icmp_ne (tgt := 89) hC d_m11_isThere_64 (by decide) ?_ ?_
        · refine Sm.sub [0, 1, 2, 3, 5] rfl ?_
          exact w_m11_isThere_89 hC hR (s_m11_isThere_42 n) ih r0 x1 x2 x3 x5 M
        · refine Sm.aload_n hC d_m11_isThere_67 rfl 0 rfl ?_
          refine Sm.getR hC fl_m11_37 rfl d_m11_isThere_68 (fun v4 => ?_)
          refine Sm.iload hC d_m11_isThere_71 5 rfl ?_
          refine Sm.iald hC d_m11_isThere_73 (fun v5 => ?_)
          refine Sm.iload_n hC d_m11_isThere_74 rfl 1 rfl ?_
          refine Sm.icmp_ne (tgt := 89) hC d_m11_isThere_75 (by decide) ?_ ?_
          · refine Sm.sub [0, 1, 2, 3, 5] rfl ?_
            exact w_m11_isThere_89 hC hR (s_m11_isThere_42 n) ih r0 x1 x2 x3 x5 M
          · refine Sm.aload_n hC d_m11_isThere_78 rfl 0 rfl ?_
            refine Sm.iload hC d_m11_isThere_79 5 rfl ?_
            refine Sm.iload_n hC d_m11_isThere_81 rfl 2 rfl ?_
            refine Sm.iload_n hC d_m11_isThere_82 rfl 3 rfl ?_
            refine Sm.callVi 11 (As := [.int x5, .int x2, .int x3]) (st := []) hC hR cw_m11_has (tw_i 1237 (by decide +kernel)) (tw_i 1239 (by decide +kernel)) (tw_i 50 (by decide +kernel)) ⟨_, rfl, rfl⟩ (fun r9 M9 h9 => ok_m11_has h9) rfl rfl (RW.of ⟨rfl, rfl, by decide, by decide⟩) (by simp) d_m11_isThere_83 (fun v6 M7 => ?_)
            refine Sm.if_ne (tgt := 93) hC d_m11_isThere_86 (by decide) ?_ ?_
            · refine Sm.iconst (v := 0) hC d_m11_isThere_93 (by decide) ?_
              refine Sm.sub [0, 1, 2, 3, 5] rfl ?_
              exact w_m11_isThere_94 hC hR (s_m11_isThere_42 n) ih r0 x1 x2 x3 x5 (0 : Int32) M7
            · refine Sm.sub [0, 1, 2, 3, 5] rfl ?_
              exact w_m11_isThere_89 hC hR (s_m11_isThere_42 n) ih r0 x1 x2 x3 x5 M7
set_option maxRecDepth 100000 in
set_option maxHeartbeats 4000000 in
theorem w_m11_isThere_35 {V : Ev} {C : Cx} {n0 : Nat} (hC : Cok V C y_m11_isThere.cls b_m11_isThere 6 n0 (some .boolean) y_m11_isThere.name) (hR : cR C = rm_m11_isThere)  : ∀ (r0 : Nat) (x1 : Int32) (x2 : Int32) (x3 : Int32) (t0 : Int32) (M : Mm), Sm V C 6 n0 n0 (qI V C) 35 [(0, rv V.1 r0), (1, .int x1), (2, .int x2), (3, .int x3)] [.int t0] M (s_m11_isThere_35 r0 x1 x2 x3 t0 M) := by
  intro r0 x1 x2 x3 t0 M
  unfold s_m11_isThere_35
  refine Sm.istore (lv' := [(4, .int t0), (0, rv V.1 r0), (1, .int x1), (2, .int x2), (3, .int x3)]) hC d_m11_isThere_35 (by decide) rfl ?_
  refine Sm.iload_n hC d_m11_isThere_37 rfl 2 rfl ?_
  refine Sm.iconst (v := 1) hC d_m11_isThere_38 (by decide) ?_
  refine Sm.iadd hC d_m11_isThere_39 ?_
  refine Sm.istore (lv' := [(5, .int (x1 + (1 : Int32))), (4, .int t0), (0, rv V.1 r0), (1, .int x1), (2, .int x2), (3, .int x3)]) hC d_m11_isThere_40 (by decide) rfl ?_
  refine Sm.sub [2, 3, 4, 5, 1, 0] rfl ?_
  exact w_m11_isThere_42 hC hR FU r0 x1 x2 x3 t0 (x1 + (1 : Int32)) M
set_option maxRecDepth 100000 in
set_option maxHeartbeats 4000000 in
theorem w_m11_isThere_34 {V : Ev} {C : Cx} {n0 : Nat} (hC : Cok V C y_m11_isThere.cls b_m11_isThere 6 n0 (some .boolean) y_m11_isThere.name) (hR : cR C = rm_m11_isThere)  : ∀ (r0 : Nat) (x1 : Int32) (x2 : Int32) (x3 : Int32) (M : Mm), Sm V C 6 n0 n0 (qI V C) 34 [(0, rv V.1 r0), (1, .int x1), (2, .int x2), (3, .int x3)] [] M (s_m11_isThere_34 r0 x1 x2 x3 M) := by
  intro r0 x1 x2 x3 M
  unfold s_m11_isThere_34
  refine Sm.iconst (v := 0) hC d_m11_isThere_34 (by decide) ?_
  exact w_m11_isThere_35 hC hR r0 x1 x2 x3 (0 : Int32) M
set_option maxRecDepth 100000 in
set_option maxHeartbeats 4000000 in
theorem w_m11_isThere_30 {V : Ev} {C : Cx} {n0 : Nat} (hC : Cok V C y_m11_isThere.cls b_m11_isThere 6 n0 (some .boolean) y_m11_isThere.name) (hR : cR C = rm_m11_isThere)  : ∀ (r0 : Nat) (x1 : Int32) (x2 : Int32) (x3 : Int32) (M : Mm), Sm V C 6 n0 n0 (qI V C) 30 [(0, rv V.1 r0), (1, .int x1), (2, .int x2), (3, .int x3)] [] M (s_m11_isThere_30 r0 x1 x2 x3 M) := by
  intro r0 x1 x2 x3 M
  unfold s_m11_isThere_30
  refine Sm.iconst (v := 1) hC d_m11_isThere_30 (by decide) ?_
  refine Sm.goto (tgt := 35) hC d_m11_isThere_31 (by decide) ?_
  exact w_m11_isThere_35 hC hR r0 x1 x2 x3 (1 : Int32) M
set_option maxRecDepth 100000 in
set_option maxHeartbeats 4000000 in
theorem ok_m11_isThere {l : Launch} {V : Ev} {M M' : Mm} {r : Int32} {r0 : Nat} {a1 : Int32} {a2 : Int32} {a3 : Int32} (h : s_m11_isThere r0 a1 a2 a3 M = some (r, M')) : Met l y_m11_isThere (Cond.code y_m11_isThere b_m11_isThere 6 (some .boolean) :: TW) rm_m11_isThere (va_Pc [rv V.1 r0, .int a1, .int a2, .int a3] (Wd V M)) (QC V (some (.int r)) M' 0) 0 0 (Af V) := by
  refine met_of (fun x : Int32 => some (.int x)) (lv0 := [(0, rv V.1 r0), (1, .int a1), (2, .int a2), (3, .int a3)]) (by decide) (by simp [lg_sl, cat_rv, cat_i, cat_l, cat_f]) (by simp [lv_args, cat_rv, cat_i, cat_l, cat_f]) (fun C hl hR hC => ?_) h
  subst hl
  generalize mN M = n0 at hC ⊢
  unfold s_m11_isThere
  refine Sm.aload_n hC d_m11_isThere_0 rfl 0 rfl ?_
  refine Sm.iload_n hC d_m11_isThere_1 rfl 1 rfl ?_
  refine Sm.iload_n hC d_m11_isThere_2 rfl 2 rfl ?_
  refine Sm.iload_n hC d_m11_isThere_3 rfl 3 rfl ?_
  refine Sm.callVi 11 (As := [.int a1, .int a2, .int a3]) (st := []) hC hR cw_m11_has (tw_i 1237 (by decide +kernel)) (tw_i 1239 (by decide +kernel)) (tw_i 50 (by decide +kernel)) ⟨_, rfl, rfl⟩ (fun r9 M9 h9 => ok_m11_has h9) rfl rfl (RW.of ⟨rfl, rfl, by decide, by decide⟩) (by simp) d_m11_isThere_4 (fun v1 M2 => ?_)
  refine Sm.if_eq (tgt := 34) hC d_m11_isThere_7 (by decide) ?_ ?_
  · exact w_m11_isThere_34 hC hR r0 a1 a2 a3 M2
  · refine Sm.aload_n hC d_m11_isThere_10 rfl 0 rfl ?_
    refine Sm.getR hC fl_m11_22 rfl d_m11_isThere_11 (fun v3 => ?_)
    refine Sm.iload_n hC d_m11_isThere_14 rfl 1 rfl ?_
    refine Sm.iald hC d_m11_isThere_15 (fun v4 => ?_)
    refine Sm.iconst (v := 5) hC d_m11_isThere_16 (by decide) ?_
    refine Sm.icmp_ne (tgt := 30) hC d_m11_isThere_17 (by decide) ?_ ?_
    · exact w_m11_isThere_30 hC hR r0 a1 a2 a3 M2
    · refine Sm.iload_n hC d_m11_isThere_20 rfl 3 rfl ?_
      refine Sm.aload_n hC d_m11_isThere_21 rfl 0 rfl ?_
      refine Sm.getR hC fl_m11_40 rfl d_m11_isThere_22 (fun v5 => ?_)
      refine Sm.iload_n hC d_m11_isThere_25 rfl 1 rfl ?_
      refine Sm.iald hC d_m11_isThere_26 (fun v6 => ?_)
      refine Sm.icmp_lt (tgt := 34) hC d_m11_isThere_27 (by decide) ?_ ?_
      · exact w_m11_isThere_34 hC hR r0 a1 a2 a3 M2
      · exact w_m11_isThere_30 hC hR r0 a1 a2 a3 M2
/-! NewsWireModel.put(II)V -/
theorem fl_m11_103 : FL "NewsWireModel" 103 11 44 2 true (.array .int) := ⟨_, _, _, _, rfl, in_c11, ty_c11, nm_c11, by decide, rfl, tw_i 909 (by decide +kernel), rfl, rfl, rfl, rfl⟩
theorem fl_m11_266 : FL "NewsWireModel" 266 11 46 0 false .int := ⟨_, _, _, _, rfl, in_c11, ty_c11, nm_c11, by decide, rfl, tw_i 911 (by decide +kernel), rfl, rfl, rfl, rfl⟩
theorem fl_m11_106 : FL "NewsWireModel" 106 11 45 2 true (.array .int) := ⟨_, _, _, _, rfl, in_c11, ty_c11, nm_c11, by decide, rfl, tw_i 910 (by decide +kernel), rfl, rfl, rfl, rfl⟩
abbrev b_m11_put : ByteArray := prog_13_method_48_code
def y_m11_put : MethodName := ⟨"NewsWireModel", "put", "(II)V"⟩
def rm_m11_put : Room := { frames := 1, cells := 0, slots := 0, locals := 60 }
theorem cw_m11_put : CW y_m11_put b_m11_put 3 none 2 := ⟨tw_i 66 (by decide +kernel), tw_i 1248 (by decide +kernel), by decide, by decide, by decide +kernel⟩
theorem d_m11_put_0 : decode b_m11_put 0 = .ok (.aload_n 0, 1) := by decide +kernel
theorem d_m11_put_1 : decode b_m11_put 1 = .ok (.getfield 103, 3) := by decide +kernel
theorem d_m11_put_4 : decode b_m11_put 4 = .ok (.aload_n 0, 1) := by decide +kernel
theorem d_m11_put_5 : decode b_m11_put 5 = .ok (.getfield 266, 3) := by decide +kernel
theorem d_m11_put_8 : decode b_m11_put 8 = .ok (.iload_n 1, 1) := by decide +kernel
theorem d_m11_put_9 : decode b_m11_put 9 = .ok (.iastore, 1) := by decide +kernel
theorem d_m11_put_10 : decode b_m11_put 10 = .ok (.aload_n 0, 1) := by decide +kernel
theorem d_m11_put_11 : decode b_m11_put 11 = .ok (.getfield 106, 3) := by decide +kernel
theorem d_m11_put_14 : decode b_m11_put 14 = .ok (.aload_n 0, 1) := by decide +kernel
theorem d_m11_put_15 : decode b_m11_put 15 = .ok (.getfield 266, 3) := by decide +kernel
theorem d_m11_put_18 : decode b_m11_put 18 = .ok (.iload_n 2, 1) := by decide +kernel
theorem d_m11_put_19 : decode b_m11_put 19 = .ok (.iastore, 1) := by decide +kernel
theorem d_m11_put_20 : decode b_m11_put 20 = .ok (.aload_n 0, 1) := by decide +kernel
theorem d_m11_put_21 : decode b_m11_put 21 = .ok (.dup, 1) := by decide +kernel
theorem d_m11_put_22 : decode b_m11_put 22 = .ok (.getfield 266, 3) := by decide +kernel
theorem d_m11_put_25 : decode b_m11_put 25 = .ok (.iconst 1, 1) := by decide +kernel
theorem d_m11_put_26 : decode b_m11_put 26 = .ok (.iadd, 1) := by decide +kernel
theorem d_m11_put_27 : decode b_m11_put 27 = .ok (.putfield 266, 3) := by decide +kernel
theorem d_m11_put_30 : decode b_m11_put 30 = .ok (.return_, 1) := by decide +kernel
def s_m11_put (r0 : Nat) (a1 : Int32) (a2 : Int32) (M : Mm) : Option (Unit × Mm) := gR M r0 21 44 (fun v1 => gI M r0 21 46 (fun v2 => sI M v1 0 v2 a1 (fun M3 => gR M3 r0 21 45 (fun v4 => gI M3 r0 21 46 (fun v5 => sI M3 v4 0 v5 a2 (fun M6 => gI M6 r0 21 46 (fun v7 => pI M6 r0 21 46 (v7 + (1 : Int32)) (fun M8 => some ((), M8)))))))))
set_option maxRecDepth 100000 in
set_option maxHeartbeats 4000000 in
theorem ok_m11_put {l : Launch} {V : Ev} {M M' : Mm} {r : Unit} {r0 : Nat} {a1 : Int32} {a2 : Int32} (h : s_m11_put r0 a1 a2 M = some (r, M')) : Met l y_m11_put (Cond.code y_m11_put b_m11_put 3 none :: TW) rm_m11_put (va_Pc [rv V.1 r0, .int a1, .int a2] (Wd V M)) (QC V none M' 0) 0 0 (Af V) := by
  refine met_of (fun _ : Unit => none) (lv0 := [(0, rv V.1 r0), (1, .int a1), (2, .int a2)]) (by decide) (by simp [lg_sl, cat_rv, cat_i, cat_l, cat_f]) (by simp [lv_args, cat_rv, cat_i, cat_l, cat_f]) (fun C hl hR hC => ?_) h
  subst hl
  generalize mN M = n0 at hC ⊢
  unfold s_m11_put
  refine Sm.aload_n hC d_m11_put_0 rfl 0 rfl ?_
  refine Sm.getR hC fl_m11_103 rfl d_m11_put_1 (fun v1 => ?_)
  refine Sm.aload_n hC d_m11_put_4 rfl 0 rfl ?_
  refine Sm.getI hC fl_m11_266 rfl d_m11_put_5 (fun v2 => ?_)
  refine Sm.iload_n hC d_m11_put_8 rfl 1 rfl ?_
  refine Sm.iast hC d_m11_put_9 (fun M3 => ?_)
  refine Sm.aload_n hC d_m11_put_10 rfl 0 rfl ?_
  refine Sm.getR hC fl_m11_106 rfl d_m11_put_11 (fun v4 => ?_)
  refine Sm.aload_n hC d_m11_put_14 rfl 0 rfl ?_
  refine Sm.getI hC fl_m11_266 rfl d_m11_put_15 (fun v5 => ?_)
  refine Sm.iload_n hC d_m11_put_18 rfl 2 rfl ?_
  refine Sm.iast hC d_m11_put_19 (fun M6 => ?_)
  refine Sm.aload_n hC d_m11_put_20 rfl 0 rfl ?_
  refine Sm.dup hC d_m11_put_21 (cat_rv _ _) ?_
  refine Sm.getI hC fl_m11_266 rfl d_m11_put_22 (fun v7 => ?_)
  refine Sm.iconst (v := 1) hC d_m11_put_25 (by decide) ?_
  refine Sm.iadd hC d_m11_put_26 ?_
  refine Sm.putI hC fl_m11_266 rfl d_m11_put_27 (fun M8 => ?_)
  exact Sm.vret hC d_m11_put_30 rfl (Nat.sub_self _)
