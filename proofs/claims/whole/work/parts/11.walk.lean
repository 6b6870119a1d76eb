/-! NewsWire$Rule.readSign(LNewsWire$Tape;)I -/
abbrev b_m5_readSign : ByteArray := prog_7_method_5_code
def y_m5_readSign : MethodName := ⟨"NewsWire$Rule", "readSign", "(LNewsWire$Tape;)I"⟩
def rm_m5_readSign : Room := { frames := 7, cells := 0, slots := 0, locals := 203 }
theorem cw_m5_readSign : CW y_m5_readSign b_m5_readSign 1 (some .int) 1 := ⟨tw_i 57 (by decide +kernel), tw_i 573 (by decide +kernel), by decide, by decide, by decide +kernel⟩
theorem d_m5_readSign_0 : decode b_m5_readSign 0 = .ok (.aload_n 0, 1) := by decide +kernel
theorem d_m5_readSign_1 : decode b_m5_readSign 1 = .ok (.invokevirtual 67, 3) := by decide +kernel
theorem d_m5_readSign_4 : decode b_m5_readSign 4 = .ok (.lookupswitch 46 #[(60, 28), (62, 37)], 28) := by decide +kernel
theorem d_m5_readSign_32 : decode b_m5_readSign 32 = .ok (.aload_n 0, 1) := by decide +kernel
theorem d_m5_readSign_33 : decode b_m5_readSign 33 = .ok (.ldc 86, 2) := by decide +kernel
theorem d_m5_readSign_35 : decode b_m5_readSign 35 = .ok (.invokevirtual 39, 3) := by decide +kernel
theorem d_m5_readSign_38 : decode b_m5_readSign 38 = .ok (.bipush 60, 2) := by decide +kernel
theorem d_m5_readSign_40 : decode b_m5_readSign 40 = .ok (.ireturn, 1) := by decide +kernel
theorem d_m5_readSign_41 : decode b_m5_readSign 41 = .ok (.aload_n 0, 1) := by decide +kernel
theorem d_m5_readSign_42 : decode b_m5_readSign 42 = .ok (.ldc 88, 2) := by decide +kernel
theorem d_m5_readSign_44 : decode b_m5_readSign 44 = .ok (.invokevirtual 39, 3) := by decide +kernel
theorem d_m5_readSign_47 : decode b_m5_readSign 47 = .ok (.bipush 62, 2) := by decide +kernel
theorem d_m5_readSign_49 : decode b_m5_readSign 49 = .ok (.ireturn, 1) := by decide +kernel
theorem d_m5_readSign_50 : decode b_m5_readSign 50 = .ok (.aload_n 0, 1) := by decide +kernel
theorem d_m5_readSign_51 : decode b_m5_readSign 51 = .ok (.ldc 90, 2) := by decide +kernel
theorem d_m5_readSign_53 : decode b_m5_readSign 53 = .ok (.invokevirtual 39, 3) := by decide +kernel
theorem d_m5_readSign_56 : decode b_m5_readSign 56 = .ok (.bipush 61, 2) := by decide +kernel
theorem d_m5_readSign_58 : decode b_m5_readSign 58 = .ok (.ireturn, 1) := by decide +kernel
def s_m5_readSign (r0 : Nat) (M : Mm) : Option (Int32 × Mm) := cl (has M r0 18) (s_m8_next r0 M) (fun v1 M2 => (if v1 = 60 then cl (has M2 r0 18) (s_m8_expect r0 11 M2) (fun _ M3 => some ((60 : Int32), M3)) else if v1 = 62 then cl (has M2 r0 18) (s_m8_expect r0 12 M2) (fun _ M4 => some ((62 : Int32), M4)) else cl (has M2 r0 18) (s_m8_expect r0 13 M2) (fun _ M5 => some ((61 : Int32), M5))))
set_option maxRecDepth 100000 in
set_option maxHeartbeats 4000000 in
theorem ok_m5_readSign {l : Launch} {V : Ev} {M M' : Mm} {r : Int32} {r0 : Nat} (h : s_m5_readSign r0 M = some (r, M')) : Met l y_m5_readSign (Cond.code y_m5_readSign b_m5_readSign 1 (some .int) :: TW) rm_m5_readSign (va_Pc [rv V.1 r0] (Wd V M)) (QC V (some (.int r)) M' 0) 0 0 (Af V) := by
  refine met_of (fun x : Int32 => some (.int x)) (lv0 := [(0, rv V.1 r0)]) (by decide) (by simp [lg_sl, cat_rv, cat_i, cat_l, cat_f]) (by simp [lv_args, cat_rv, cat_i, cat_l, cat_f]) (fun C hl hR hC => ?_) h
  subst hl
  generalize mN M = n0 at hC ⊢
  unfold s_m5_readSign
  refine Sm.aload_n hC d_m5_readSign_0 rfl 0 rfl ?_
  refine Sm.callVi 8 (As := []) (st := []) hC hR cw_m8_next (tw_i 492 (by decide +kernel)) (tw_i 493 (by decide +kernel)) (tw_i 494 (by decide +kernel)) ⟨_, rfl, rfl⟩ (fun r9 M9 h9 => ok_m8_next h9) rfl rfl (RW.of ⟨rfl, rfl, by decide, by decide⟩) (by simp) d_m5_readSign_1 (fun v1 M2 => ?_)
  refine Sm.if_ (fun h9 => ?_) (fun h4_0 => ?_)
  · refine Sm.lsw (tgt := 32) (off := 28) hC d_m5_readSign_4 (by decide) (by rw [h9] <;> rfl) (by decide) ?_
    refine Sm.aload_n hC d_m5_readSign_32 rfl 0 rfl ?_
    refine Sm.ldcS hC 11 d_m5_readSign_33 rfl ?_
    refine Sm.callVv 8 (As := [.ref (V.2.2.2.1 11)]) (st := []) hC hR cw_m8_expect (tw_i 497 (by decide +kernel)) (tw_i 498 (by decide +kernel)) (tw_i 499 (by decide +kernel)) ⟨_, rfl, rfl⟩ (fun r9 M9 h9 => ok_m8_expect h9) rfl rfl (RW.of ⟨rfl, rfl, by decide, by decide⟩) (by simp) d_m5_readSign_35 (fun _ M3 => ?_)
    refine Sm.bipush (v := 60) hC d_m5_readSign_38 (by decide) ?_
    exact Sm.iret hC d_m5_readSign_40 rfl (Nat.sub_self _)
  refine Sm.if_ (fun h9 => ?_) (fun h4_1 => ?_)
  · refine Sm.lsw (tgt := 41) (off := 37) hC d_m5_readSign_4 (by decide) (by rw [h9] <;> rfl) (by decide) ?_
    refine Sm.aload_n hC d_m5_readSign_41 rfl 0 rfl ?_
    refine Sm.ldcS hC 12 d_m5_readSign_42 rfl ?_
    refine Sm.callVv 8 (As := [.ref (V.2.2.2.1 12)]) (st := []) hC hR cw_m8_expect (tw_i 497 (by decide +kernel)) (tw_i 498 (by decide +kernel)) (tw_i 499 (by decide +kernel)) ⟨_, rfl, rfl⟩ (fun r9 M9 h9 => ok_m8_expect h9) rfl rfl (RW.of ⟨rfl, rfl, by decide, by decide⟩) (by simp) d_m5_readSign_44 (fun _ M4 => ?_)
    refine Sm.bipush (v := 62) hC d_m5_readSign_47 (by decide) ?_
    exact Sm.iret hC d_m5_readSign_49 rfl (Nat.sub_self _)
  refine Sm.lsw (tgt := 50) (off := 46) hC d_m5_readSign_4 (by decide) ((lv_osw h4_0 rfl).trans ((lv_osw h4_1 rfl).trans (rfl))) (by decide) ?_
  refine Sm.aload_n hC d_m5_readSign_50 rfl 0 rfl ?_
  refine Sm.ldcS hC 13 d_m5_readSign_51 rfl ?_
  refine Sm.callVv 8 (As := [.ref (V.2.2.2.1 13)]) (st := []) hC hR cw_m8_expect (tw_i 497 (by decide +kernel)) (tw_i 498 (by decide +kernel)) (tw_i 499 (by decide +kernel)) ⟨_, rfl, rfl⟩ (fun r9 M9 h9 => ok_m8_expect h9) rfl rfl (RW.of ⟨rfl, rfl, by decide, by decide⟩) (by simp) d_m5_readSign_53 (fun _ M5 => ?_)
  refine Sm.bipush (v := 61) hC d_m5_readSign_56 (by decide) ?_
  exact Sm.iret hC d_m5_readSign_58 rfl (Nat.sub_self _)
/-! NewsWire$Tape.faultAtEnd()I -/
abbrev b_m8_faultAtEnd : ByteArray := prog_10_method_8_code
def y_m8_faultAtEnd : MethodName := ⟨"NewsWire$Tape", "faultAtEnd", "()I"⟩
def rm_m8_faultAtEnd : Room := { frames := 2, cells := 0, slots := 0, locals := 80 }
theorem cw_m8_faultAtEnd : CW y_m8_faultAtEnd b_m8_faultAtEnd 1 (some .int) 0 := ⟨tw_i 61 (by decide +kernel), tw_i 580 (by decide +kernel), by decide, by decide, by decide +kernel⟩
theorem d_m8_faultAtEnd_0 : decode b_m8_faultAtEnd 0 = .ok (.aload_n 0, 1) := by decide +kernel
theorem d_m8_faultAtEnd_1 : decode b_m8_faultAtEnd 1 = .ok (.invokevirtual 37, 3) := by decide +kernel
theorem d_m8_faultAtEnd_4 : decode b_m8_faultAtEnd 4 = .ok (.ifCond .eq 10, 3) := by decide +kernel
theorem d_m8_faultAtEnd_7 : decode b_m8_faultAtEnd 7 = .ok (.aload_n 0, 1) := by decide +kernel
theorem d_m8_faultAtEnd_8 : decode b_m8_faultAtEnd 8 = .ok (.getfield 19, 3) := by decide +kernel
theorem d_m8_faultAtEnd_11 : decode b_m8_faultAtEnd 11 = .ok (.goto 7, 3) := by decide +kernel
theorem d_m8_faultAtEnd_14 : decode b_m8_faultAtEnd 14 = .ok (.aload_n 0, 1) := by decide +kernel
theorem d_m8_faultAtEnd_15 : decode b_m8_faultAtEnd 15 = .ok (.getfield 22, 3) := by decide +kernel
theorem d_m8_faultAtEnd_18 : decode b_m8_faultAtEnd 18 = .ok (.ireturn, 1) := by decide +kernel
def s_m8_faultAtEnd_18  (t0 : Int32) (M : Mm) : Option (Int32 × Mm) := some (t0, M)
def s_m8_faultAtEnd (r0 : Nat) (M : Mm) : Option (Int32 × Mm) := cl (has M r0 18) (s_m8_goesOn r0 M) (fun v1 M2 => (if v1 = 0 then gI M2 r0 18 3 (fun v3 => s_m8_faultAtEnd_18 v3 M2) else gI M2 r0 18 2 (fun v4 => s_m8_faultAtEnd_18 v4 M2)))
set_option maxRecDepth 100000 in
set_option maxHeartbeats 4000000 in
theorem w_m8_faultAtEnd_18 {V : Ev} {C : Cx} {n0 : Nat} (hC : Cok V C y_m8_faultAtEnd.cls b_m8_faultAtEnd 1 n0 (some .int) y_m8_faultAtEnd.name) (hR : cR C = rm_m8_faultAtEnd)  : ∀ (t0 : Int32) (M : Mm), Sm V C 1 n0 n0 (qI V C) 18 [] [.int t0] M (s_m8_faultAtEnd_18 t0 M) := by
  intro t0 M
  unfold s_m8_faultAtEnd_18
  exact Sm.iret hC d_m8_faultAtEnd_18 rfl (Nat.sub_self _)
set_option maxRecDepth 100000 in
set_option maxHeartbeats 4000000 in
theorem ok_m8_faultAtEnd {l : Launch} {V : Ev} {M M' : Mm} {r : Int32} {r0 : Nat} (h : s_m8_faultAtEnd r0 M = some (r, M')) : Met l y_m8_faultAtEnd (Cond.code y_m8_faultAtEnd b_m8_faultAtEnd 1 (some .int) :: TW) rm_m8_faultAtEnd (va_Pc [rv V.1 r0] (Wd V M)) (QC V (some (.int r)) M' 0) 0 0 (Af V) := by
  refine met_of (fun x : Int32 => some (.int x)) (lv0 := [(0, rv V.1 r0)]) (by decide) (by simp [lg_sl, cat_rv, cat_i, cat_l, cat_f]) (by simp [lv_args, cat_rv, cat_i, cat_l, cat_f]) (fun C hl hR hC => ?_) h
  subst hl
  generalize mN M = n0 at hC ⊢
  unfold s_m8_faultAtEnd
  refine Sm.aload_n hC d_m8_faultAtEnd_0 rfl 0 rfl ?_
  refine Sm.callVi 8 (As := []) (st := []) hC hR cw_m8_goesOn (tw_i 581 (by decide +kernel)) (tw_i 558 (by decide +kernel)) (tw_i 559 (by decide +kernel)) ⟨_, rfl, rfl⟩ (fun r9 M9 h9 => ok_m8_goesOn h9) rfl rfl (RW.of ⟨rfl, rfl, by decide, by decide⟩) (by simp) d_m8_faultAtEnd_1 (fun v1 M2 => ?_)
  refine Sm.if_eq (tgt := 14) hC d_m8_faultAtEnd_4 (by decide) ?_ ?_
  · refine Sm.aload_n hC d_m8_faultAtEnd_14 rfl 0 rfl ?_
    refine Sm.getI hC fl_m8_22 rfl d_m8_faultAtEnd_15 (fun v3 => ?_)
    refine Sm.sub [] rfl ?_
    exact w_m8_faultAtEnd_18 hC hR v3 M2
  · refine Sm.aload_n hC d_m8_faultAtEnd_7 rfl 0 rfl ?_
    refine Sm.getI hC fl_m8_19 rfl d_m8_faultAtEnd_8 (fun v4 => ?_)
    refine Sm.goto (tgt := 18) hC d_m8_faultAtEnd_11 (by decide) ?_
    refine Sm.sub [] rfl ?_
    exact w_m8_faultAtEnd_18 hC hR v4 M2
/-! NewsWire$Rule.readFrom(LNewsWire$Tape;)I -/
theorem fl_m5_26 : FL "NewsWire$Rule" 26 5 3 0 false .int := ⟨_, _, _, _, rfl, in_c5, ty_c5, nm_c5, by decide, rfl, tw_i 103 (by decide +kernel), rfl, rfl, rfl, rfl⟩
theorem fl_m5_34 : FL "NewsWire$Rule" 34 5 4 0 false .int := ⟨_, _, _, _, rfl, in_c5, ty_c5, nm_c5, by decide, rfl, tw_i 104 (by decide +kernel), rfl, rfl, rfl, rfl⟩
theorem fl_m5_47 : FL "NewsWire$Rule" 47 5 5 0 false .int := ⟨_, _, _, _, rfl, in_c5, ty_c5, nm_c5, by decide, rfl, tw_i 107 (by decide +kernel), rfl, rfl, rfl, rfl⟩
theorem fl_m5_9 : FL "NewsWire$Rule" 9 5 0 2 true (.array .int) := ⟨_, _, _, _, rfl, in_c5, ty_c5, nm_c5, by decide, rfl, tw_i 100 (by decide +kernel), rfl, rfl, rfl, rfl⟩
theorem fl_m5_15 : FL "NewsWire$Rule" 15 5 1 2 true (.array .int) := ⟨_, _, _, _, rfl, in_c5, ty_c5, nm_c5, by decide, rfl, tw_i 101 (by decide +kernel), rfl, rfl, rfl, rfl⟩
theorem fl_m5_18 : FL "NewsWire$Rule" 18 5 2 2 true (.array .int) := ⟨_, _, _, _, rfl, in_c5, ty_c5, nm_c5, by decide, rfl, tw_i 102 (by decide +kernel), rfl, rfl, rfl, rfl⟩
abbrev b_m5_readFrom : ByteArray := prog_7_method_2_code
def y_m5_readFrom : MethodName := ⟨"NewsWire$Rule", "readFrom", "(LNewsWire$Tape;)I"⟩
def rm_m5_readFrom : Room := { frames := 8, cells := 0, slots := 0, locals := 223 }
theorem cw_m5_readFrom : CW y_m5_readFrom b_m5_readFrom 2 (some .int) 1 := ⟨tw_i 57 (by decide +kernel), tw_i 484 (by decide +kernel), by decide, by decide, by decide +kernel⟩
theorem d_m5_readFrom_0 : decode b_m5_readFrom 0 = .ok (.aload_n 1, 1) := by decide +kernel
theorem d_m5_readFrom_1 : decode b_m5_readFrom 1 = .ok (.invokevirtual 21, 3) := by decide +kernel
theorem d_m5_readFrom_4 : decode b_m5_readFrom 4 = .ok (.aload_n 0, 1) := by decide +kernel
theorem d_m5_readFrom_5 : decode b_m5_readFrom 5 = .ok (.iconst 0, 1) := by decide +kernel
theorem d_m5_readFrom_6 : decode b_m5_readFrom 6 = .ok (.putfield 26, 3) := by decide +kernel
theorem d_m5_readFrom_9 : decode b_m5_readFrom 9 = .ok (.aload_n 0, 1) := by decide +kernel
theorem d_m5_readFrom_10 : decode b_m5_readFrom 10 = .ok (.aload_n 1, 1) := by decide +kernel
theorem d_m5_readFrom_11 : decode b_m5_readFrom 11 = .ok (.invokestatic 30, 3) := by decide +kernel
theorem d_m5_readFrom_14 : decode b_m5_readFrom 14 = .ok (.putfield 34, 3) := by decide +kernel
theorem d_m5_readFrom_17 : decode b_m5_readFrom 17 = .ok (.aload_n 1, 1) := by decide +kernel
theorem d_m5_readFrom_18 : decode b_m5_readFrom 18 = .ok (.ldc 37, 2) := by decide +kernel
theorem d_m5_readFrom_20 : decode b_m5_readFrom 20 = .ok (.invokevirtual 39, 3) := by decide +kernel
theorem d_m5_readFrom_23 : decode b_m5_readFrom 23 = .ok (.aload_n 0, 1) := by decide +kernel
theorem d_m5_readFrom_24 : decode b_m5_readFrom 24 = .ok (.aload_n 1, 1) := by decide +kernel
theorem d_m5_readFrom_25 : decode b_m5_readFrom 25 = .ok (.invokevirtual 43, 3) := by decide +kernel
theorem d_m5_readFrom_28 : decode b_m5_readFrom 28 = .ok (.putfield 47, 3) := by decide +kernel
theorem d_m5_readFrom_31 : decode b_m5_readFrom 31 = .ok (.aload_n 0, 1) := by decide +kernel
theorem d_m5_readFrom_32 : decode b_m5_readFrom 32 = .ok (.getfield 26, 3) := by decide +kernel
theorem d_m5_readFrom_35 : decode b_m5_readFrom 35 = .ok (.iconst 3, 1) := by decide +kernel
theorem d_m5_readFrom_36 : decode b_m5_readFrom 36 = .ok (.if_icmp .ge 80, 3) := by decide +kernel
theorem d_m5_readFrom_39 : decode b_m5_readFrom 39 = .ok (.aload_n 1, 1) := by decide +kernel
theorem d_m5_readFrom_40 : decode b_m5_readFrom 40 = .ok (.invokevirtual 50, 3) := by decide +kernel
theorem d_m5_readFrom_43 : decode b_m5_readFrom 43 = .ok (.ifCond .eq 73, 3) := by decide +kernel
theorem d_m5_readFrom_46 : decode b_m5_readFrom 46 = .ok (.aload_n 1, 1) := by decide +kernel
theorem d_m5_readFrom_47 : decode b_m5_readFrom 47 = .ok (.aload_n 0, 1) := by decide +kernel
theorem d_m5_readFrom_48 : decode b_m5_readFrom 48 = .ok (.getfield 26, 3) := by decide +kernel
theorem d_m5_readFrom_51 : decode b_m5_readFrom 51 = .ok (.ifCond .ne 8, 3) := by decide +kernel
theorem d_m5_readFrom_54 : decode b_m5_readFrom 54 = .ok (.ldc 54, 2) := by decide +kernel
theorem d_m5_readFrom_56 : decode b_m5_readFrom 56 = .ok (.goto 5, 3) := by decide +kernel
theorem d_m5_readFrom_59 : decode b_m5_readFrom 59 = .ok (.ldc 56, 2) := by decide +kernel
theorem d_m5_readFrom_61 : decode b_m5_readFrom 61 = .ok (.invokevirtual 39, 3) := by decide +kernel
theorem d_m5_readFrom_64 : decode b_m5_readFrom 64 = .ok (.aload_n 0, 1) := by decide +kernel
theorem d_m5_readFrom_65 : decode b_m5_readFrom 65 = .ok (.getfield 9, 3) := by decide +kernel
theorem d_m5_readFrom_68 : decode b_m5_readFrom 68 = .ok (.aload_n 0, 1) := by decide +kernel
theorem d_m5_readFrom_69 : decode b_m5_readFrom 69 = .ok (.getfield 26, 3) := by decide +kernel
theorem d_m5_readFrom_72 : decode b_m5_readFrom 72 = .ok (.aload_n 1, 1) := by decide +kernel
theorem d_m5_readFrom_73 : decode b_m5_readFrom 73 = .ok (.invokestatic 58, 3) := by decide +kernel
theorem d_m5_readFrom_76 : decode b_m5_readFrom 76 = .ok (.iastore, 1) := by decide +kernel
theorem d_m5_readFrom_77 : decode b_m5_readFrom 77 = .ok (.aload_n 0, 1) := by decide +kernel
theorem d_m5_readFrom_78 : decode b_m5_readFrom 78 = .ok (.getfield 15, 3) := by decide +kernel
theorem d_m5_readFrom_81 : decode b_m5_readFrom 81 = .ok (.aload_n 0, 1) := by decide +kernel
theorem d_m5_readFrom_82 : decode b_m5_readFrom 82 = .ok (.getfield 26, 3) := by decide +kernel
theorem d_m5_readFrom_85 : decode b_m5_readFrom 85 = .ok (.aload_n 1, 1) := by decide +kernel
theorem d_m5_readFrom_86 : decode b_m5_readFrom 86 = .ok (.invokestatic 61, 3) := by decide +kernel
theorem d_m5_readFrom_89 : decode b_m5_readFrom 89 = .ok (.iastore, 1) := by decide +kernel
theorem d_m5_readFrom_90 : decode b_m5_readFrom 90 = .ok (.aload_n 0, 1) := by decide +kernel
theorem d_m5_readFrom_91 : decode b_m5_readFrom 91 = .ok (.getfield 18, 3) := by decide +kernel
theorem d_m5_readFrom_94 : decode b_m5_readFrom 94 = .ok (.aload_n 0, 1) := by decide +kernel
theorem d_m5_readFrom_95 : decode b_m5_readFrom 95 = .ok (.getfield 26, 3) := by decide +kernel
theorem d_m5_readFrom_98 : decode b_m5_readFrom 98 = .ok (.aload_n 1, 1) := by decide +kernel
theorem d_m5_readFrom_99 : decode b_m5_readFrom 99 = .ok (.invokevirtual 43, 3) := by decide +kernel
theorem d_m5_readFrom_102 : decode b_m5_readFrom 102 = .ok (.iastore, 1) := by decide +kernel
theorem d_m5_readFrom_103 : decode b_m5_readFrom 103 = .ok (.aload_n 0, 1) := by decide +kernel
theorem d_m5_readFrom_104 : decode b_m5_readFrom 104 = .ok (.dup, 1) := by decide +kernel
theorem d_m5_readFrom_105 : decode b_m5_readFrom 105 = .ok (.getfield 26, 3) := by decide +kernel
theorem d_m5_readFrom_108 : decode b_m5_readFrom 108 = .ok (.iconst 1, 1) := by decide +kernel
theorem d_m5_readFrom_109 : decode b_m5_readFrom 109 = .ok (.iadd, 1) := by decide +kernel
theorem d_m5_readFrom_110 : decode b_m5_readFrom 110 = .ok (.putfield 26, 3) := by decide +kernel
theorem d_m5_readFrom_113 : decode b_m5_readFrom 113 = .ok (.goto (-82), 3) := by decide +kernel
theorem d_m5_readFrom_116 : decode b_m5_readFrom 116 = .ok (.aload_n 1, 1) := by decide +kernel
theorem d_m5_readFrom_117 : decode b_m5_readFrom 117 = .ok (.invokevirtual 64, 3) := by decide +kernel
theorem d_m5_readFrom_120 : decode b_m5_readFrom 120 = .ok (.ireturn, 1) := by decide +kernel
def s_m5_readFrom_116  (r1 : Nat) (M : Mm) : Option (Int32 × Mm) := cl (has M r1 18) (s_m8_faultAtEnd r1 M) (fun v1 M2 => some (v1, M2))
def s_m5_readFrom_61 (k31 : Nat → Nat → Mm → Option (Int32 × Mm)) (r0 : Nat) (r1 : Nat) (t0 : Nat) (t1 : Nat) (M : Mm) : Option (Int32 × Mm) := cl (has M t0 18) (s_m8_expect t0 t1 M) (fun _ M1 => gR M1 r0 15 0 (fun v2 => gI M1 r0 15 3 (fun v3 => cl true (s_m5_readField r1 M1) (fun v4 M5 => sI M5 v2 0 v3 v4 (fun M6 => gR M6 r0 15 1 (fun v7 => gI M6 r0 15 3 (fun v8 => cl true (s_m5_readSign r1 M6) (fun v9 M10 => sI M10 v7 0 v8 v9 (fun M11 => gR M11 r0 15 2 (fun v12 => gI M11 r0 15 3 (fun v13 => cl (has M11 r1 18) (s_m8_expectNumber r1 M11) (fun v14 M15 => sI M15 v12 0 v13 v14 (fun M16 => gI M16 r0 15 3 (fun v17 => pI M16 r0 15 3 (v17 + (1 : Int32)) (fun M18 => k31 r0 r1 M18)))))))))))))))
def s_m5_readFrom_31  : Nat → Nat → Nat → Mm → Option (Int32 × Mm)
  | 0, _, _, _ => none
  | n + 1, r0, r1, M => gI M r0 15 3 (fun v1 => (if (3 : Int32) ≤ v1 then s_m5_readFrom_116 r1 M else cl (has M r1 18) (s_m8_goesOn r1 M) (fun v2 M3 => (if v2 = 0 then s_m5_readFrom_116 r1 M3 else gI M3 r0 15 3 (fun v4 => (if ¬ v4 = 0 then s_m5_readFrom_61 (s_m5_readFrom_31 n) r0 r1 r1 5 M3 else s_m5_readFrom_61 (s_m5_readFrom_31 n) r0 r1 r1 4 M3))))))
def s_m5_readFrom (r0 : Nat) (r1 : Nat) (M : Mm) : Option (Int32 × Mm) := cl (has M r1 18) (s_m8_rewind r1 M) (fun _ M1 => pI M1 r0 15 3 (0 : Int32) (fun M2 => cl true (s_m5_readKey r1 M2) (fun v3 M4 => pI M4 r0 15 4 v3 (fun M5 => cl (has M5 r1 18) (s_m8_expect r1 3 M5) (fun _ M6 => cl (has M6 r1 18) (s_m8_expectNumber r1 M6) (fun v7 M8 => pI M8 r0 15 5 v7 (fun M9 => s_m5_readFrom_31 FU r0 r1 M9)))))))
set_option maxRecDepth 100000 in
set_option maxHeartbeats 4000000 in
theorem w_m5_readFrom_116 {V : Ev} {C : Cx} {n0 : Nat} (hC : Cok V C y_m5_readFrom.cls b_m5_readFrom 2 n0 (some .int) y_m5_readFrom.name) (hR : cR C = rm_m5_readFrom)  : ∀ (r1 : Nat) (M : Mm), Sm V C 2 n0 n0 (qI V C) 116 [(1, rv V.1 r1)] [] M (s_m5_readFrom_116 r1 M) := by
  intro r1 M
  unfold s_m5_readFrom_116
  refine Sm.aload_n hC d_m5_readFrom_116 rfl 0 rfl ?_
  refine Sm.callVi 8 (As := []) (st := []) hC hR cw_m8_faultAtEnd (tw_i 577 (by decide +kernel)) (tw_i 578 (by decide +kernel)) (tw_i 579 (by decide +kernel)) ⟨_, rfl, rfl⟩ (fun r9 M9 h9 => ok_m8_faultAtEnd h9) rfl rfl (RW.of ⟨rfl, rfl, by decide, by decide⟩) (by simp) d_m5_readFrom_117 (fun v1 M2 => ?_)
  exact Sm.iret hC d_m5_readFrom_120 rfl (Nat.sub_self _)
set_option maxRecDepth 100000 in
set_option maxHeartbeats 4000000 in
theorem w_m5_readFrom_61 {V : Ev} {C : Cx} {n0 : Nat} (hC : Cok V C y_m5_readFrom.cls b_m5_readFrom 2 n0 (some .int) y_m5_readFrom.name) (hR : cR C = rm_m5_readFrom) (k31 : Nat → Nat → Mm → Option (Int32 × Mm)) (hk31 : ∀ (r0 : Nat) (r1 : Nat) (M : Mm), Sm V C 2 n0 n0 (qI V C) 31 [(0, rv V.1 r0), (1, rv V.1 r1)] [] M (k31 r0 r1 M)) : ∀ (r0 : Nat) (r1 : Nat) (t0 : Nat) (t1 : Nat) (M : Mm), Sm V C 2 n0 n0 (qI V C) 61 [(0, rv V.1 r0), (1, rv V.1 r1)] [.ref (V.2.2.2.1 t1), rv V.1 t0] M (s_m5_readFrom_61 k31 r0 r1 t0 t1 M) := by
  intro r0 r1 t0 t1 M
  unfold s_m5_readFrom_61
  refine Sm.callVv 8 (As := [.ref (V.2.2.2.1 t1)]) (st := []) hC hR cw_m8_expect (tw_i 497 (by decide +kernel)) (tw_i 498 (by decide +kernel)) (tw_i 499 (by decide +kernel)) ⟨_, rfl, rfl⟩ (fun r9 M9 h9 => ok_m8_expect h9) rfl rfl (RW.of ⟨rfl, rfl, by decide, by decide⟩) (by simp) d_m5_readFrom_61 (fun _ M1 => ?_)
  refine Sm.aload_n hC d_m5_readFrom_64 rfl 0 rfl ?_
  refine Sm.getR hC fl_m5_9 rfl d_m5_readFrom_65 (fun v2 => ?_)
  refine Sm.aload_n hC d_m5_readFrom_68 rfl 0 rfl ?_
  refine Sm.getI hC fl_m5_26 rfl d_m5_readFrom_69 (fun v3 => ?_)
  refine Sm.aload_n hC d_m5_readFrom_72 rfl 1 rfl ?_
  refine Sm.callSi (As := [rv V.1 r1]) (st := [.int v3, rv V.1 v2]) hC hR cw_m5_readField (tw_i 563 (by decide +kernel)) (tw_i 564 (by decide +kernel)) (fun r9 M9 h9 => ok_m5_readField h9) rfl rfl (RW.of ⟨rfl, rfl, by decide, by decide⟩) (by simp) d_m5_readFrom_73 (fun v4 M5 => ?_)
  refine Sm.iast hC d_m5_readFrom_76 (fun M6 => ?_)
  refine Sm.aload_n hC d_m5_readFrom_77 rfl 0 rfl ?_
  refine Sm.getR hC fl_m5_15 rfl d_m5_readFrom_78 (fun v7 => ?_)
  refine Sm.aload_n hC d_m5_readFrom_81 rfl 0 rfl ?_
  refine Sm.getI hC fl_m5_26 rfl d_m5_readFrom_82 (fun v8 => ?_)
  refine Sm.aload_n hC d_m5_readFrom_85 rfl 1 rfl ?_
  refine Sm.callSi (As := [rv V.1 r1]) (st := [.int v8, rv V.1 v7]) hC hR cw_m5_readSign (tw_i 571 (by decide +kernel)) (tw_i 572 (by decide +kernel)) (fun r9 M9 h9 => ok_m5_readSign h9) rfl rfl (RW.of ⟨rfl, rfl, by decide, by decide⟩) (by simp) d_m5_readFrom_86 (fun v9 M10 => ?_)
  refine Sm.iast hC d_m5_readFrom_89 (fun M11 => ?_)
  refine Sm.aload_n hC d_m5_readFrom_90 rfl 0 rfl ?_
  refine Sm.getR hC fl_m5_18 rfl d_m5_readFrom_91 (fun v12 => ?_)
  refine Sm.aload_n hC d_m5_readFrom_94 rfl 0 rfl ?_
  refine Sm.getI hC fl_m5_26 rfl d_m5_readFrom_95 (fun v13 => ?_)
  refine Sm.aload_n hC d_m5_readFrom_98 rfl 1 rfl ?_
  refine Sm.callVi 8 (As := []) (st := [.int v13, rv V.1 v12]) hC hR cw_m8_expectNumber (tw_i 553 (by decide +kernel)) (tw_i 554 (by decide +kernel)) (tw_i 555 (by decide +kernel)) ⟨_, rfl, rfl⟩ (fun r9 M9 h9 => ok_m8_expectNumber h9) rfl rfl (RW.of ⟨rfl, rfl, by decide, by decide⟩) (by simp) d_m5_readFrom_99 (fun v14 M15 => ?_)
  refine Sm.iast hC d_m5_readFrom_102 (fun M16 => ?_)
  refine Sm.aload_n hC d_m5_readFrom_103 rfl 0 rfl ?_
  refine Sm.dup hC d_m5_readFrom_104 (cat_rv _ _) ?_
  refine Sm.getI hC fl_m5_26 rfl d_m5_readFrom_105 (fun v17 => ?_)
  refine Sm.iconst (v := 1) hC d_m5_readFrom_108 (by decide) ?_
  refine Sm.iadd hC d_m5_readFrom_109 ?_
  refine Sm.putI hC fl_m5_26 rfl d_m5_readFrom_110 (fun M18 => ?_)
  refine Sm.goto (tgt := 31) hC d_m5_readFrom_113 (by decide) ?_
  exact hk31 r0 r1 M18
set_option maxRecDepth 100000 in
set_option maxHeartbeats 4000000 in
theorem w_m5_readFrom_31 {V : Ev} {C : Cx} {n0 : Nat} (hC : Cok V C y_m5_readFrom.cls b_m5_readFrom 2 n0 (some .int) y_m5_readFrom.name) (hR : cR C = rm_m5_readFrom)  : ∀ (n : Nat) (r0 : Nat) (r1 : Nat) (M : Mm), Sm V C 2 n0 n0 (qI V C) 31 [(0, rv V.1 r0), (1, rv V.1 r1)] [] M (s_m5_readFrom_31 n r0 r1 M) := by
  intro n
  induction n with
  | zero => exact fun r0 r1 M => Sm.none_
  | succ n ih =>
    intro r0 r1 M
    unfold s_m5_readFrom_31
    refine Sm.aload_n hC d_m5_readFrom_31 rfl 0 rfl ?_
    refine Sm.getI hC fl_m5_26 rfl d_m5_readFrom_32 (fun v1 => ?_)
    refine Sm.iconst (v := 3) hC d_m5_readFrom_35 (by decide) ?_
    refine Sm.icmp_ge (tgt := 116) hC d_m5_readFrom_36 (by decide) ?_ ?_
    · refine Sm.sub [1] rfl ?_
      exact w_m5_readFrom_116 hC hR r1 M
    · refine Sm.aload_n hC d_m5_readFrom_39 rfl 1 rfl ?_
      refine Sm.callVi 8 (As := []) (st := []) hC hR cw_m8_goesOn (tw_i 557 (by decide +kernel)) (tw_i 558 (by decide +kernel)) (tw_i 559 (by decide +kernel)) ⟨_, rfl, rfl⟩ (fun r9 M9 h9 => ok_m8_goesOn h9) rfl rfl (RW.of ⟨rfl, rfl, by decide, by decide⟩) (by simp) d_m5_readFrom_40 (fun v2 M3 => ?_)
      refine Sm.if_eq (tgt := 116) hC d_m5_readFrom_43 (by decide) ?_ ?_
      · refine Sm.sub [1] rfl ?_
        exact w_m5_readFrom_116 hC hR r1 M3
      · refine Sm.aload_n hC d_m5_readFrom_46 rfl 1 rfl ?_
        refine Sm.aload_n hC d_m5_readFrom_47 rfl 0 rfl ?_
        refine Sm.getI hC fl_m5_26 rfl d_m5_readFrom_48 (fun v4 => ?_)
        refine Sm.if_ne (tgt := 59) hC d_m5_readFrom_51 (by decide) ?_ ?_
        · refine Sm.ldcS hC 5 d_m5_readFrom_59 rfl ?_
          exact w_m5_readFrom_61 hC hR (s_m5_readFrom_31 n) ih r0 r1 r1 5 M3
        · refine Sm.ldcS hC 4 d_m5_readFrom_54 rfl ?_
          refine Sm.goto (tgt := 61) hC d_m5_readFrom_56 (by decide) ?_
          exact w_m5_readFrom_61 hC hR (s_m5_readFrom_31 n) ih r0 r1 r1 4 M3
set_option maxRecDepth 100000 in
set_option maxHeartbeats 4000000 in
theorem ok_m5_readFrom {l : Launch} {V : Ev} {M M' : Mm} {r : Int32} {r0 : Nat} {r1 : Nat} (h : s_m5_readFrom r0 r1 M = some (r, M')) : Met l y_m5_readFrom (Cond.code y_m5_readFrom b_m5_readFrom 2 (some .int) :: TW) rm_m5_readFrom (va_Pc [rv V.1 r0, rv V.1 r1] (Wd V M)) (QC V (some (.int r)) M' 0) 0 0 (Af V) := by
  refine met_of (fun x : Int32 => some (.int x)) (lv0 := [(0, rv V.1 r0), (1, rv V.1 r1)]) (by decide) (by simp [lg_sl, cat_rv, cat_i, cat_l, cat_f]) (by simp [lv_args, cat_rv, cat_i, cat_l, cat_f]) (fun C hl hR hC => ?_) h
  subst hl
  generalize mN M = n0 at hC ⊢
  unfold s_m5_readFrom
  refine Sm.aload_n hC d_m5_readFrom_0 rfl 1 rfl ?_
  refine Sm.callVv 8 (As := []) (st := []) hC hR cw_m8_rewind (tw_i 485 (by decide +kernel)) (tw_i 486 (by decide +kernel)) (tw_i 487 (by decide +kernel)) ⟨_, rfl, rfl⟩ (fun r9 M9 h9 => ok_m8_rewind h9) rfl rfl (RW.of ⟨rfl, rfl, by decide, by decide⟩) (by simp) d_m5_readFrom_1 (fun _ M1 => ?_)
  refine Sm.aload_n hC d_m5_readFrom_4 rfl 0 rfl ?_
  refine Sm.iconst (v := 0) hC d_m5_readFrom_5 (by decide) ?_
  refine Sm.putI hC fl_m5_26 rfl d_m5_readFrom_6 (fun M2 => ?_)
  refine Sm.aload_n hC d_m5_readFrom_9 rfl 0 rfl ?_
  refine Sm.aload_n hC d_m5_readFrom_10 rfl 1 rfl ?_
  refine Sm.callSi (As := [rv V.1 r1]) (st := [rv V.1 r0]) hC hR cw_m5_readKey (tw_i 489 (by decide +kernel)) (tw_i 490 (by decide +kernel)) (fun r9 M9 h9 => ok_m5_readKey h9) rfl rfl (RW.of ⟨rfl, rfl, by decide, by decide⟩) (by simp) d_m5_readFrom_11 (fun v3 M4 => ?_)
  refine Sm.putI hC fl_m5_34 rfl d_m5_readFrom_14 (fun M5 => ?_)
  refine Sm.aload_n hC d_m5_readFrom_17 rfl 1 rfl ?_
  refine Sm.ldcS hC 3 d_m5_readFrom_18 rfl ?_
  refine Sm.callVv 8 (As := [.ref (V.2.2.2.1 3)]) (st := []) hC hR cw_m8_expect (tw_i 497 (by decide +kernel)) (tw_i 498 (by decide +kernel)) (tw_i 499 (by decide +kernel)) ⟨_, rfl, rfl⟩ (fun r9 M9 h9 => ok_m8_expect h9) rfl rfl (RW.of ⟨rfl, rfl, by decide, by decide⟩) (by simp) d_m5_readFrom_20 (fun _ M6 => ?_)
  refine Sm.aload_n hC d_m5_readFrom_23 rfl 0 rfl ?_
  refine Sm.aload_n hC d_m5_readFrom_24 rfl 1 rfl ?_
  refine Sm.callVi 8 (As := []) (st := [rv V.1 r0]) hC hR cw_m8_expectNumber (tw_i 553 (by decide +kernel)) (tw_i 554 (by decide +kernel)) (tw_i 555 (by decide +kernel)) ⟨_, rfl, rfl⟩ (fun r9 M9 h9 => ok_m8_expectNumber h9) rfl rfl (RW.of ⟨rfl, rfl, by decide, by decide⟩) (by simp) d_m5_readFrom_25 (fun v7 M8 => ?_)
  refine Sm.putI hC fl_m5_47 rfl d_m5_readFrom_28 (fun M9 => ?_)
  exact w_m5_readFrom_31 hC hR FU r0 r1 M9
/-! NewsWire$Rule.valueOf(ILNewsWire$Piece;I)I -/
theorem fl_m5_106 : FL "NewsWire$Rule" 106 3 1 0 false .int := ⟨_, _, _, _, rfl, in_c3, ty_c3, nm_c3, by decide, rfl, tw_i 302 (by decide +kernel), rfl, rfl, rfl, rfl⟩
theorem fl_m5_110 : FL "NewsWire$Rule" 110 3 2 0 false .int := ⟨_, _, _, _, rfl, in_c3, ty_c3, nm_c3, by decide, rfl, tw_i 305 (by decide +kernel), rfl, rfl, rfl, rfl⟩
theorem fl_m5_112 : FL "NewsWire$Rule" 112 3 3 0 false .int := ⟨_, _, _, _, rfl, in_c3, ty_c3, nm_c3, by decide, rfl, tw_i 307 (by decide +kernel), rfl, rfl, rfl, rfl⟩
theorem fl_m5_114 : FL "NewsWire$Rule" 114 3 5 0 false .int := ⟨_, _, _, _, rfl, in_c3, ty_c3, nm_c3, by decide, rfl, tw_i 311 (by decide +kernel), rfl, rfl, rfl, rfl⟩
abbrev b_m5_valueOf : ByteArray := prog_7_method_8_code
def y_m5_valueOf : MethodName := ⟨"NewsWire$Rule", "valueOf", "(ILNewsWire$Piece;I)I"⟩
def rm_m5_valueOf : Room := { frames := 1, cells := 0, slots := 0, locals := 60 }
theorem cw_m5_valueOf : CW y_m5_valueOf b_m5_valueOf 3 (some .int) 3 := ⟨tw_i 57 (by decide +kernel), tw_i 599 (by decide +kernel), by decide, by decide, by decide +kernel⟩
theorem d_m5_valueOf_0 : decode b_m5_valueOf 0 = .ok (.iload_n 0, 1) := by decide +kernel
theorem d_m5_valueOf_1 : decode b_m5_valueOf 1 = .ok (.tableswitch 51 0 3 #[31, 36, 41, 46], 31) := by decide +kernel
theorem d_m5_valueOf_32 : decode b_m5_valueOf 32 = .ok (.aload_n 1, 1) := by decide +kernel
theorem d_m5_valueOf_33 : decode b_m5_valueOf 33 = .ok (.getfield 106, 3) := by decide +kernel
theorem d_m5_valueOf_36 : decode b_m5_valueOf 36 = .ok (.ireturn, 1) := by decide +kernel
theorem d_m5_valueOf_37 : decode b_m5_valueOf 37 = .ok (.aload_n 1, 1) := by decide +kernel
theorem d_m5_valueOf_38 : decode b_m5_valueOf 38 = .ok (.getfield 110, 3) := by decide +kernel
theorem d_m5_valueOf_41 : decode b_m5_valueOf 41 = .ok (.ireturn, 1) := by decide +kernel
theorem d_m5_valueOf_42 : decode b_m5_valueOf 42 = .ok (.aload_n 1, 1) := by decide +kernel
theorem d_m5_valueOf_43 : decode b_m5_valueOf 43 = .ok (.getfield 112, 3) := by decide +kernel
theorem d_m5_valueOf_46 : decode b_m5_valueOf 46 = .ok (.ireturn, 1) := by decide +kernel
theorem d_m5_valueOf_47 : decode b_m5_valueOf 47 = .ok (.aload_n 1, 1) := by decide +kernel
theorem d_m5_valueOf_48 : decode b_m5_valueOf 48 = .ok (.getfield 114, 3) := by decide +kernel
theorem d_m5_valueOf_51 : decode b_m5_valueOf 51 = .ok (.ireturn, 1) := by decide +kernel
theorem d_m5_valueOf_52 : decode b_m5_valueOf 52 = .ok (.iload_n 2, 1) := by decide +kernel
theorem d_m5_valueOf_53 : decode b_m5_valueOf 53 = .ok (.ireturn, 1) := by decide +kernel
def s_m5_valueOf (a0 : Int32) (r1 : Nat) (a2 : Int32) (M : Mm) : Option (Int32 × Mm) := (if a0 = 0 then gI M r1 13 1 (fun v1 => some (v1, M)) else if a0 = 1 then gI M r1 13 2 (fun v2 => some (v2, M)) else if a0 = 2 then gI M r1 13 3 (fun v3 => some (v3, M)) else if a0 = 3 then gI M r1 13 5 (fun v4 => some (v4, M)) else some (a2, M))
set_option maxRecDepth 100000 in
set_option maxHeartbeats 4000000 in
theorem ok_m5_valueOf {l : Launch} {V : Ev} {M M' : Mm} {r : Int32} {a0 : Int32} {r1 : Nat} {a2 : Int32} (h : s_m5_valueOf a0 r1 a2 M = some (r, M')) : Met l y_m5_valueOf (Cond.code y_m5_valueOf b_m5_valueOf 3 (some .int) :: TW) rm_m5_valueOf (va_Pc [.int a0, rv V.1 r1, .int a2] (Wd V M)) (QC V (some (.int r)) M' 0) 0 0 (Af V) := by
  refine met_of (fun x : Int32 => some (.int x)) (lv0 := [(0, .int a0), (1, rv V.1 r1), (2, .int a2)]) (by decide) (by simp [lg_sl, cat_rv, cat_i, cat_l, cat_f]) (by simp [lv_args, cat_rv, cat_i, cat_l, cat_f]) (fun C hl hR hC => ?_) h
  subst hl
  generalize mN M = n0 at hC ⊢
  unfold s_m5_valueOf
  refine Sm.iload_n hC d_m5_valueOf_0 rfl 0 rfl ?_
  refine Sm.if_ (fun h9 => ?_) (fun h1_0 => ?_)
  · refine Sm.tswIn (tgt := 32) hC d_m5_valueOf_1 (by rw [h9]; decide) (by rw [h9]; decide) (by rw [h9] <;> rfl) (by decide) ?_
    refine Sm.aload_n hC d_m5_valueOf_32 rfl 1 rfl ?_
    refine Sm.getI hC fl_m5_106 rfl d_m5_valueOf_33 (fun v1 => ?_)
    exact Sm.iret hC d_m5_valueOf_36 rfl (Nat.sub_self _)
  refine Sm.if_ (fun h9 => ?_) (fun h1_1 => ?_)
  · refine Sm.tswIn (tgt := 37) hC d_m5_valueOf_1 (by rw [h9]; decide) (by rw [h9]; decide) (by rw [h9] <;> rfl) (by decide) ?_
    refine Sm.aload_n hC d_m5_valueOf_37 rfl 1 rfl ?_
    refine Sm.getI hC fl_m5_110 rfl d_m5_valueOf_38 (fun v2 => ?_)
    exact Sm.iret hC d_m5_valueOf_41 rfl (Nat.sub_self _)
  refine Sm.if_ (fun h9 => ?_) (fun h1_2 => ?_)
  · refine Sm.tswIn (tgt := 42) hC d_m5_valueOf_1 (by rw [h9]; decide) (by rw [h9]; decide) (by rw [h9] <;> rfl) (by decide) ?_
    refine Sm.aload_n hC d_m5_valueOf_42 rfl 1 rfl ?_
    refine Sm.getI hC fl_m5_112 rfl d_m5_valueOf_43 (fun v3 => ?_)
    exact Sm.iret hC d_m5_valueOf_46 rfl (Nat.sub_self _)
  refine Sm.if_ (fun h9 => ?_) (fun h1_3 => ?_)
  · refine Sm.tswIn (tgt := 47) hC d_m5_valueOf_1 (by rw [h9]; decide) (by rw [h9]; decide) (by rw [h9] <;> rfl) (by decide) ?_
    refine Sm.aload_n hC d_m5_valueOf_47 rfl 1 rfl ?_
    refine Sm.getI hC fl_m5_114 rfl d_m5_valueOf_48 (fun v4 => ?_)
    exact Sm.iret hC d_m5_valueOf_51 rfl (Nat.sub_self _)
  refine Sm.tswOut (tgt := 52) hC d_m5_valueOf_1 (out_of (n := 4) (by decide) (fun i hi => by
      match i, hi with
      | 0, _ => exact h1_0
      | 1, _ => exact h1_1
      | 2, _ => exact h1_2
      | 3, _ => exact h1_3)) (by decide) ?_
  refine Sm.iload_n hC d_m5_valueOf_52 rfl 2 rfl ?_
  exact Sm.iret hC d_m5_valueOf_53 rfl (Nat.sub_self _)
/-! NewsWire$Rule.compares(II)Z -/
abbrev b_m5_compares : ByteArray := prog_7_method_7_code
def y_m5_compares : MethodName := ⟨"NewsWire$Rule", "compares", "(II)Z"⟩
def rm_m5_compares : Room := { frames := 1, cells := 0, slots := 0, locals := 60 }
theorem cw_m5_compares : CW y_m5_compares b_m5_compares 3 (some .boolean) 2 := ⟨tw_i 57 (by decide +kernel), tw_i 603 (by decide +kernel), by decide, by decide, by decide +kernel⟩
theorem d_m5_compares_0 : decode b_m5_compares 0 = .ok (.aload_n 0, 1) := by decide +kernel
theorem d_m5_compares_1 : decode b_m5_compares 1 = .ok (.getfield 15, 3) := by decide +kernel
theorem d_m5_compares_4 : decode b_m5_compares 4 = .ok (.iload_n 1, 1) := by decide +kernel
theorem d_m5_compares_5 : decode b_m5_compares 5 = .ok (.iaload, 1) := by decide +kernel
theorem d_m5_compares_6 : decode b_m5_compares 6 = .ok (.lookupswitch 58 #[(60, 26), (62, 42)], 26) := by decide +kernel
theorem d_m5_compares_32 : decode b_m5_compares 32 = .ok (.iload_n 2, 1) := by decide +kernel
theorem d_m5_compares_33 : decode b_m5_compares 33 = .ok (.aload_n 0, 1) := by decide +kernel
theorem d_m5_compares_34 : decode b_m5_compares 34 = .ok (.getfield 18, 3) := by decide +kernel
theorem d_m5_compares_37 : decode b_m5_compares 37 = .ok (.iload_n 1, 1) := by decide +kernel
theorem d_m5_compares_38 : decode b_m5_compares 38 = .ok (.iaload, 1) := by decide +kernel
theorem d_m5_compares_39 : decode b_m5_compares 39 = .ok (.if_icmp .ge 7, 3) := by decide +kernel
theorem d_m5_compares_42 : decode b_m5_compares 42 = .ok (.iconst 1, 1) := by decide +kernel
theorem d_m5_compares_43 : decode b_m5_compares 43 = .ok (.goto 4, 3) := by decide +kernel
theorem d_m5_compares_46 : decode b_m5_compares 46 = .ok (.iconst 0, 1) := by decide +kernel
theorem d_m5_compares_47 : decode b_m5_compares 47 = .ok (.ireturn, 1) := by decide +kernel
theorem d_m5_compares_48 : decode b_m5_compares 48 = .ok (.iload_n 2, 1) := by decide +kernel
theorem d_m5_compares_49 : decode b_m5_compares 49 = .ok (.aload_n 0, 1) := by decide +kernel
theorem d_m5_compares_50 : decode b_m5_compares 50 = .ok (.getfield 18, 3) := by decide +kernel
theorem d_m5_compares_53 : decode b_m5_compares 53 = .ok (.iload_n 1, 1) := by decide +kernel
theorem d_m5_compares_54 : decode b_m5_compares 54 = .ok (.iaload, 1) := by decide +kernel
theorem d_m5_compares_55 : decode b_m5_compares 55 = .ok (.if_icmp .le 7, 3) := by decide +kernel
theorem d_m5_compares_58 : decode b_m5_compares 58 = .ok (.iconst 1, 1) := by decide +kernel
theorem d_m5_compares_59 : decode b_m5_compares 59 = .ok (.goto 4, 3) := by decide +kernel
theorem d_m5_compares_62 : decode b_m5_compares 62 = .ok (.iconst 0, 1) := by decide +kernel
theorem d_m5_compares_63 : decode b_m5_compares 63 = .ok (.ireturn, 1) := by decide +kernel
theorem d_m5_compares_64 : decode b_m5_compares 64 = .ok (.iload_n 2, 1) := by decide +kernel
theorem d_m5_compares_65 : decode b_m5_compares 65 = .ok (.aload_n 0, 1) := by decide +kernel
theorem d_m5_compares_66 : decode b_m5_compares 66 = .ok (.getfield 18, 3) := by decide +kernel
theorem d_m5_compares_69 : decode b_m5_compares 69 = .ok (.iload_n 1, 1) := by decide +kernel
theorem d_m5_compares_70 : decode b_m5_compares 70 = .ok (.iaload, 1) := by decide +kernel
theorem d_m5_compares_71 : decode b_m5_compares 71 = .ok (.if_icmp .ne 7, 3) := by decide +kernel
theorem d_m5_compares_74 : decode b_m5_compares 74 = .ok (.iconst 1, 1) := by decide +kernel
theorem d_m5_compares_75 : decode b_m5_compares 75 = .ok (.goto 4, 3) := by decide +kernel
theorem d_m5_compares_78 : decode b_m5_compares 78 = .ok (.iconst 0, 1) := by decide +kernel
theorem d_m5_compares_79 : decode b_m5_compares 79 = .ok (.ireturn, 1) := by decide +kernel
def s_m5_compares_47  (t0 : Int32) (M : Mm) : Option (Int32 × Mm) := rz t0 (some (t0, M))
def s_m5_compares_63  (t0 : Int32) (M : Mm) : Option (Int32 × Mm) := rz t0 (some (t0, M))
def s_m5_compares_79  (t0 : Int32) (M : Mm) : Option (Int32 × Mm) := rz t0 (some (t0, M))
def s_m5_compares (r0 : Nat) (a1 : Int32) (a2 : Int32) (M : Mm) : Option (Int32 × Mm) := gR M r0 15 1 (fun v1 => aI M v1 0 a1 (fun v2 => (if v2 = 60 then gR M r0 15 2 (fun v3 => aI M v3 0 a1 (fun v4 => (if v4 ≤ a2 then s_m5_compares_47 (0 : Int32) M else s_m5_compares_47 (1 : Int32) M))) else if v2 = 62 then gR M r0 15 2 (fun v5 => aI M v5 0 a1 (fun v6 => (if a2 ≤ v6 then s_m5_compares_63 (0 : Int32) M else s_m5_compares_63 (1 : Int32) M))) else gR M r0 15 2 (fun v7 => aI M v7 0 a1 (fun v8 => (if ¬ a2 = v8 then s_m5_compares_79 (0 : Int32) M else s_m5_compares_79 (1 : Int32) M))))))
set_option maxRecDepth 100000 in
set_option maxHeartbeats 4000000 in
theorem w_m5_compares_47 {V : Ev} {C : Cx} {n0 : Nat} (hC : Cok V C y_m5_compares.cls b_m5_compares 3 n0 (some .boolean) y_m5_compares.name) (hR : cR C = rm_m5_compares)  : ∀ (t0 : Int32) (M : Mm), Sm V C 3 n0 n0 (qI V C) 47 [] [.int t0] M (s_m5_compares_47 t0 M) := by
  intro t0 M
  unfold s_m5_compares_47
  exact Sm.zret hC d_m5_compares_47 rfl (Nat.sub_self _)
set_option maxRecDepth 100000 in
set_option maxHeartbeats 4000000 in
theorem w_m5_compares_63 {V : Ev} {C : Cx} {n0 : Nat} (hC : Cok V C y_m5_compares.cls b_m5_compares 3 n0 (some .boolean) y_m5_compares.name) (hR : cR C = rm_m5_compares)  : ∀ (t0 : Int32) (M : Mm), Sm V C 3 n0 n0 (qI V C) 63 [] [.int t0] M (s_m5_compares_63 t0 M) := by
  intro t0 M
  unfold s_m5_compares_63
  exact Sm.zret hC d_m5_compares_63 rfl (Nat.sub_self _)
set_option maxRecDepth 100000 in
set_option maxHeartbeats 4000000 in
theorem w_m5_compares_79 {V : Ev} {C : Cx} {n0 : Nat} (hC : Cok V C y_m5_compares.cls b_m5_compares 3 n0 (some .boolean) y_m5_compares.name) (hR : cR C = rm_m5_compares)  : ∀ (t0 : Int32) (M : Mm), Sm V C 3 n0 n0 (qI V C) 79 [] [.int t0] M (s_m5_compares_79 t0 M) := by
  intro t0 M
  unfold s_m5_compares_79
  exact Sm.zret hC d_m5_compares_79 rfl (Nat.sub_self _)
set_option maxRecDepth 100000 in
set_option maxHeartbeats 4000000 in
theorem ok_m5_compares {l : Launch} {V : Ev} {M M' : Mm} {r : Int32} {r0 : Nat} {a1 : Int32} {a2 : Int32} (h : s_m5_compares r0 a1 a2 M = some (r, M')) : Met l y_m5_compares (Cond.code y_m5_compares b_m5_compares 3 (some .boolean) :: TW) rm_m5_compares (va_Pc [rv V.1 r0, .int a1, .int a2] (Wd V M)) (QC V (some (.int r)) M' 0) 0 0 (Af V) := by
  refine met_of (fun x : Int32 => some (.int x)) (lv0 := [(0, rv V.1 r0), (1, .int a1), (2, .int a2)]) (by decide) (by simp [lg_sl, cat_rv, cat_i, cat_l, cat_f]) (by simp [lv_args, cat_rv, cat_i, cat_l, cat_f]) (fun C hl hR hC => ?_) h
  subst hl
  generalize mN M = n0 at hC ⊢
  unfold s_m5_compares
  refine Sm.aload_n hC d_m5_compares_0 rfl 0 rfl ?_
  refine Sm.getR hC fl_m5_15 rfl d_m5_compares_1 (fun v1 => ?_)
  refine Sm.iload_n hC d_m5_compares_4 rfl 1 rfl ?_
  refine Sm.iald hC d_m5_compares_5 (fun v2 => ?_)
  refine Sm.if_ (fun h9 => ?_) (fun h6_0 => ?_)
  · refine Sm.lsw (tgt := 32) (off := 26) hC d_m5_compares_6 (by decide) (by rw [h9] <;> rfl) (by decide) ?_
    refine Sm.iload_n hC d_m5_compares_32 rfl 2 rfl ?_
    refine Sm.aload_n hC d_m5_compares_33 rfl 0 rfl ?_
    refine Sm.getR hC fl_m5_18 rfl d_m5_compares_34 (fun v3 => ?_)
    refine Sm.iload_n hC d_m5_compares_37 rfl 1 rfl ?_
    refine Sm.iald hC d_m5_compares_38 (fun v4 => ?_)
    refine Sm.icmp_ge (tgt := 46) hC d_m5_compares_39 (by decide) ?_ ?_
    · refine Sm.iconst (v := 0) hC d_m5_compares_46 (by decide) ?_
      refine Sm.sub [] rfl ?_
      exact w_m5_compares_47 hC hR (0 : Int32) M
    · refine Sm.iconst (v := 1) hC d_m5_compares_42 (by decide) ?_
      refine Sm.goto (tgt := 47) hC d_m5_compares_43 (by decide) ?_
      refine Sm.sub [] rfl ?_
      exact w_m5_compares_47 hC hR (1 : Int32) M
  refine Sm.if_ (fun h9 => ?_) (fun h6_1 => ?_)
  · refine Sm.lsw (tgt := 48) (off := 42) hC d_m5_compares_6 (by decide) (by rw [h9] <;> rfl) (by decide) ?_
    refine Sm.iload_n hC d_m5_compares_48 rfl 2 rfl ?_
    refine Sm.aload_n hC d_m5_compares_49 rfl 0 rfl ?_
    refine Sm.getR hC fl_m5_18 rfl d_m5_compares_50 (fun v5 => ?_)
    refine Sm.iload_n hC d_m5_compares_53 rfl 1 rfl ?_
    refine Sm.iald hC d_m5_compares_54 (fun v6 => ?_)
    refine Sm.icmp_le (tgt := 62) hC d_m5_compares_55 (by decide) ?_ ?_
    · refine Sm.iconst (v := 0) hC d_m5_compares_62 (by decide) ?_
      refine Sm.sub [] rfl ?_
      exact w_m5_compares_63 hC hR (0 : Int32) M
    · refine Sm.iconst (v := 1) hC d_m5_compares_58 (by decide) ?_
      refine Sm.goto (tgt := 63) hC d_m5_compares_59 (by decide) ?_
      refine Sm.sub [] rfl ?_
      exact w_m5_compares_63 hC hR (1 : Int32) M
  refine Sm.lsw (tgt := 64) (off := 58) hC d_m5_compares_6 (by decide) ((lv_osw h6_0 rfl).trans ((lv_osw h6_1 rfl).trans (rfl))) (by decide) ?_
  refine Sm.iload_n hC d_m5_compares_64 rfl 2 rfl ?_
  refine Sm.aload_n hC d_m5_compares_65 rfl 0 rfl ?_
  refine Sm.getR hC fl_m5_18 rfl d_m5_compares_66 (fun v7 => ?_)
  refine Sm.iload_n hC d_m5_compares_69 rfl 1 rfl ?_
  refine Sm.iald hC d_m5_compares_70 (fun v8 => ?_)
  refine Sm.icmp_ne (tgt := 78) hC d_m5_compares_71 (by decide) ?_ ?_
  · refine Sm.iconst (v := 0) hC d_m5_compares_78 (by decide) ?_
    refine Sm.sub [] rfl ?_
    exact w_m5_compares_79 hC hR (0 : Int32) M
  · refine Sm.iconst (v := 1) hC d_m5_compares_74 (by decide) ?_
    refine Sm.goto (tgt := 79) hC d_m5_compares_75 (by decide) ?_
    refine Sm.sub [] rfl ?_
    exact w_m5_compares_79 hC hR (1 : Int32) M
/-! NewsWire$Rule.isSo(LNewsWire$Piece;II)Z -/
theorem fl_m5_92 : FL "NewsWire$Rule" 92 5 6 0 false .int := ⟨_, _, _, _, rfl, in_c5, ty_c5, nm_c5, by decide, rfl, tw_i 110 (by decide +kernel), rfl, rfl, rfl, rfl⟩
theorem fl_m5_95 : FL "NewsWire$Rule" 95 5 7 0 false .int := ⟨_, _, _, _, rfl, in_c5, ty_c5, nm_c5, by decide, rfl, tw_i 112 (by decide +kernel), rfl, rfl, rfl, rfl⟩
abbrev b_m5_isSo : ByteArray := prog_7_method_6_code
def y_m5_isSo : MethodName := ⟨"NewsWire$Rule", "isSo", "(LNewsWire$Piece;II)Z"⟩
def rm_m5_isSo : Room := { frames := 2, cells := 0, slots := 0, locals := 82 }
theorem cw_m5_isSo : CW y_m5_isSo b_m5_isSo 6 (some .boolean) 3 := ⟨tw_i 57 (by decide +kernel), tw_i 596 (by decide +kernel), by decide, by decide, by decide +kernel⟩
theorem d_m5_isSo_0 : decode b_m5_isSo 0 = .ok (.iload_n 3, 1) := by decide +kernel
theorem d_m5_isSo_1 : decode b_m5_isSo 1 = .ok (.aload_n 0, 1) := by decide +kernel
theorem d_m5_isSo_2 : decode b_m5_isSo 2 = .ok (.getfield 92, 3) := by decide +kernel
theorem d_m5_isSo_5 : decode b_m5_isSo 5 = .ok (.if_icmp .lt 11, 3) := by decide +kernel
theorem d_m5_isSo_8 : decode b_m5_isSo 8 = .ok (.iload_n 3, 1) := by decide +kernel
theorem d_m5_isSo_9 : decode b_m5_isSo 9 = .ok (.aload_n 0, 1) := by decide +kernel
theorem d_m5_isSo_10 : decode b_m5_isSo 10 = .ok (.getfield 95, 3) := by decide +kernel
theorem d_m5_isSo_13 : decode b_m5_isSo 13 = .ok (.if_icmp .lt 5, 3) := by decide +kernel
theorem d_m5_isSo_16 : decode b_m5_isSo 16 = .ok (.iconst 0, 1) := by decide +kernel
theorem d_m5_isSo_17 : decode b_m5_isSo 17 = .ok (.ireturn, 1) := by decide +kernel
theorem d_m5_isSo_18 : decode b_m5_isSo 18 = .ok (.iconst 0, 1) := by decide +kernel
theorem d_m5_isSo_19 : decode b_m5_isSo 19 = .ok (.istore 4, 2) := by decide +kernel
theorem d_m5_isSo_21 : decode b_m5_isSo 21 = .ok (.iload 4, 2) := by decide +kernel
theorem d_m5_isSo_23 : decode b_m5_isSo 23 = .ok (.aload_n 0, 1) := by decide +kernel
theorem d_m5_isSo_24 : decode b_m5_isSo 24 = .ok (.getfield 26, 3) := by decide +kernel
theorem d_m5_isSo_27 : decode b_m5_isSo 27 = .ok (.if_icmp .ge 60, 3) := by decide +kernel
theorem d_m5_isSo_30 : decode b_m5_isSo 30 = .ok (.aload_n 0, 1) := by decide +kernel
theorem d_m5_isSo_31 : decode b_m5_isSo 31 = .ok (.getfield 9, 3) := by decide +kernel
theorem d_m5_isSo_34 : decode b_m5_isSo 34 = .ok (.iload 4, 2) := by decide +kernel
theorem d_m5_isSo_36 : decode b_m5_isSo 36 = .ok (.iaload, 1) := by decide +kernel
theorem d_m5_isSo_37 : decode b_m5_isSo 37 = .ok (.iconst 4, 1) := by decide +kernel
theorem d_m5_isSo_38 : decode b_m5_isSo 38 = .ok (.if_icmp .ne 12, 3) := by decide +kernel
theorem d_m5_isSo_41 : decode b_m5_isSo 41 = .ok (.iload_n 2, 1) := by decide +kernel
theorem d_m5_isSo_42 : decode b_m5_isSo 42 = .ok (.iconst (-1), 1) := by decide +kernel
theorem d_m5_isSo_43 : decode b_m5_isSo 43 = .ok (.if_icmp .ne 7, 3) := by decide +kernel
theorem d_m5_isSo_46 : decode b_m5_isSo 46 = .ok (.iconst 1, 1) := by decide +kernel
theorem d_m5_isSo_47 : decode b_m5_isSo 47 = .ok (.goto 4, 3) := by decide +kernel
theorem d_m5_isSo_50 : decode b_m5_isSo 50 = .ok (.iconst 0, 1) := by decide +kernel
theorem d_m5_isSo_51 : decode b_m5_isSo 51 = .ok (.istore 5, 2) := by decide +kernel
theorem d_m5_isSo_53 : decode b_m5_isSo 53 = .ok (.iload 5, 2) := by decide +kernel
theorem d_m5_isSo_55 : decode b_m5_isSo 55 = .ok (.ifCond .ne 24, 3) := by decide +kernel
theorem d_m5_isSo_58 : decode b_m5_isSo 58 = .ok (.aload_n 0, 1) := by decide +kernel
theorem d_m5_isSo_59 : decode b_m5_isSo 59 = .ok (.iload 4, 2) := by decide +kernel
theorem d_m5_isSo_61 : decode b_m5_isSo 61 = .ok (.aload_n 0, 1) := by decide +kernel
theorem d_m5_isSo_62 : decode b_m5_isSo 62 = .ok (.getfield 9, 3) := by decide +kernel
theorem d_m5_isSo_65 : decode b_m5_isSo 65 = .ok (.iload 4, 2) := by decide +kernel
theorem d_m5_isSo_67 : decode b_m5_isSo 67 = .ok (.iaload, 1) := by decide +kernel
theorem d_m5_isSo_68 : decode b_m5_isSo 68 = .ok (.aload_n 1, 1) := by decide +kernel
theorem d_m5_isSo_69 : decode b_m5_isSo 69 = .ok (.iload_n 2, 1) := by decide +kernel
theorem d_m5_isSo_70 : decode b_m5_isSo 70 = .ok (.invokestatic 98, 3) := by decide +kernel
theorem d_m5_isSo_73 : decode b_m5_isSo 73 = .ok (.invokevirtual 102, 3) := by decide +kernel
theorem d_m5_isSo_76 : decode b_m5_isSo 76 = .ok (.ifCond .ne 5, 3) := by decide +kernel
theorem d_m5_isSo_79 : decode b_m5_isSo 79 = .ok (.iconst 0, 1) := by decide +kernel
theorem d_m5_isSo_80 : decode b_m5_isSo 80 = .ok (.ireturn, 1) := by decide +kernel
theorem d_m5_isSo_81 : decode b_m5_isSo 81 = .ok (.iinc 4 1, 3) := by decide +kernel
theorem d_m5_isSo_84 : decode b_m5_isSo 84 = .ok (.goto (-63), 3) := by decide +kernel
theorem d_m5_isSo_87 : decode b_m5_isSo 87 = .ok (.iconst 1, 1) := by decide +kernel
theorem d_m5_isSo_88 : decode b_m5_isSo 88 = .ok (.ireturn, 1) := by decide +kernel
def s_m5_isSo_16   (M : Mm) : Option (Int32 × Mm) := rz (0 : Int32) (some ((0 : Int32), M))
def s_m5_isSo_79   (M : Mm) : Option (Int32 × Mm) := rz (0 : Int32) (some ((0 : Int32), M))
def s_m5_isSo_51 (k21 : Nat → Nat → Int32 → Int32 → Mm → Option (Int32 × Mm)) (r0 : Nat) (r1 : Nat) (x2 : Int32) (x4 : Int32) (t0 : Int32) (M : Mm) : Option (Int32 × Mm) := (if ¬ t0 = 0 then s_m5_isSo_79 M else gR M r0 15 0 (fun v1 => aI M v1 0 x4 (fun v2 => cl true (s_m5_valueOf v2 r1 x2 M) (fun v3 M4 => cl (has M4 r0 15) (s_m5_compares r0 x4 v3 M4) (fun v5 M6 => (if ¬ v5 = 0 then k21 r0 r1 x2 (x4 + 1) M6 else s_m5_isSo_79 M6))))))
def s_m5_isSo_50 (k21 : Nat → Nat → Int32 → Int32 → Mm → Option (Int32 × Mm)) (r0 : Nat) (r1 : Nat) (x2 : Int32) (x4 : Int32) (M : Mm) : Option (Int32 × Mm) := s_m5_isSo_51 k21 r0 r1 x2 x4 (0 : Int32) M
def s_m5_isSo_21  : Nat → Nat → Nat → Int32 → Int32 → Mm → Option (Int32 × Mm)
  | 0, _, _, _, _, _ => none
  | n + 1, r0, r1, x2, x4, M => gI M r0 15 3 (fun v1 => (if v1 ≤ x4 then rz (1 : Int32) (some ((1 : Int32), M)) else gR M r0 15 0 (fun v2 => aI M v2 0 x4 (fun v3 => (if ¬ v3 = (4 : Int32) then s_m5_isSo_50 (s_m5_isSo_21 n) r0 r1 x2 x4 M else (if ¬ x2 = (-1 : Int32) then s_m5_isSo_50 (s_m5_isSo_21 n) r0 r1 x2 x4 M else s_m5_isSo_51 (s_m5_isSo_21 n) r0 r1 x2 x4 (1 : Int32) M))))))
def s_m5_isSo (r0 : Nat) (r1 : Nat) (a2 : Int32) (a3 : Int32) (M : Mm) : Option (Int32 × Mm) := gI M r0 15 6 (fun v1 => (if a3 < v1 then s_m5_isSo_16 M else gI M r0 15 7 (fun v2 => (if a3 < v2 then s_m5_isSo_21 FU r0 r1 a2 (0 : Int32) M else s_m5_isSo_16 M))))
set_option maxRecDepth 100000 in
set_option maxHeartbeats 4000000 in
theorem w_m5_isSo_16 {V : Ev} {C : Cx} {n0 : Nat} (hC : Cok V C y_m5_isSo.cls b_m5_isSo 6 n0 (some .boolean) y_m5_isSo.name) (hR : cR C = rm_m5_isSo)  : ∀  (M : Mm), Sm V C 6 n0 n0 (qI V C) 16 [] [] M (s_m5_isSo_16 M) := by
  intro M
  unfold s_m5_isSo_16
  refine Sm.iconst (v := 0) hC d_m5_isSo_16 (by decide) ?_
  exact Sm.zret hC d_m5_isSo_17 rfl (Nat.sub_self _)
set_option maxRecDepth 100000 in
set_option maxHeartbeats 4000000 in
theorem w_m5_isSo_79 {V : Ev} {C : Cx} {n0 : Nat} (hC : Cok V C y_m5_isSo.cls b_m5_isSo 6 n0 (some .boolean) y_m5_isSo.name) (hR : cR C = rm_m5_isSo)  : ∀  (M : Mm), Sm V C 6 n0 n0 (qI V C) 79 [] [] M (s_m5_isSo_79 M) := by
  intro M
  unfold s_m5_isSo_79
  refine Sm.iconst (v := 0) hC d_m5_isSo_79 (by decide) ?_
  exact Sm.zret hC d_m5_isSo_80 rfl (Nat.sub_self _)
set_option maxRecDepth 100000 in
set_option maxHeartbeats 4000000 in
theorem w_m5_isSo_51 {V : Ev} {C : Cx} {n0 : Nat} (hC : Cok V C y_m5_isSo.cls b_m5_isSo 6 n0 (some .boolean) y_m5_isSo.name) (hR : cR C = rm_m5_isSo) (k21 : Nat → Nat → Int32 → Int32 → Mm → Option (Int32 × Mm)) (hk21 : ∀ (r0 : Nat) (r1 : Nat) (x2 : Int32) (x4 : Int32) (M : Mm), Sm V C 6 n0 n0 (qI V C) 21 [(0, rv V.1 r0), (1, rv V.1 r1), (2, .int x2), (4, .int x4)] [] M (k21 r0 r1 x2 x4 M)) : ∀ (r0 : Nat) (r1 : Nat) (x2 : Int32) (x4 : Int32) (t0 : Int32) (M : Mm), Sm V C 6 n0 n0 (qI V C) 51 [(0, rv V.1 r0), (1, rv V.1 r1), (2, .int x2), (4, .int x4)] [.int t0] M (s_m5_isSo_51 k21 r0 r1 x2 x4 t0 M) := by
  intro r0 r1 x2 x4 t0 M
  unfold s_m5_isSo_51
  refine Sm.istore (lv' := [(5, .int t0), (0, rv V.1 r0), (1, rv V.1 r1), (2, .int x2), (4, .int x4)]) hC d_m5_isSo_51 (by decide) rfl ?_
  refine Sm.iload hC d_m5_isSo_53 0 rfl ?_
  refine Sm.if_ne (tgt := 79) hC d_m5_isSo_55 (by decide) ?_ ?_
  · refine Sm.sub [] rfl ?_
    exact w_m5_isSo_79 hC hR M
  · refine Sm.aload_n hC d_m5_isSo_58 rfl 1 rfl ?_
    refine Sm.iload hC d_m5_isSo_59 4 rfl ?_
    refine Sm.aload_n hC d_m5_isSo_61 rfl 1 rfl ?_
    refine Sm.getR hC fl_m5_9 rfl d_m5_isSo_62 (fun v1 => ?_)
    refine Sm.iload hC d_m5_isSo_65 4 rfl ?_
    refine Sm.iald hC d_m5_isSo_67 (fun v2 => ?_)
    refine Sm.aload_n hC d_m5_isSo_68 rfl 2 rfl ?_
    refine Sm.iload_n hC d_m5_isSo_69 rfl 3 rfl ?_
    refine Sm.callSi (As := [.int v2, rv V.1 r1, .int x2]) (st := [.int x4, rv V.1 r0]) hC hR cw_m5_valueOf (tw_i 597 (by decide +kernel)) (tw_i 598 (by decide +kernel)) (fun r9 M9 h9 => ok_m5_valueOf h9) rfl rfl (RW.of ⟨rfl, rfl, by decide, by decide⟩) (by simp) d_m5_isSo_70 (fun v3 M4 => ?_)
    refine Sm.callVi 5 (As := [.int x4, .int v3]) (st := []) hC hR cw_m5_compares (tw_i 600 (by decide +kernel)) (tw_i 602 (by decide +kernel)) (tw_i 3 (by decide +kernel)) ⟨_, rfl, rfl⟩ (fun r9 M9 h9 => ok_m5_compares h9) rfl rfl (RW.of ⟨rfl, rfl, by decide, by decide⟩) (by simp) d_m5_isSo_73 (fun v5 M6 => ?_)
    refine Sm.if_ne (tgt := 81) hC d_m5_isSo_76 (by decide) ?_ ?_
    · refine Sm.iinc (v := x4 + 1) (lv' := [(4, .int (x4 + 1)), (5, .int t0), (0, rv V.1 r0), (1, rv V.1 r1), (2, .int x2)]) hC d_m5_isSo_81 4 rfl rfl (by decide) rfl ?_
      refine Sm.goto (tgt := 21) hC d_m5_isSo_84 (by decide) ?_
      refine Sm.sub [2, 3, 4, 0] rfl ?_
      exact hk21 r0 r1 x2 (x4 + 1) M6
    · refine Sm.sub [] rfl ?_
      exact w_m5_isSo_79 hC hR M6
set_option maxRecDepth 100000 in
set_option maxHeartbeats 4000000 in
theorem w_m5_isSo_50 {V : Ev} {C : Cx} {n0 : Nat} (hC : Cok V C y_m5_isSo.cls b_m5_isSo 6 n0 (some .boolean) y_m5_isSo.name) (hR : cR C = rm_m5_isSo) (k21 : Nat → Nat → Int32 → Int32 → Mm → Option (Int32 × Mm)) (hk21 : ∀ (r0 : Nat) (r1 : Nat) (x2 : Int32) (x4 : Int32) (M : Mm), Sm V C 6 n0 n0 (qI V C) 21 [(0, rv V.1 r0), (1, rv V.1 r1), (2, .int x2), (4, .int x4)] [] M (k21 r0 r1 x2 x4 M)) : ∀ (r0 : Nat) (r1 : Nat) (x2 : Int32) (x4 : Int32) (M : Mm), Sm V C 6 n0 n0 (qI V C) 50 [(0, rv V.1 r0), (1, rv V.1 r1), (2, .int x2), (4, .int x4)] [] M (s_m5_isSo_50 k21 r0 r1 x2 x4 M) := by
  intro r0 r1 x2 x4 M
  unfold s_m5_isSo_50
  refine Sm.iconst (v := 0) hC d_m5_isSo_50 (by decide) ?_
  exact w_m5_isSo_51 hC hR k21 hk21 r0 r1 x2 x4 (0 : Int32) M
set_option maxRecDepth 100000 in
set_option maxHeartbeats 4000000 in
theorem w_m5_isSo_21 {V : Ev} {C : Cx} {n0 : Nat} (hC : Cok V C y_m5_isSo.cls b_m5_isSo 6 n0 (some .boolean) y_m5_isSo.name) (hR : cR C = rm_m5_isSo)  : ∀ (n : Nat) (r0 : Nat) (r1 : Nat) (x2 : Int32) (x4 : Int32) (M : Mm), Sm V C 6 n0 n0 (qI V C) 21 [(0, rv V.1 r0), (1, rv V.1 r1), (2, .int x2), (4, .int x4)] [] M (s_m5_isSo_21 n r0 r1 x2 x4 M) := by
  intro n
  induction n with
  | zero => exact fun r0 r1 x2 x4 M => Sm.none_
  | succ n ih =>
    intro r0 r1 x2 x4 M
    unfold s_m5_isSo_21
    refine Sm.iload hC d_m5_isSo_21 3 rfl ?_
    refine Sm.aload_n hC d_m5_isSo_23 rfl 0 rfl ?_
    refine Sm.getI hC fl_m5_26 rfl d_m5_isSo_24 (fun v1 => ?_)
    refine Sm.icmp_ge (tgt := 87) hC d_m5_isSo_27 (by decide) ?_ ?_
    · refine Sm.iconst (v := 1) hC d_m5_isSo_87 (by decide) ?_
      exact Sm.zret hC d_m5_isSo_88 rfl (Nat.sub_self _)
    · refine Sm.aload_n hC d_m5_isSo_30 rfl 0 rfl ?_
      refine Sm.getR hC fl_m5_9 rfl d_m5_isSo_31 (fun v2 => ?_)
      refine Sm.iload hC d_m5_isSo_34 3 rfl ?_
      refine Sm.iald hC d_m5_isSo_36 (fun v3 => ?_)
      refine Sm.iconst (v := 4) hC d_m5_isSo_37 (by decide) ?_
      refine Sm.icmp_ne (tgt := 50) hC d_m5_isSo_38 (by decide) ?_ ?_
      · exact w_m5_isSo_50 hC hR (s_m5_isSo_21 n) ih r0 r1 x2 x4 M
      · refine Sm.iload_n hC d_m5_isSo_41 rfl 2 rfl ?_
        refine Sm.iconst (v := -1) hC d_m5_isSo_42 (by decide) ?_
        refine Sm.icmp_ne (tgt := 50) hC d_m5_isSo_43 (by decide) ?_ ?_
        · exact w_m5_isSo_50 hC hR (s_m5_isSo_21 n) ih r0 r1 x2 x4 M
        · refine Sm.iconst (v := 1) hC d_m5_isSo_46 (by decide) ?_
          refine Sm.goto (tgt := 51) hC d_m5_isSo_47 (by decide) ?_
          exact w_m5_isSo_51 hC hR (s_m5_isSo_21 n) ih r0 r1 x2 x4 (1 : Int32) M
set_option maxRecDepth 100000 in
set_option maxHeartbeats 4000000 in
theorem ok_m5_isSo {l : Launch} {V : Ev} {M M' : Mm} {r : Int32} {r0 : Nat} {r1 : Nat} {a2 : Int32} {a3 : Int32} (h : s_m5_isSo r0 r1 a2 a3 M = some (r, M')) : Met l y_m5_isSo (Cond.code y_m5_isSo b_m5_isSo 6 (some .boolean) :: TW) rm_m5_isSo (va_Pc [rv V.1 r0, rv V.1 r1, .int a2, .int a3] (Wd V M)) (QC V (some (.int r)) M' 0) 0 0 (Af V) := by
  refine met_of (fun x : Int32 => some (.int x)) (lv0 := [(0, rv V.1 r0), (1, rv V.1 r1), (2, .int a2), (3, .int a3)]) (by decide) (by simp [lg_sl, cat_rv, cat_i, cat_l, cat_f]) (by simp [lv_args, cat_rv, cat_i, cat_l, cat_f]) (fun C hl hR hC => ?_) h
  subst hl
  generalize mN M = n0 at hC ⊢
  unfold s_m5_isSo
  refine Sm.iload_n hC d_m5_isSo_0 rfl 3 rfl ?_
  refine Sm.aload_n hC d_m5_isSo_1 rfl 0 rfl ?_
  refine Sm.getI hC fl_m5_92 rfl d_m5_isSo_2 (fun v1 => ?_)
  refine Sm.icmp_lt (tgt := 16) hC d_m5_isSo_5 (by decide) ?_ ?_
  · refine Sm.sub [] rfl ?_
    exact w_m5_isSo_16 hC hR M
  · refine Sm.iload_n hC d_m5_isSo_8 rfl 3 rfl ?_
    refine Sm.aload_n hC d_m5_isSo_9 rfl 0 rfl ?_
    refine Sm.getI hC fl_m5_95 rfl d_m5_isSo_10 (fun v2 => ?_)
    refine Sm.icmp_lt (tgt := 18) hC d_m5_isSo_13 (by decide) ?_ ?_
    · refine Sm.iconst (v := 0) hC d_m5_isSo_18 (by decide) ?_
      refine Sm.istore (lv' := [(4, .int (0 : Int32)), (0, rv V.1 r0), (1, rv V.1 r1), (2, .int a2), (3, .int a3)]) hC d_m5_isSo_19 (by decide) rfl ?_
      refine Sm.sub [1, 2, 3, 0] rfl ?_
      exact w_m5_isSo_21 hC hR FU r0 r1 a2 (0 : Int32) M
    · refine Sm.sub [] rfl ?_
      exact w_m5_isSo_16 hC hR M
/-! NewsWire$Rules.numberOfLatest(ILNewsWire$Piece;III)I -/
theorem fl_m6_28 : FL "NewsWire$Rules" 28 6 1 0 false .int := ⟨_, _, _, _, rfl, in_c6, ty_c6, nm_c6, by decide, rfl, tw_i 134 (by decide +kernel), rfl, rfl, rfl, rfl⟩
theorem fl_m6_11 : FL "NewsWire$Rules" 11 6 0 2 true (.array (.object "NewsWire$Rule")) := ⟨_, _, _, _, rfl, in_c6, ty_c6, nm_c6, by decide, rfl, tw_i 132 (by decide +kernel), rfl, rfl, rfl, rfl⟩
theorem fl_m6_31 : FL "NewsWire$Rules" 31 5 4 0 false .int := ⟨_, _, _, _, rfl, in_c5, ty_c5, nm_c5, by decide, rfl, tw_i 105 (by decide +kernel), rfl, rfl, rfl, rfl⟩
theorem fl_m6_34 : FL "NewsWire$Rules" 34 5 5 0 false .int := ⟨_, _, _, _, rfl, in_c5, ty_c5, nm_c5, by decide, rfl, tw_i 108 (by decide +kernel), rfl, rfl, rfl, rfl⟩
abbrev b_m6_numberOfLatest : ByteArray := prog_8_method_5_code
def y_m6_numberOfLatest : MethodName := ⟨"NewsWire$Rules", "numberOfLatest", "(ILNewsWire$Piece;III)I"⟩
def rm_m6_numberOfLatest : Room := { frames := 3, cells := 0, slots := 0, locals := 107 }
theorem cw_m6_numberOfLatest : CW y_m6_numberOfLatest b_m6_numberOfLatest 7 (some .int) 5 := ⟨tw_i 56 (by decide +kernel), tw_i 615 (by decide +kernel), by decide, by decide, by decide +kernel⟩
theorem d_m6_numberOfLatest_0 : decode b_m6_numberOfLatest 0 = .ok (.aload_n 0, 1) := by decide +kernel
theorem d_m6_numberOfLatest_1 : decode b_m6_numberOfLatest 1 = .ok (.getfield 28, 3) := by decide +kernel
theorem d_m6_numberOfLatest_4 : decode b_m6_numberOfLatest 4 = .ok (.iconst 1, 1) := by decide +kernel
theorem d_m6_numberOfLatest_5 : decode b_m6_numberOfLatest 5 = .ok (.isub, 1) := by decide +kernel
theorem d_m6_numberOfLatest_6 : decode b_m6_numberOfLatest 6 = .ok (.istore 6, 2) := by decide +kernel
theorem d_m6_numberOfLatest_8 : decode b_m6_numberOfLatest 8 = .ok (.iload 6, 2) := by decide +kernel
theorem d_m6_numberOfLatest_10 : decode b_m6_numberOfLatest 10 = .ok (.ifCond .lt 51, 3) := by decide +kernel
theorem d_m6_numberOfLatest_13 : decode b_m6_numberOfLatest 13 = .ok (.aload_n 0, 1) := by decide +kernel
theorem d_m6_numberOfLatest_14 : decode b_m6_numberOfLatest 14 = .ok (.getfield 11, 3) := by decide +kernel
theorem d_m6_numberOfLatest_17 : decode b_m6_numberOfLatest 17 = .ok (.iload 6, 2) := by decide +kernel
theorem d_m6_numberOfLatest_19 : decode b_m6_numberOfLatest 19 = .ok (.aaload, 1) := by decide +kernel
theorem d_m6_numberOfLatest_20 : decode b_m6_numberOfLatest 20 = .ok (.getfield 31, 3) := by decide +kernel
theorem d_m6_numberOfLatest_23 : decode b_m6_numberOfLatest 23 = .ok (.iload_n 1, 1) := by decide +kernel
theorem d_m6_numberOfLatest_24 : decode b_m6_numberOfLatest 24 = .ok (.if_icmp .ne 31, 3) := by decide +kernel
theorem d_m6_numberOfLatest_27 : decode b_m6_numberOfLatest 27 = .ok (.aload_n 0, 1) := by decide +kernel
theorem d_m6_numberOfLatest_28 : decode b_m6_numberOfLatest 28 = .ok (.getfield 11, 3) := by decide +kernel
theorem d_m6_numberOfLatest_31 : decode b_m6_numberOfLatest 31 = .ok (.iload 6, 2) := by decide +kernel
theorem d_m6_numberOfLatest_33 : decode b_m6_numberOfLatest 33 = .ok (.aaload, 1) := by decide +kernel
theorem d_m6_numberOfLatest_34 : decode b_m6_numberOfLatest 34 = .ok (.aload_n 2, 1) := by decide +kernel
theorem d_m6_numberOfLatest_35 : decode b_m6_numberOfLatest 35 = .ok (.iload_n 3, 1) := by decide +kernel
theorem d_m6_numberOfLatest_36 : decode b_m6_numberOfLatest 36 = .ok (.iload 4, 2) := by decide +kernel
theorem d_m6_numberOfLatest_38 : decode b_m6_numberOfLatest 38 = .ok (.invokevirtual 37, 3) := by decide +kernel
theorem d_m6_numberOfLatest_41 : decode b_m6_numberOfLatest 41 = .ok (.ifCond .eq 14, 3) := by decide +kernel
theorem d_m6_numberOfLatest_44 : decode b_m6_numberOfLatest 44 = .ok (.aload_n 0, 1) := by decide +kernel
theorem d_m6_numberOfLatest_45 : decode b_m6_numberOfLatest 45 = .ok (.getfield 11, 3) := by decide +kernel
theorem d_m6_numberOfLatest_48 : decode b_m6_numberOfLatest 48 = .ok (.iload 6, 2) := by decide +kernel
theorem d_m6_numberOfLatest_50 : decode b_m6_numberOfLatest 50 = .ok (.aaload, 1) := by decide +kernel
theorem d_m6_numberOfLatest_51 : decode b_m6_numberOfLatest 51 = .ok (.getfield 34, 3) := by decide +kernel
theorem d_m6_numberOfLatest_54 : decode b_m6_numberOfLatest 54 = .ok (.ireturn, 1) := by decide +kernel
theorem d_m6_numberOfLatest_55 : decode b_m6_numberOfLatest 55 = .ok (.iinc 6 (-1), 3) := by decide +kernel
theorem d_m6_numberOfLatest_58 : decode b_m6_numberOfLatest 58 = .ok (.goto (-50), 3) := by decide +kernel
theorem d_m6_numberOfLatest_61 : decode b_m6_numberOfLatest 61 = .ok (.iload 5, 2) := by decide +kernel
theorem d_m6_numberOfLatest_63 : decode b_m6_numberOfLatest 63 = .ok (.ireturn, 1) := by decide +kernel
def s_m6_numberOfLatest_55 (k8 : Nat → Int32 → Nat → Int32 → Int32 → Int32 → Int32 → Mm → Option (Int32 × Mm)) (r0 : Nat) (x1 : Int32) (r2 : Nat) (x3 : Int32) (x4 : Int32) (x5 : Int32) (x6 : Int32) (M : Mm) : Option (Int32 × Mm) := k8 r0 x1 r2 x3 x4 x5 (x6 + (-1)) M
def s_m6_numberOfLatest_8  : Nat → Nat → Int32 → Nat → Int32 → Int32 → Int32 → Int32 → Mm → Option (Int32 × Mm)
  | 0, _, _, _, _, _, _, _, _ => none
  | n + 1, r0, x1, r2, x3, x4, x5, x6, M => (if x6 < 0 then some (x5, M) else gR M r0 16 0 (fun v1 => aR M v1 4 x6 (fun v2 => gI M v2 15 4 (fun v3 => (if ¬ v3 = x1 then s_m6_numberOfLatest_55 (s_m6_numberOfLatest_8 n) r0 x1 r2 x3 x4 x5 x6 M else gR M r0 16 0 (fun v4 => aR M v4 4 x6 (fun v5 => cl (has M v5 15) (s_m5_isSo v5 r2 x3 x4 M) (fun v6 M7 => (if v6 = 0 then s_m6_numberOfLatest_55 (s_m6_numberOfLatest_8 n) r0 x1 r2 x3 x4 x5 x6 M7 else gR M7 r0 16 0 (fun v8 => aR M7 v8 4 x6 (fun v9 => gI M7 v9 15 5 (fun v10 => some (v10, M7)))))))))))))
def s_m6_numberOfLatest (r0 : Nat) (a1 : Int32) (r2 : Nat) (a3 : Int32) (a4 : Int32) (a5 : Int32) (M : Mm) : Option (Int32 × Mm) := gI M r0 16 1 (fun v1 => s_m6_numberOfLatest_8 FU r0 a1 r2 a3 a4 a5 (v1 - (1 : Int32)) M)
set_option maxRecDepth 100000 in
set_option maxHeartbeats 4000000 in
theorem w_m6_numberOfLatest_55 {V : Ev} {C : Cx} {n0 : Nat} (hC : Cok V C y_m6_numberOfLatest.cls b_m6_numberOfLatest 7 n0 (some .int) y_m6_numberOfLatest.name) (hR : cR C = rm_m6_numberOfLatest) (k8 : Nat → Int32 → Nat → Int32 → Int32 → Int32 → Int32 → Mm → Option (Int32 × Mm)) (hk8 : ∀ (r0 : Nat) (x1 : Int32) (r2 : Nat) (x3 : Int32) (x4 : Int32) (x5 : Int32) (x6 : Int32) (M : Mm), Sm V C 7 n0 n0 (qI V C) 8 [(0, rv V.1 r0), (1, .int x1), (2, rv V.1 r2), (3, .int x3), (4, .int x4), (5, .int x5), (6, .int x6)] [] M (k8 r0 x1 r2 x3 x4 x5 x6 M)) : ∀ (r0 : Nat) (x1 : Int32) (r2 : Nat) (x3 : Int32) (x4 : Int32) (x5 : Int32) (x6 : Int32) (M : Mm), Sm V C 7 n0 n0 (qI V C) 55 [(0, rv V.1 r0), (1, .int x1), (2, rv V.1 r2), (3, .int x3), (4, .int x4), (5, .int x5), (6, .int x6)] [] M (s_m6_numberOfLatest_55 k8 r0 x1 r2 x3 x4 x5 x6 M) := by
  intro r0 x1 r2 x3 x4 x5 x6 M
  unfold s_m6_numberOfLatest_55
  refine Sm.iinc (v := x6 + (-1)) (lv' := [(6, .int (x6 + (-1))), (0, rv V.1 r0), (1, .int x1), (2, rv V.1 r2), (3, .int x3), (4, .int x4), (5, .int x5)]) hC d_m6_numberOfLatest_55 6 rfl rfl (by decide) rfl ?_
  refine Sm.goto (tgt := 8) hC d_m6_numberOfLatest_58 (by decide) ?_
  refine Sm.sub [1, 2, 3, 4, 5, 6, 0] rfl ?_
  exact hk8 r0 x1 r2 x3 x4 x5 (x6 + (-1)) M
set_option maxRecDepth 100000 in
set_option maxHeartbeats 4000000 in
theorem w_m6_numberOfLatest_8 {V : Ev} {C : Cx} {n0 : Nat} (hC : Cok V C y_m6_numberOfLatest.cls b_m6_numberOfLatest 7 n0 (some .int) y_m6_numberOfLatest.name) (hR : cR C = rm_m6_numberOfLatest)  : ∀ (n : Nat) (r0 : Nat) (x1 : Int32) (r2 : Nat) (x3 : Int32) (x4 : Int32) (x5 : Int32) (x6 : Int32) (M : Mm), Sm V C 7 n0 n0 (qI V C) 8 [(0, rv V.1 r0), (1, .int x1), (2, rv V.1 r2), (3, .int x3), (4, .int x4), (5, .int x5), (6, .int x6)] [] M (s_m6_numberOfLatest_8 n r0 x1 r2 x3 x4 x5 x6 M) := by
  intro n
  induction n with
  | zero => exact fun r0 x1 r2 x3 x4 x5 x6 M => Sm.none_
  | succ n ih =>
    intro r0 x1 r2 x3 x4 x5 x6 M
    unfold s_m6_numberOfLatest_8
    refine Sm.iload hC d_m6_numberOfLatest_8 6 rfl ?_
    refine Sm.if_lt (tgt := 61) hC d_m6_numberOfLatest_10 (by decide) ?_ ?_
    · refine Sm.iload hC d_m6_numberOfLatest_61 5 rfl ?_
      exact Sm.iret hC d_m6_numberOfLatest_63 rfl (Nat.sub_self _)
    · refine Sm.aload_n hC d_m6_numberOfLatest_13 rfl 0 rfl ?_
      refine Sm.getR hC fl_m6_11 rfl d_m6_numberOfLatest_14 (fun v1 => ?_)
      refine Sm.iload hC d_m6_numberOfLatest_17 6 rfl ?_
      refine Sm.aald (Cn := n_c5) hC ⟨by decide, by decide⟩ rfl d_m6_numberOfLatest_19 (fun v2 => ?_)
      refine Sm.getI hC fl_m6_31 rfl d_m6_numberOfLatest_20 (fun v3 => ?_)
      refine Sm.iload_n hC d_m6_numberOfLatest_23 rfl 1 rfl ?_
      refine Sm.icmp_ne (tgt := 55) hC d_m6_numberOfLatest_24 (by decide) ?_ ?_
      · exact w_m6_numberOfLatest_55 hC hR (s_m6_numberOfLatest_8 n) ih r0 x1 r2 x3 x4 x5 x6 M
      · refine Sm.aload_n hC d_m6_numberOfLatest_27 rfl 0 rfl ?_
        refine Sm.getR hC fl_m6_11 rfl d_m6_numberOfLatest_28 (fun v4 => ?_)
        refine Sm.iload hC d_m6_numberOfLatest_31 6 rfl ?_
        refine Sm.aald (Cn := n_c5) hC ⟨by decide, by decide⟩ rfl d_m6_numberOfLatest_33 (fun v5 => ?_)
        refine Sm.aload_n hC d_m6_numberOfLatest_34 rfl 2 rfl ?_
        refine Sm.iload_n hC d_m6_numberOfLatest_35 rfl 3 rfl ?_
        refine Sm.iload hC d_m6_numberOfLatest_36 4 rfl ?_
        refine Sm.callVi 5 (As := [rv V.1 r2, .int x3, .int x4]) (st := []) hC hR cw_m5_isSo (tw_i 616 (by decide +kernel)) (tw_i 594 (by decide +kernel)) (tw_i 595 (by decide +kernel)) ⟨_, rfl, rfl⟩ (fun r9 M9 h9 => ok_m5_isSo h9) rfl rfl (RW.of ⟨rfl, rfl, by decide, by decide⟩) (by simp) d_m6_numberOfLatest_38 (fun v6 M7 => ?_)
        refine Sm.if_eq (tgt := 55) hC d_m6_numberOfLatest_41 (by decide) ?_ ?_
        · exact w_m6_numberOfLatest_55 hC hR (s_m6_numberOfLatest_8 n) ih r0 x1 r2 x3 x4 x5 x6 M7
        · refine Sm.aload_n hC d_m6_numberOfLatest_44 rfl 0 rfl ?_
          refine Sm.getR hC fl_m6_11 rfl d_m6_numberOfLatest_45 (fun v8 => ?_)
          refine Sm.iload hC d_m6_numberOfLatest_48 6 rfl ?_
          refine Sm.aald (Cn := n_c5) hC ⟨by decide, by decide⟩ rfl d_m6_numberOfLatest_50 (fun v9 => ?_)
          refine Sm.getI hC fl_m6_34 rfl d_m6_numberOfLatest_51 (fun v10 => ?_)
          exact Sm.iret hC d_m6_numberOfLatest_54 rfl (Nat.sub_self _)
set_option maxRecDepth 100000 in
set_option maxHeartbeats 4000000 in
theorem ok_m6_numberOfLatest {l : Launch} {V : Ev} {M M' : Mm} {r : Int32} {r0 : Nat} {a1 : Int32} {r2 : Nat} {a3 : Int32} {a4 : Int32} {a5 : Int32} (h : s_m6_numberOfLatest r0 a1 r2 a3 a4 a5 M = some (r, M')) : Met l y_m6_numberOfLatest (Cond.code y_m6_numberOfLatest b_m6_numberOfLatest 7 (some .int) :: TW) rm_m6_numberOfLatest (va_Pc [rv V.1 r0, .int a1, rv V.1 r2, .int a3, .int a4, .int a5] (Wd V M)) (QC V (some (.int r)) M' 0) 0 0 (Af V) := by
  refine met_of (fun x : Int32 => some (.int x)) (lv0 := [(0, rv V.1 r0), (1, .int a1), (2, rv V.1 r2), (3, .int a3), (4, .int a4), (5, .int a5)]) (by decide) (by simp [lg_sl, cat_rv, cat_i, cat_l, cat_f]) (by simp [lv_args, cat_rv, cat_i, cat_l, cat_f]) (fun C hl hR hC => ?_) h
  subst hl
  generalize mN M = n0 at hC ⊢
  unfold s_m6_numberOfLatest
  refine Sm.aload_n hC d_m6_numberOfLatest_0 rfl 0 rfl ?_
  refine Sm.getI hC fl_m6_28 rfl d_m6_numberOfLatest_1 (fun v1 => ?_)
  refine Sm.iconst (v := 1) hC d_m6_numberOfLatest_4 (by decide) ?_
  refine Sm.isub hC d_m6_numberOfLatest_5 ?_
  refine Sm.istore (lv' := [(6, .int (v1 - (1 : Int32))), (0, rv V.1 r0), (1, .int a1), (2, rv V.1 r2), (3, .int a3), (4, .int a4), (5, .int a5)]) hC d_m6_numberOfLatest_6 (by decide) rfl ?_
  refine Sm.sub [1, 2, 3, 4, 5, 6, 0] rfl ?_
  exact w_m6_numberOfLatest_8 hC hR FU r0 a1 r2 a3 a4 a5 (v1 - (1 : Int32)) M
/-! NewsWire$Rules.rankOf(LNewsWire$Piece;I)I -/
theorem fl_m6_18 : FL "NewsWire$Rules" 18 3 4 0 false .int := ⟨_, _, _, _, rfl, in_c3, ty_c3, nm_c3, by decide, rfl, tw_i 308 (by decide +kernel), rfl, rfl, rfl, rfl⟩
abbrev b_m6_rankOf : ByteArray := prog_8_method_2_code
def y_m6_rankOf : MethodName := ⟨"NewsWire$Rules", "rankOf", "(LNewsWire$Piece;I)I"⟩
def rm_m6_rankOf : Room := { frames := 4, cells := 0, slots := 0, locals := 133 }
theorem cw_m6_rankOf : CW y_m6_rankOf b_m6_rankOf 3 (some .int) 2 := ⟨tw_i 56 (by decide +kernel), tw_i 611 (by decide +kernel), by decide, by decide, by decide +kernel⟩
theorem d_m6_rankOf_0 : decode b_m6_rankOf 0 = .ok (.aload_n 0, 1) := by decide +kernel
theorem d_m6_rankOf_1 : decode b_m6_rankOf 1 = .ok (.iconst 0, 1) := by decide +kernel
theorem d_m6_rankOf_2 : decode b_m6_rankOf 2 = .ok (.aload_n 1, 1) := by decide +kernel
theorem d_m6_rankOf_3 : decode b_m6_rankOf 3 = .ok (.iconst (-1), 1) := by decide +kernel
theorem d_m6_rankOf_4 : decode b_m6_rankOf 4 = .ok (.iload_n 2, 1) := by decide +kernel
theorem d_m6_rankOf_5 : decode b_m6_rankOf 5 = .ok (.aload_n 1, 1) := by decide +kernel
theorem d_m6_rankOf_6 : decode b_m6_rankOf 6 = .ok (.getfield 18, 3) := by decide +kernel
theorem d_m6_rankOf_9 : decode b_m6_rankOf 9 = .ok (.invokevirtual 24, 3) := by decide +kernel
theorem d_m6_rankOf_12 : decode b_m6_rankOf 12 = .ok (.ireturn, 1) := by decide +kernel
def s_m6_rankOf (r0 : Nat) (r1 : Nat) (a2 : Int32) (M : Mm) : Option (Int32 × Mm) := gI M r1 13 4 (fun v1 => cl (has M r0 16) (s_m6_numberOfLatest r0 (0 : Int32) r1 (-1 : Int32) a2 v1 M) (fun v2 M3 => some (v2, M3)))
set_option maxRecDepth 100000 in
set_option maxHeartbeats 4000000 in
theorem ok_m6_rankOf {l : Launch} {V : Ev} {M M' : Mm} {r : Int32} {r0 : Nat} {r1 : Nat} {a2 : Int32} (h : s_m6_rankOf r0 r1 a2 M = some (r, M')) : Met l y_m6_rankOf (Cond.code y_m6_rankOf b_m6_rankOf 3 (some .int) :: TW) rm_m6_rankOf (va_Pc [rv V.1 r0, rv V.1 r1, .int a2] (Wd V M)) (QC V (some (.int r)) M' 0) 0 0 (Af V) := by
  refine met_of (fun x : Int32 => some (.int x)) (lv0 := [(0, rv V.1 r0), (1, rv V.1 r1), (2, .int a2)]) (by decide) (by simp [lg_sl, cat_rv, cat_i, cat_l, cat_f]) (by simp [lv_args, cat_rv, cat_i, cat_l, cat_f]) (fun C hl hR hC => ?_) h
  subst hl
  generalize mN M = n0 at hC ⊢
  unfold s_m6_rankOf
  refine Sm.aload_n hC d_m6_rankOf_0 rfl 0 rfl ?_
  refine Sm.iconst (v := 0) hC d_m6_rankOf_1 (by decide) ?_
  refine Sm.aload_n hC d_m6_rankOf_2 rfl 1 rfl ?_
  refine Sm.iconst (v := -1) hC d_m6_rankOf_3 (by decide) ?_
  refine Sm.iload_n hC d_m6_rankOf_4 rfl 2 rfl ?_
  refine Sm.aload_n hC d_m6_rankOf_5 rfl 1 rfl ?_
  refine Sm.getI hC fl_m6_18 rfl d_m6_rankOf_6 (fun v1 => ?_)
  refine Sm.callVi 6 (As := [.int (0 : Int32), rv V.1 r1, .int (-1 : Int32), .int a2, .int v1]) (st := []) hC hR cw_m6_numberOfLatest (tw_i 612 (by decide +kernel)) (tw_i 614 (by decide +kernel)) (tw_i 4 (by decide +kernel)) ⟨_, rfl, rfl⟩ (fun r9 M9 h9 => ok_m6_numberOfLatest h9) rfl rfl (RW.of ⟨rfl, rfl, by decide, by decide⟩) (by simp) d_m6_rankOf_9 (fun v2 M3 => ?_)
  exact Sm.iret hC d_m6_rankOf_12 rfl (Nat.sub_self _)
/-! NewsWire$Rules.costOf(LNewsWire$Piece;II)I -/
abbrev b_m6_costOf : ByteArray := prog_8_method_3_code
def y_m6_costOf : MethodName := ⟨"NewsWire$Rules", "costOf", "(LNewsWire$Piece;II)I"⟩
def rm_m6_costOf : Room := { frames := 4, cells := 0, slots := 0, locals := 133 }
theorem cw_m6_costOf : CW y_m6_costOf b_m6_costOf 4 (some .int) 3 := ⟨tw_i 56 (by decide +kernel), tw_i 680 (by decide +kernel), by decide, by decide, by decide +kernel⟩
theorem d_m6_costOf_0 : decode b_m6_costOf 0 = .ok (.aload_n 0, 1) := by decide +kernel
theorem d_m6_costOf_1 : decode b_m6_costOf 1 = .ok (.iconst 2, 1) := by decide +kernel
theorem d_m6_costOf_2 : decode b_m6_costOf 2 = .ok (.aload_n 1, 1) := by decide +kernel
theorem d_m6_costOf_3 : decode b_m6_costOf 3 = .ok (.iload_n 2, 1) := by decide +kernel
theorem d_m6_costOf_4 : decode b_m6_costOf 4 = .ok (.iload_n 3, 1) := by decide +kernel
theorem d_m6_costOf_5 : decode b_m6_costOf 5 = .ok (.iconst 1, 1) := by decide +kernel
theorem d_m6_costOf_6 : decode b_m6_costOf 6 = .ok (.invokevirtual 24, 3) := by decide +kernel
theorem d_m6_costOf_9 : decode b_m6_costOf 9 = .ok (.ireturn, 1) := by decide +kernel
def s_m6_costOf (r0 : Nat) (r1 : Nat) (a2 : Int32) (a3 : Int32) (M : Mm) : Option (Int32 × Mm) := cl (has M r0 16) (s_m6_numberOfLatest r0 (2 : Int32) r1 a2 a3 (1 : Int32) M) (fun v1 M2 => some (v1, M2))
set_option maxRecDepth 100000 in
set_option maxHeartbeats 4000000 in
theorem ok_m6_costOf {l : Launch} {V : Ev} {M M' : Mm} {r : Int32} {r0 : Nat} {r1 : Nat} {a2 : Int32} {a3 : Int32} (h : s_m6_costOf r0 r1 a2 a3 M = some (r, M')) : Met l y_m6_costOf (Cond.code y_m6_costOf b_m6_costOf 4 (some .int) :: TW) rm_m6_costOf (va_Pc [rv V.1 r0, rv V.1 r1, .int a2, .int a3] (Wd V M)) (QC V (some (.int r)) M' 0) 0 0 (Af V) := by
  refine met_of (fun x : Int32 => some (.int x)) (lv0 := [(0, rv V.1 r0), (1, rv V.1 r1), (2, .int a2), (3, .int a3)]) (by decide) (by simp [lg_sl, cat_rv, cat_i, cat_l, cat_f]) (by simp [lv_args, cat_rv, cat_i, cat_l, cat_f]) (fun C hl hR hC => ?_) h
  subst hl
  generalize mN M = n0 at hC ⊢
  unfold s_m6_costOf
  refine Sm.aload_n hC d_m6_costOf_0 rfl 0 rfl ?_
  refine Sm.iconst (v := 2) hC d_m6_costOf_1 (by decide) ?_
  refine Sm.aload_n hC d_m6_costOf_2 rfl 1 rfl ?_
  refine Sm.iload_n hC d_m6_costOf_3 rfl 2 rfl ?_
  refine Sm.iload_n hC d_m6_costOf_4 rfl 3 rfl ?_
  refine Sm.iconst (v := 1) hC d_m6_costOf_5 (by decide) ?_
  refine Sm.callVi 6 (As := [.int (2 : Int32), rv V.1 r1, .int a2, .int a3, .int (1 : Int32)]) (st := []) hC hR cw_m6_numberOfLatest (tw_i 612 (by decide +kernel)) (tw_i 614 (by decide +kernel)) (tw_i 4 (by decide +kernel)) ⟨_, rfl, rfl⟩ (fun r9 M9 h9 => ok_m6_numberOfLatest h9) rfl rfl (RW.of ⟨rfl, rfl, by decide, by decide⟩) (by simp) d_m6_costOf_6 (fun v1 M2 => ?_)
  exact Sm.iret hC d_m6_costOf_9 rfl (Nat.sub_self _)
/-! NewsWire$Rules.bar(LNewsWire$Piece;II)Z -/
abbrev b_m6_bar : ByteArray := prog_8_method_4_code
def y_m6_bar : MethodName := ⟨"NewsWire$Rules", "bar", "(LNewsWire$Piece;II)Z"⟩
def rm_m6_bar : Room := { frames := 3, cells := 0, slots := 0, locals := 107 }
theorem cw_m6_bar : CW y_m6_bar b_m6_bar 6 (some .boolean) 3 := ⟨tw_i 56 (by decide +kernel), tw_i 624 (by decide +kernel), by decide, by decide, by decide +kernel⟩
theorem d_m6_bar_0 : decode b_m6_bar 0 = .ok (.iconst 0, 1) := by decide +kernel
theorem d_m6_bar_1 : decode b_m6_bar 1 = .ok (.istore 4, 2) := by decide +kernel
theorem d_m6_bar_3 : decode b_m6_bar 3 = .ok (.iload 4, 2) := by decide +kernel
theorem d_m6_bar_5 : decode b_m6_bar 5 = .ok (.aload_n 0, 1) := by decide +kernel
theorem d_m6_bar_6 : decode b_m6_bar 6 = .ok (.getfield 28, 3) := by decide +kernel
theorem d_m6_bar_9 : decode b_m6_bar 9 = .ok (.if_icmp .ge 49, 3) := by decide +kernel
theorem d_m6_bar_12 : decode b_m6_bar 12 = .ok (.aload_n 0, 1) := by decide +kernel
theorem d_m6_bar_13 : decode b_m6_bar 13 = .ok (.getfield 11, 3) := by decide +kernel
theorem d_m6_bar_16 : decode b_m6_bar 16 = .ok (.iload 4, 2) := by decide +kernel
theorem d_m6_bar_18 : decode b_m6_bar 18 = .ok (.aaload, 1) := by decide +kernel
theorem d_m6_bar_19 : decode b_m6_bar 19 = .ok (.astore 5, 2) := by decide +kernel
theorem d_m6_bar_21 : decode b_m6_bar 21 = .ok (.aload 5, 2) := by decide +kernel
theorem d_m6_bar_23 : decode b_m6_bar 23 = .ok (.getfield 31, 3) := by decide +kernel
theorem d_m6_bar_26 : decode b_m6_bar 26 = .ok (.iconst 1, 1) := by decide +kernel
theorem d_m6_bar_27 : decode b_m6_bar 27 = .ok (.if_icmp .ne 25, 3) := by decide +kernel
theorem d_m6_bar_30 : decode b_m6_bar 30 = .ok (.aload 5, 2) := by decide +kernel
theorem d_m6_bar_32 : decode b_m6_bar 32 = .ok (.getfield 34, 3) := by decide +kernel
theorem d_m6_bar_35 : decode b_m6_bar 35 = .ok (.iload_n 2, 1) := by decide +kernel
theorem d_m6_bar_36 : decode b_m6_bar 36 = .ok (.if_icmp .ne 16, 3) := by decide +kernel
theorem d_m6_bar_39 : decode b_m6_bar 39 = .ok (.aload 5, 2) := by decide +kernel
theorem d_m6_bar_41 : decode b_m6_bar 41 = .ok (.aload_n 1, 1) := by decide +kernel
theorem d_m6_bar_42 : decode b_m6_bar 42 = .ok (.iload_n 2, 1) := by decide +kernel
theorem d_m6_bar_43 : decode b_m6_bar 43 = .ok (.iload_n 3, 1) := by decide +kernel
theorem d_m6_bar_44 : decode b_m6_bar 44 = .ok (.invokevirtual 37, 3) := by decide +kernel
theorem d_m6_bar_47 : decode b_m6_bar 47 = .ok (.ifCond .eq 5, 3) := by decide +kernel
theorem d_m6_bar_50 : decode b_m6_bar 50 = .ok (.iconst 1, 1) := by decide +kernel
theorem d_m6_bar_51 : decode b_m6_bar 51 = .ok (.ireturn, 1) := by decide +kernel
theorem d_m6_bar_52 : decode b_m6_bar 52 = .ok (.iinc 4 1, 3) := by decide +kernel
theorem d_m6_bar_55 : decode b_m6_bar 55 = .ok (.goto (-52), 3) := by decide +kernel
theorem d_m6_bar_58 : decode b_m6_bar 58 = .ok (.iconst 0, 1) := by decide +kernel
theorem d_m6_bar_59 : decode b_m6_bar 59 = .ok (.ireturn, 1) := by decide +kernel
def s_m6_bar_52 (k3 : Nat → Nat → Int32 → Int32 → Int32 → Mm → Option (Int32 × Mm)) (r0 : Nat) (r1 : Nat) (x2 : Int32) (x3 : Int32) (x4 : Int32) (M : Mm) : Option (Int32 × Mm) := k3 r0 r1 x2 x3 (x4 + 1) M
def s_m6_bar_3  : Nat → Nat → Nat → Int32 → Int32 → Int32 → Mm → Option (Int32 × Mm)
  | 0, _, _, _, _, _, _ => none
  | n + 1, r0, r1, x2, x3, x4, M => gI M r0 16 1 (fun v1 => (if v1 ≤ x4 then rz (0 : Int32) (some ((0 : Int32), M)) else gR M r0 16 0 (fun v2 => aR M v2 4 x4 (fun v3 => gI M v3 15 4 (fun v4 => (if ¬ v4 = (1 : Int32) then s_m6_bar_52 (s_m6_bar_3 n) r0 r1 x2 x3 x4 M else gI M v3 15 5 (fun v5 => (if ¬ v5 = x2 then s_m6_bar_52 (s_m6_bar_3 n) r0 r1 x2 x3 x4 M else cl (has M v3 15) (s_m5_isSo v3 r1 x2 x3 M) (fun v6 M7 => (if v6 = 0 then s_m6_bar_52 (s_m6_bar_3 n) r0 r1 x2 x3 x4 M7 else rz (1 : Int32) (some ((1 : Int32), M7))))))))))))
def s_m6_bar (r0 : Nat) (r1 : Nat) (a2 : Int32) (a3 : Int32) (M : Mm) : Option (Int32 × Mm) := s_m6_bar_3 FU r0 r1 a2 a3 (0 : Int32) M
set_option maxRecDepth 100000 in
set_option maxHeartbeats 4000000 in
theorem w_m6_bar_52 {V : Ev} {C : Cx} {n0 : Nat} (hC : Cok V C y_m6_bar.cls b_m6_bar 6 n0 (some .boolean) y_m6_bar.name) (hR : cR C = rm_m6_bar) (k3 : Nat → Nat → Int32 → Int32 → Int32 → Mm → Option (Int32 × Mm)) (hk3 : ∀ (r0 : Nat) (r1 : Nat) (x2 : Int32) (x3 : Int32) (x4 : Int32) (M : Mm), Sm V C 6 n0 n0 (qI V C) 3 [(0, rv V.1 r0), (1, rv V.1 r1), (2, .int x2), (3, .int x3), (4, .int x4)] [] M (k3 r0 r1 x2 x3 x4 M)) : ∀ (r0 : Nat) (r1 : Nat) (x2 : Int32) (x3 : Int32) (x4 : Int32) (M : Mm), Sm V C 6 n0 n0 (qI V C) 52 [(0, rv V.1 r0), (1, rv V.1 r1), (2, .int x2), (3, .int x3), (4, .int x4)] [] M (s_m6_bar_52 k3 r0 r1 x2 x3 x4 M) := by
  intro r0 r1 x2 x3 x4 M
  unfold s_m6_bar_52
  refine Sm.iinc (v := x4 + 1) (lv' := [(4, .int (x4 + 1)), (0, rv V.1 r0), (1, rv V.1 r1), (2, .int x2), (3, .int x3)]) hC d_m6_bar_52 4 rfl rfl (by decide) rfl ?_
  refine Sm.goto (tgt := 3) hC d_m6_bar_55 (by decide) ?_
  refine Sm.sub [1, 2, 3, 4, 0] rfl ?_
  exact hk3 r0 r1 x2 x3 (x4 + 1) M
set_option maxRecDepth 100000 in
set_option maxHeartbeats 4000000 in
theorem w_m6_bar_3 {V : Ev} {C : Cx} {n0 : Nat} (hC : Cok V C y_m6_bar.cls b_m6_bar 6 n0 (some .boolean) y_m6_bar.name) (hR : cR C = rm_m6_bar)  : ∀ (n : Nat) (r0 : Nat) (r1 : Nat) (x2 : Int32) (x3 : Int32) (x4 : Int32) (M : Mm), Sm V C 6 n0 n0 (qI V C) 3 [(0, rv V.1 r0), (1, rv V.1 r1), (2, .int x2), (3, .int x3), (4, .int x4)] [] M (s_m6_bar_3 n r0 r1 x2 x3 x4 M) := by
  intro n
  induction n with
  | zero => exact fun r0 r1 x2 x3 x4 M => Sm.none_
  | succ n ih =>
    intro r0 r1 x2 x3 x4 M
    unfold s_m6_bar_3
    refine Sm.iload hC d_m6_bar_3 4 rfl ?_
    refine Sm.aload_n hC d_m6_bar_5 rfl 0 rfl ?_
    refine Sm.getI hC fl_m6_28 rfl d_m6_bar_6 (fun v1 => ?_)
    refine Sm.icmp_ge (tgt := 58) hC d_m6_bar_9 (by decide) ?_ ?_
    · refine Sm.iconst (v := 0) hC d_m6_bar_58 (by decide) ?_
      exact Sm.zret hC d_m6_bar_59 rfl (Nat.sub_self _)
    · refine Sm.aload_n hC d_m6_bar_12 rfl 0 rfl ?_
      refine Sm.getR hC fl_m6_11 rfl d_m6_bar_13 (fun v2 => ?_)
      refine Sm.iload hC d_m6_bar_16 4 rfl ?_
      refine Sm.aald (Cn := n_c5) hC ⟨by decide, by decide⟩ rfl d_m6_bar_18 (fun v3 => ?_)
      refine Sm.astore (lv' := [(5, rv V.1 v3), (0, rv V.1 r0), (1, rv V.1 r1), (2, .int x2), (3, .int x3), (4, .int x4)]) hC d_m6_bar_19 (by decide) rfl ?_
      refine Sm.aload hC d_m6_bar_21 0 rfl ?_
      refine Sm.getI hC fl_m6_31 rfl d_m6_bar_23 (fun v4 => ?_)
      refine Sm.iconst (v := 1) hC d_m6_bar_26 (by decide) ?_
      refine Sm.icmp_ne (tgt := 52) hC d_m6_bar_27 (by decide) ?_ ?_
      · refine Sm.sub [1, 2, 3, 4, 5] rfl ?_
        exact w_m6_bar_52 hC hR (s_m6_bar_3 n) ih r0 r1 x2 x3 x4 M
      · refine Sm.aload hC d_m6_bar_30 0 rfl ?_
        refine Sm.getI hC fl_m6_34 rfl d_m6_bar_32 (fun v5 => ?_)
        refine Sm.iload_n hC d_m6_bar_35 rfl 3 rfl ?_
        refine Sm.icmp_ne (tgt := 52) hC d_m6_bar_36 (by decide) ?_ ?_
        · refine Sm.sub [1, 2, 3, 4, 5] rfl ?_
          exact w_m6_bar_52 hC hR (s_m6_bar_3 n) ih r0 r1 x2 x3 x4 M
        · refine Sm.aload hC d_m6_bar_39 0 rfl ?_
          refine Sm.aload_n hC d_m6_bar_41 rfl 2 rfl ?_
          refine Sm.iload_n hC d_m6_bar_42 rfl 3 rfl ?_
          refine Sm.iload_n hC d_m6_bar_43 rfl 4 rfl ?_
          refine Sm.callVi 5 (As := [rv V.1 r1, .int x2, .int x3]) (st := []) hC hR cw_m5_isSo (tw_i 616 (by decide +kernel)) (tw_i 594 (by decide +kernel)) (tw_i 595 (by decide +kernel)) ⟨_, rfl, rfl⟩ (fun r9 M9 h9 => ok_m5_isSo h9) rfl rfl (RW.of ⟨rfl, rfl, by decide, by decide⟩) (by simp) d_m6_bar_44 (fun v6 M7 => ?_)
          refine Sm.if_eq (tgt := 52) hC d_m6_bar_47 (by decide) ?_ ?_
          · refine Sm.sub [1, 2, 3, 4, 5] rfl ?_
            exact w_m6_bar_52 hC hR (s_m6_bar_3 n) ih r0 r1 x2 x3 x4 M7
          · refine Sm.iconst (v := 1) hC d_m6_bar_50 (by decide) ?_
            exact Sm.zret hC d_m6_bar_51 rfl (Nat.sub_self _)
set_option maxRecDepth 100000 in
set_option maxHeartbeats 4000000 in
theorem ok_m6_bar {l : Launch} {V : Ev} {M M' : Mm} {r : Int32} {r0 : Nat} {r1 : Nat} {a2 : Int32} {a3 : Int32} (h : s_m6_bar r0 r1 a2 a3 M = some (r, M')) : Met l y_m6_bar (Cond.code y_m6_bar b_m6_bar 6 (some .boolean) :: TW) rm_m6_bar (va_Pc [rv V.1 r0, rv V.1 r1, .int a2, .int a3] (Wd V M)) (QC V (some (.int r)) M' 0) 0 0 (Af V) := by
  refine met_of (fun x : Int32 => some (.int x)) (lv0 := [(0, rv V.1 r0), (1, rv V.1 r1), (2, .int a2), (3, .int a3)]) (by decide) (by simp [lg_sl, cat_rv, cat_i, cat_l, cat_f]) (by simp [lv_args, cat_rv, cat_i, cat_l, cat_f]) (fun C hl hR hC => ?_) h
  subst hl
  generalize mN M = n0 at hC ⊢
  unfold s_m6_bar
  refine Sm.iconst (v := 0) hC d_m6_bar_0 (by decide) ?_
  refine Sm.istore (lv' := [(4, .int (0 : Int32)), (0, rv V.1 r0), (1, rv V.1 r1), (2, .int a2), (3, .int a3)]) hC d_m6_bar_1 (by decide) rfl ?_
  refine Sm.sub [1, 2, 3, 4, 0] rfl ?_
  exact w_m6_bar_3 hC hR FU r0 r1 a2 a3 (0 : Int32) M
/-! NewsWire$StoryText.findThere(ILNewsWire$Paper;I)V -/
theorem fl_m7_20 : FL "NewsWire$StoryText" 20 7 2 2 false (.array (.object "NewsWire$Piece")) := ⟨_, _, _, _, rfl, in_c7, ty_c7, nm_c7, by decide, rfl, tw_i 169 (by decide +kernel), rfl, rfl, rfl, rfl⟩
theorem fl_m7_83 : FL "NewsWire$StoryText" 83 7 5 1 false .long := ⟨_, _, _, _, rfl, in_c7, ty_c7, nm_c7, by decide, rfl, tw_i 172 (by decide +kernel), rfl, rfl, rfl, rfl⟩
theorem fl_m7_69 : FL "NewsWire$StoryText" 69 3 2 0 false .int := ⟨_, _, _, _, rfl, in_c3, ty_c3, nm_c3, by decide, rfl, tw_i 304 (by decide +kernel), rfl, rfl, rfl, rfl⟩
theorem fl_m7_72 : FL "NewsWire$StoryText" 72 3 1 0 false .int := ⟨_, _, _, _, rfl, in_c3, ty_c3, nm_c3, by decide, rfl, tw_i 301 (by decide +kernel), rfl, rfl, rfl, rfl⟩
theorem fl_m7_78 : FL "NewsWire$StoryText" 78 3 6 0 false .int := ⟨_, _, _, _, rfl, in_c3, ty_c3, nm_c3, by decide, rfl, tw_i 314 (by decide +kernel), rfl, rfl, rfl, rfl⟩
theorem fl_m7_75 : FL "NewsWire$StoryText" 75 3 7 0 false .int := ⟨_, _, _, _, rfl, in_c3, ty_c3, nm_c3, by decide, rfl, tw_i 316 (by decide +kernel), rfl, rfl, rfl, rfl⟩
abbrev b_m7_findThere : ByteArray := prog_9_method_4_code
def y_m7_findThere : MethodName := ⟨"NewsWire$StoryText", "findThere", "(ILNewsWire$Paper;I)V"⟩
def rm_m7_findThere : Room := { frames := 2, cells := 0, slots := 0, locals := 82 }
theorem cw_m7_findThere : CW y_m7_findThere b_m7_findThere 11 none 3 := ⟨tw_i 59 (by decide +kernel), tw_i 732 (by decide +kernel), by decide, by decide, by decide +kernel⟩
theorem d_m7_findThere_0 : decode b_m7_findThere 0 = .ok (.lconst 0, 1) := by decide +kernel
theorem d_m7_findThere_1 : decode b_m7_findThere 1 = .ok (.lstore 4, 2) := by decide +kernel
theorem d_m7_findThere_3 : decode b_m7_findThere 3 = .ok (.lconst 0, 1) := by decide +kernel
theorem d_m7_findThere_4 : decode b_m7_findThere 4 = .ok (.lstore 6, 2) := by decide +kernel
theorem d_m7_findThere_6 : decode b_m7_findThere 6 = .ok (.iconst 0, 1) := by decide +kernel
theorem d_m7_findThere_7 : decode b_m7_findThere 7 = .ok (.istore 8, 2) := by decide +kernel
theorem d_m7_findThere_9 : decode b_m7_findThere 9 = .ok (.iload 8, 2) := by decide +kernel
theorem d_m7_findThere_11 : decode b_m7_findThere 11 = .ok (.aload_n 0, 1) := by decide +kernel
theorem d_m7_findThere_12 : decode b_m7_findThere 12 = .ok (.getfield 20, 3) := by decide +kernel
theorem d_m7_findThere_15 : decode b_m7_findThere 15 = .ok (.arraylength, 1) := by decide +kernel
theorem d_m7_findThere_16 : decode b_m7_findThere 16 = .ok (.if_icmp .ge 105, 3) := by decide +kernel
theorem d_m7_findThere_19 : decode b_m7_findThere 19 = .ok (.aload_n 0, 1) := by decide +kernel
theorem d_m7_findThere_20 : decode b_m7_findThere 20 = .ok (.getfield 20, 3) := by decide +kernel
theorem d_m7_findThere_23 : decode b_m7_findThere 23 = .ok (.iload 8, 2) := by decide +kernel
theorem d_m7_findThere_25 : decode b_m7_findThere 25 = .ok (.aaload, 1) := by decide +kernel
theorem d_m7_findThere_26 : decode b_m7_findThere 26 = .ok (.astore 9, 2) := by decide +kernel
theorem d_m7_findThere_28 : decode b_m7_findThere 28 = .ok (.aload_n 2, 1) := by decide +kernel
theorem d_m7_findThere_29 : decode b_m7_findThere 29 = .ok (.iload 8, 2) := by decide +kernel
theorem d_m7_findThere_31 : decode b_m7_findThere 31 = .ok (.iload_n 3, 1) := by decide +kernel
theorem d_m7_findThere_32 : decode b_m7_findThere 32 = .ok (.invokevirtual 63, 3) := by decide +kernel
theorem d_m7_findThere_35 : decode b_m7_findThere 35 = .ok (.ifCond .eq 80, 3) := by decide +kernel
theorem d_m7_findThere_38 : decode b_m7_findThere 38 = .ok (.aload 9, 2) := by decide +kernel
theorem d_m7_findThere_40 : decode b_m7_findThere 40 = .ok (.getfield 69, 3) := by decide +kernel
theorem d_m7_findThere_43 : decode b_m7_findThere 43 = .ok (.iload_n 1, 1) := by decide +kernel
theorem d_m7_findThere_44 : decode b_m7_findThere 44 = .ok (.if_icmp .ne 71, 3) := by decide +kernel
theorem d_m7_findThere_47 : decode b_m7_findThere 47 = .ok (.aload 9, 2) := by decide +kernel
theorem d_m7_findThere_49 : decode b_m7_findThere 49 = .ok (.getfield 72, 3) := by decide +kernel
theorem d_m7_findThere_52 : decode b_m7_findThere 52 = .ok (.iconst 5, 1) := by decide +kernel
theorem d_m7_findThere_53 : decode b_m7_findThere 53 = .ok (.if_icmp .ne 16, 3) := by decide +kernel
theorem d_m7_findThere_56 : decode b_m7_findThere 56 = .ok (.iload_n 3, 1) := by decide +kernel
theorem d_m7_findThere_57 : decode b_m7_findThere 57 = .ok (.aload 9, 2) := by decide +kernel
theorem d_m7_findThere_59 : decode b_m7_findThere 59 = .ok (.getfield 75, 3) := by decide +kernel
theorem d_m7_findThere_62 : decode b_m7_findThere 62 = .ok (.if_icmp .ge 7, 3) := by decide +kernel
theorem d_m7_findThere_65 : decode b_m7_findThere 65 = .ok (.iconst 1, 1) := by decide +kernel
theorem d_m7_findThere_66 : decode b_m7_findThere 66 = .ok (.goto 4, 3) := by decide +kernel
theorem d_m7_findThere_69 : decode b_m7_findThere 69 = .ok (.iconst 0, 1) := by decide +kernel
theorem d_m7_findThere_70 : decode b_m7_findThere 70 = .ok (.istore 10, 2) := by decide +kernel
theorem d_m7_findThere_72 : decode b_m7_findThere 72 = .ok (.lload 4, 2) := by decide +kernel
theorem d_m7_findThere_74 : decode b_m7_findThere 74 = .ok (.iload 10, 2) := by decide +kernel
theorem d_m7_findThere_76 : decode b_m7_findThere 76 = .ok (.ifCond .eq 7, 3) := by decide +kernel
theorem d_m7_findThere_79 : decode b_m7_findThere 79 = .ok (.lconst 0, 1) := by decide +kernel
theorem d_m7_findThere_80 : decode b_m7_findThere 80 = .ok (.goto 7, 3) := by decide +kernel
theorem d_m7_findThere_83 : decode b_m7_findThere 83 = .ok (.lconst 1, 1) := by decide +kernel
theorem d_m7_findThere_84 : decode b_m7_findThere 84 = .ok (.iload 8, 2) := by decide +kernel
theorem d_m7_findThere_86 : decode b_m7_findThere 86 = .ok (.lshl, 1) := by decide +kernel
theorem d_m7_findThere_87 : decode b_m7_findThere 87 = .ok (.lor, 1) := by decide +kernel
theorem d_m7_findThere_88 : decode b_m7_findThere 88 = .ok (.lstore 4, 2) := by decide +kernel
theorem d_m7_findThere_90 : decode b_m7_findThere 90 = .ok (.lload 6, 2) := by decide +kernel
theorem d_m7_findThere_92 : decode b_m7_findThere 92 = .ok (.aload 9, 2) := by decide +kernel
theorem d_m7_findThere_94 : decode b_m7_findThere 94 = .ok (.getfield 72, 3) := by decide +kernel
theorem d_m7_findThere_97 : decode b_m7_findThere 97 = .ok (.iconst 4, 1) := by decide +kernel
theorem d_m7_findThere_98 : decode b_m7_findThere 98 = .ok (.if_icmp .ne 13, 3) := by decide +kernel
theorem d_m7_findThere_101 : decode b_m7_findThere 101 = .ok (.lconst 1, 1) := by decide +kernel
theorem d_m7_findThere_102 : decode b_m7_findThere 102 = .ok (.aload 9, 2) := by decide +kernel
theorem d_m7_findThere_104 : decode b_m7_findThere 104 = .ok (.getfield 78, 3) := by decide +kernel
theorem d_m7_findThere_107 : decode b_m7_findThere 107 = .ok (.lshl, 1) := by decide +kernel
theorem d_m7_findThere_108 : decode b_m7_findThere 108 = .ok (.goto 4, 3) := by decide +kernel
theorem d_m7_findThere_111 : decode b_m7_findThere 111 = .ok (.lconst 0, 1) := by decide +kernel
theorem d_m7_findThere_112 : decode b_m7_findThere 112 = .ok (.lor, 1) := by decide +kernel
theorem d_m7_findThere_113 : decode b_m7_findThere 113 = .ok (.lstore 6, 2) := by decide +kernel
theorem d_m7_findThere_115 : decode b_m7_findThere 115 = .ok (.iinc 8 1, 3) := by decide +kernel
theorem d_m7_findThere_118 : decode b_m7_findThere 118 = .ok (.goto (-109), 3) := by decide +kernel
theorem d_m7_findThere_121 : decode b_m7_findThere 121 = .ok (.aload_n 0, 1) := by decide +kernel
theorem d_m7_findThere_122 : decode b_m7_findThere 122 = .ok (.lload 4, 2) := by decide +kernel
theorem d_m7_findThere_124 : decode b_m7_findThere 124 = .ok (.lload 6, 2) := by decide +kernel
theorem d_m7_findThere_126 : decode b_m7_findThere 126 = .ok (.ldc2_w 81, 3) := by decide +kernel
theorem d_m7_findThere_129 : decode b_m7_findThere 129 = .ok (.lxor, 1) := by decide +kernel
theorem d_m7_findThere_130 : decode b_m7_findThere 130 = .ok (.land, 1) := by decide +kernel
theorem d_m7_findThere_131 : decode b_m7_findThere 131 = .ok (.putfield 83, 3) := by decide +kernel
theorem d_m7_findThere_134 : decode b_m7_findThere 134 = .ok (.return_, 1) := by decide +kernel
def s_m7_findThere_115 (k9 : Nat → Int32 → Nat → Int32 → Int64 → Int64 → Int32 → Mm → Option (Unit × Mm)) (r0 : Nat) (x1 : Int32) (r2 : Nat) (x3 : Int32) (l4 : Int64) (l6 : Int64) (x8 : Int32) (M : Mm) : Option (Unit × Mm) := k9 r0 x1 r2 x3 l4 l6 (x8 + 1) M
def s_m7_findThere_112 (k9 : Nat → Int32 → Nat → Int32 → Int64 → Int64 → Int32 → Mm → Option (Unit × Mm)) (r0 : Nat) (x1 : Int32) (r2 : Nat) (x3 : Int32) (l4 : Int64) (x8 : Int32) (t0 : Int64) (t1 : Int64) (M : Mm) : Option (Unit × Mm) := s_m7_findThere_115 k9 r0 x1 r2 x3 l4 (t0 ||| t1) x8 M
def s_m7_findThere_87 (k9 : Nat → Int32 → Nat → Int32 → Int64 → Int64 → Int32 → Mm → Option (Unit × Mm)) (r0 : Nat) (x1 : Int32) (r2 : Nat) (x3 : Int32) (l6 : Int64) (x8 : Int32) (r9 : Nat) (t0 : Int64) (t1 : Int64) (M : Mm) : Option (Unit × Mm) := gI M r9 13 1 (fun v1 => (if ¬ v1 = (4 : Int32) then s_m7_findThere_112 k9 r0 x1 r2 x3 (t0 ||| t1) x8 l6 (0 : Int64) M else gI M r9 13 6 (fun v2 => s_m7_findThere_112 k9 r0 x1 r2 x3 (t0 ||| t1) x8 l6 ((1 : Int64) <<< (v2.toInt64 &&& 63)) M)))
def s_m7_findThere_70 (k9 : Nat → Int32 → Nat → Int32 → Int64 → Int64 → Int32 → Mm → Option (Unit × Mm)) (r0 : Nat) (x1 : Int32) (r2 : Nat) (x3 : Int32) (l4 : Int64) (l6 : Int64) (x8 : Int32) (r9 : Nat) (t0 : Int32) (M : Mm) : Option (Unit × Mm) := (if t0 = 0 then s_m7_findThere_87 k9 r0 x1 r2 x3 l6 x8 r9 l4 ((1 : Int64) <<< (x8.toInt64 &&& 63)) M else s_m7_findThere_87 k9 r0 x1 r2 x3 l6 x8 r9 l4 (0 : Int64) M)
def s_m7_findThere_69 (k9 : Nat → Int32 → Nat → Int32 → Int64 → Int64 → Int32 → Mm → Option (Unit × Mm)) (r0 : Nat) (x1 : Int32) (r2 : Nat) (x3 : Int32) (l4 : Int64) (l6 : Int64) (x8 : Int32) (r9 : Nat) (M : Mm) : Option (Unit × Mm) := s_m7_findThere_70 k9 r0 x1 r2 x3 l4 l6 x8 r9 (0 : Int32) M
def s_m7_findThere_9  : Nat → Nat → Int32 → Nat → Int32 → Int64 → Int64 → Int32 → Mm → Option (Unit × Mm)
  | 0, _, _, _, _, _, _, _, _ => none
  | n + 1, r0, x1, r2, x3, l4, l6, x8, M => gR M r0 17 2 (fun v1 => al M v1 3 (fun v2 => (if v2 ≤ x8 then pL M r0 17 5 (l4 &&& (l6 ^^^ (-1 : Int64))) (fun M3 => some ((), M3)) else gR M r0 17 2 (fun v4 => aR M v4 3 x8 (fun v5 => cl (has M r2 12) (s_m2_hadBy r2 x8 x3 M) (fun v6 M7 => (if v6 = 0 then s_m7_findThere_115 (s_m7_findThere_9 n) r0 x1 r2 x3 l4 l6 x8 M7 else gI M7 v5 13 2 (fun v8 => (if ¬ v8 = x1 then s_m7_findThere_115 (s_m7_findThere_9 n) r0 x1 r2 x3 l4 l6 x8 M7 else gI M7 v5 13 1 (fun v9 => (if ¬ v9 = (5 : Int32) then s_m7_findThere_69 (s_m7_findThere_9 n) r0 x1 r2 x3 l4 l6 x8 v5 M7 else gI M7 v5 13 7 (fun v10 => (if v10 ≤ x3 then s_m7_findThere_69 (s_m7_findThere_9 n) r0 x1 r2 x3 l4 l6 x8 v5 M7 else s_m7_findThere_70 (s_m7_findThere_9 n) r0 x1 r2 x3 l4 l6 x8 v5 (1 : Int32) M7)))))))))))))
def s_m7_findThere (r0 : Nat) (a1 : Int32) (r2 : Nat) (a3 : Int32) (M : Mm) : Option (Unit × Mm) := s_m7_findThere_9 FU r0 a1 r2 a3 (0 : Int64) (0 : Int64) (0 : Int32) M
set_option maxRecDepth 100000 in
set_option maxHeartbeats 4000000 in
theorem w_m7_findThere_115 {V : Ev} {C : Cx} {n0 : Nat} (hC : Cok V C y_m7_findThere.cls b_m7_findThere 11 n0 none y_m7_findThere.name) (hR : cR C = rm_m7_findThere) (k9 : Nat → Int32 → Nat → Int32 → Int64 → Int64 → Int32 → Mm → Option (Unit × Mm)) (hk9 : ∀ (r0 : Nat) (x1 : Int32) (r2 : Nat) (x3 : Int32) (l4 : Int64) (l6 : Int64) (x8 : Int32) (M : Mm), Sm V C 11 n0 n0 (qV V C) 9 [(0, rv V.1 r0), (1, .int x1), (2, rv V.1 r2), (3, .int x3), (4, .long l4), (6, .long l6), (8, .int x8)] [] M (k9 r0 x1 r2 x3 l4 l6 x8 M)) : ∀ (r0 : Nat) (x1 : Int32) (r2 : Nat) (x3 : Int32) (l4 : Int64) (l6 : Int64) (x8 : Int32) (M : Mm), Sm V C 11 n0 n0 (qV V C) 115 [(0, rv V.1 r0), (1, .int x1), (2, rv V.1 r2), (3, .int x3), (4, .long l4), (6, .long l6), (8, .int x8)] [] M (s_m7_findThere_115 k9 r0 x1 r2 x3 l4 l6 x8 M) := by
  intro r0 x1 r2 x3 l4 l6 x8 M
  unfold s_m7_findThere_115
  refine Sm.iinc (v := x8 + 1) (lv' := [(8, .int (x8 + 1)), (0, rv V.1 r0), (1, .int x1), (2, rv V.1 r2), (3, .int x3), (4, .long l4), (6, .long l6)]) hC d_m7_findThere_115 6 rfl rfl (by decide) rfl ?_
  refine Sm.goto (tgt := 9) hC d_m7_findThere_118 (by decide) ?_
  refine Sm.sub [1, 2, 3, 4, 5, 6, 0] rfl ?_
  exact hk9 r0 x1 r2 x3 l4 l6 (x8 + 1) M
set_option maxRecDepth 100000 in
set_option maxHeartbeats 4000000 in
theorem w_m7_findThere_112 {V : Ev} {C : Cx} {n0 : Nat} (hC : Cok V C y_m7_findThere.cls b_m7_findThere 11 n0 none y_m7_findThere.name) (hR : cR C = rm_m7_findThere) (k9 : Nat → Int32 → Nat → Int32 → Int64 → Int64 → Int32 → Mm → Option (Unit × Mm)) (hk9 : ∀ (r0 : Nat) (x1 : Int32) (r2 : Nat) (x3 : Int32) (l4 : Int64) (l6 : Int64) (x8 : Int32) (M : Mm), Sm V C 11 n0 n0 (qV V C) 9 [(0, rv V.1 r0), (1, .int x1), (2, rv V.1 r2), (3, .int x3), (4, .long l4), (6, .long l6), (8, .int x8)] [] M (k9 r0 x1 r2 x3 l4 l6 x8 M)) : ∀ (r0 : Nat) (x1 : Int32) (r2 : Nat) (x3 : Int32) (l4 : Int64) (x8 : Int32) (t0 : Int64) (t1 : Int64) (M : Mm), Sm V C 11 n0 n0 (qV V C) 112 [(0, rv V.1 r0), (1, .int x1), (2, rv V.1 r2), (3, .int x3), (4, .long l4), (8, .int x8)] [.long t1, .long t0] M (s_m7_findThere_112 k9 r0 x1 r2 x3 l4 x8 t0 t1 M) := by
  intro r0 x1 r2 x3 l4 x8 t0 t1 M
  unfold s_m7_findThere_112
  refine Sm.lor hC d_m7_findThere_112 ?_
  refine Sm.lstore (lv' := [(6, .long (t0 ||| t1)), (0, rv V.1 r0), (1, .int x1), (2, rv V.1 r2), (3, .int x3), (4, .long l4), (8, .int x8)]) hC d_m7_findThere_113 (by decide) rfl ?_
  refine Sm.sub [1, 2, 3, 4, 5, 0, 6] rfl ?_
  exact w_m7_findThere_115 hC hR k9 hk9 r0 x1 r2 x3 l4 (t0 ||| t1) x8 M
set_option maxRecDepth 100000 in
set_option maxHeartbeats 4000000 in
theorem w_m7_findThere_87 {V : Ev} {C : Cx} {n0 : Nat} (hC : Cok V C y_m7_findThere.cls b_m7_findThere 11 n0 none y_m7_findThere.name) (hR : cR C = rm_m7_findThere) (k9 : Nat → Int32 → Nat → Int32 → Int64 → Int64 → Int32 → Mm → Option (Unit × Mm)) (hk9 : ∀ (r0 : Nat) (x1 : Int32) (r2 : Nat) (x3 : Int32) (l4 : Int64) (l6 : Int64) (x8 : Int32) (M : Mm), Sm V C 11 n0 n0 (qV V C) 9 [(0, rv V.1 r0), (1, .int x1), (2, rv V.1 r2), (3, .int x3), (4, .long l4), (6, .long l6), (8, .int x8)] [] M (k9 r0 x1 r2 x3 l4 l6 x8 M)) : ∀ (r0 : Nat) (x1 : Int32) (r2 : Nat) (x3 : Int32) (l6 : Int64) (x8 : Int32) (r9 : Nat) (t0 : Int64) (t1 : Int64) (M : Mm), Sm V C 11 n0 n0 (qV V C) 87 [(0, rv V.1 r0), (1, .int x1), (2, rv V.1 r2), (3, .int x3), (6, .long l6), (8, .int x8), (9, rv V.1 r9)] [.long t1, .long t0] M (s_m7_findThere_87 k9 r0 x1 r2 x3 l6 x8 r9 t0 t1 M) := by
  intro r0 x1 r2 x3 l6 x8 r9 t0 t1 M
  unfold s_m7_findThere_87
  refine Sm.lor hC d_m7_findThere_87 ?_
  refine Sm.lstore (lv' := [(4, .long (t0 ||| t1)), (0, rv V.1 r0), (1, .int x1), (2, rv V.1 r2), (3, .int x3), (6, .long l6), (8, .int x8), (9, rv V.1 r9)]) hC d_m7_findThere_88 (by decide) rfl ?_
  refine Sm.lload hC d_m7_findThere_90 5 rfl ?_
  refine Sm.aload hC d_m7_findThere_92 7 rfl ?_
  refine Sm.getI hC fl_m7_72 rfl d_m7_findThere_94 (fun v1 => ?_)
  refine Sm.iconst (v := 4) hC d_m7_findThere_97 (by decide) ?_
  refine Sm.icmp_ne (tgt := 111) hC d_m7_findThere_98 (by decide) ?_ ?_
  · refine Sm.lconst (v := 0) hC d_m7_findThere_111 (by decide) ?_
    refine Sm.sub [1, 2, 3, 4, 0, 6] rfl ?_
    exact w_m7_findThere_112 hC hR k9 hk9 r0 x1 r2 x3 (t0 ||| t1) x8 l6 (0 : Int64) M
  · refine Sm.lconst (v := 1) hC d_m7_findThere_101 (by decide) ?_
    refine Sm.aload hC d_m7_findThere_102 7 rfl ?_
    refine Sm.getI hC fl_m7_78 rfl d_m7_findThere_104 (fun v2 => ?_)
    refine Sm.lshl hC d_m7_findThere_107 ?_
    refine Sm.goto (tgt := 112) hC d_m7_findThere_108 (by decide) ?_
    refine Sm.sub [1, 2, 3, 4, 0, 6] rfl ?_
    exact w_m7_findThere_112 hC hR k9 hk9 r0 x1 r2 x3 (t0 ||| t1) x8 l6 ((1 : Int64) <<< (v2.toInt64 &&& 63)) M
set_option maxRecDepth 100000 in
set_option maxHeartbeats 4000000 in
theorem w_m7_findThere_70 {V : Ev} {C : Cx} {n0 : Nat} (hC : Cok V C y_m7_findThere.cls b_m7_findThere 11 n0 none y_m7_findThere.name) (hR : cR C = rm_m7_findThere) (k9 : Nat → Int32 → Nat → Int32 → Int64 → Int64 → Int32 → Mm → Option (Unit × Mm)) (hk9 : ∀ (r0 : Nat) (x1 : Int32) (r2 : Nat) (x3 : Int32) (l4 : Int64) (l6 : Int64) (x8 : Int32) (M : Mm), Sm V C 11 n0 n0 (qV V C) 9 [(0, rv V.1 r0), (1, .int x1), (2, rv V.1 r2), (3, .int x3), (4, .long l4), (6, .long l6), (8, .int x8)] [] M (k9 r0 x1 r2 x3 l4 l6 x8 M)) : ∀ (r0 : Nat) (x1 : Int32) (r2 : Nat) (x3 : Int32) (l4 : Int64) (l6 : Int64) (x8 : Int32) (r9 : Nat) (t0 : Int32) (M : Mm), Sm V C 11 n0 n0 (qV V C) 70 [(0, rv V.1 r0), (1, .int x1), (2, rv V.1 r2), (3, .int x3), (4, .long l4), (6, .long l6), (8, .int x8), (9, rv V.1 r9)] [.int t0] M (s_m7_findThere_70 k9 r0 x1 r2 x3 l4 l6 x8 r9 t0 M) := by
  intro r0 x1 r2 x3 l4 l6 x8 r9 t0 M
  unfold s_m7_findThere_70
  refine Sm.istore (lv' := [(10, .int t0), (0, rv V.1 r0), (1, .int x1), (2, rv V.1 r2), (3, .int x3), (4, .long l4), (6, .long l6), (8, .int x8), (9, rv V.1 r9)]) hC d_m7_findThere_70 (by decide) (by simp [cat_rv]) ?_
  refine Sm.lload hC d_m7_findThere_72 5 rfl ?_
  refine Sm.iload hC d_m7_findThere_74 0 rfl ?_
  refine Sm.if_eq (tgt := 83) hC d_m7_findThere_76 (by decide) ?_ ?_
  · refine Sm.lconst (v := 1) hC d_m7_findThere_83 (by decide) ?_
    refine Sm.iload hC d_m7_findThere_84 7 rfl ?_
    refine Sm.lshl hC d_m7_findThere_86 ?_
    refine Sm.sub [1, 2, 3, 4, 6, 7, 8] rfl ?_
    exact w_m7_findThere_87 hC hR k9 hk9 r0 x1 r2 x3 l6 x8 r9 l4 ((1 : Int64) <<< (x8.toInt64 &&& 63)) M
  · refine Sm.lconst (v := 0) hC d_m7_findThere_79 (by decide) ?_
    refine Sm.goto (tgt := 87) hC d_m7_findThere_80 (by decide) ?_
    refine Sm.sub [1, 2, 3, 4, 6, 7, 8] rfl ?_
    exact w_m7_findThere_87 hC hR k9 hk9 r0 x1 r2 x3 l6 x8 r9 l4 (0 : Int64) M
set_option maxRecDepth 100000 in
set_option maxHeartbeats 4000000 in
theorem w_m7_findThere_69 {V : Ev} {C : Cx} {n0 : Nat} (hC : Cok V C y_m7_findThere.cls b_m7_findThere 11 n0 none y_m7_findThere.name) (hR : cR C = rm_m7_findThere) (k9 : Nat → Int32 → Nat → Int32 → Int64 → Int64 → Int32 → Mm → Option (Unit × Mm)) (hk9 : ∀ (r0 : Nat) (x1 : Int32) (r2 : Nat) (x3 : Int32) (l4 : Int64) (l6 : Int64) (x8 : Int32) (M : Mm), Sm V C 11 n0 n0 (qV V C) 9 [(0, rv V.1 r0), (1, .int x1), (2, rv V.1 r2), (3, .int x3), (4, .long l4), (6, .long l6), (8, .int x8)] [] M (k9 r0 x1 r2 x3 l4 l6 x8 M)) : ∀ (r0 : Nat) (x1 : Int32) (r2 : Nat) (x3 : Int32) (l4 : Int64) (l6 : Int64) (x8 : Int32) (r9 : Nat) (M : Mm), Sm V C 11 n0 n0 (qV V C) 69 [(0, rv V.1 r0), (1, .int x1), (2, rv V.1 r2), (3, .int x3), (4, .long l4), (6, .long l6), (8, .int x8), (9, rv V.1 r9)] [] M (s_m7_findThere_69 k9 r0 x1 r2 x3 l4 l6 x8 r9 M) := by
  intro r0 x1 r2 x3 l4 l6 x8 r9 M
  unfold s_m7_findThere_69
  refine Sm.iconst (v := 0) hC d_m7_findThere_69 (by decide) ?_
  exact w_m7_findThere_70 hC hR k9 hk9 r0 x1 r2 x3 l4 l6 x8 r9 (0 : Int32) M
set_option maxRecDepth 100000 in
set_option maxHeartbeats 4000000 in
theorem w_m7_findThere_9 {V : Ev} {C : Cx} {n0 : Nat} (hC : Cok V C y_m7_findThere.cls b_m7_findThere 11 n0 none y_m7_findThere.name) (hR : cR C = rm_m7_findThere)  : ∀ (n : Nat) (r0 : Nat) (x1 : Int32) (r2 : Nat) (x3 : Int32) (l4 : Int64) (l6 : Int64) (x8 : Int32) (M : Mm), Sm V C 11 n0 n0 (qV V C) 9 [(0, rv V.1 r0), (1, .int x1), (2, rv V.1 r2), (3, .int x3), (4, .long l4), (6, .long l6), (8, .int x8)] [] M (s_m7_findThere_9 n r0 x1 r2 x3 l4 l6 x8 M) := by
  intro n
  induction n with
  | zero => exact fun r0 x1 r2 x3 l4 l6 x8 M => Sm.none_
  | succ n ih =>
    intro r0 x1 r2 x3 l4 l6 x8 M
    unfold s_m7_findThere_9
    refine Sm.iload hC d_m7_findThere_9 6 rfl ?_
    refine Sm.aload_n hC d_m7_findThere_11 rfl 0 rfl ?_
    refine Sm.getR hC fl_m7_20 rfl d_m7_findThere_12 (fun v1 => ?_)
    refine Sm.alen hC (by decide) rfl d_m7_findThere_15 (fun v2 => ?_)
    refine Sm.icmp_ge (tgt := 121) hC d_m7_findThere_16 (by decide) ?_ ?_
    · refine Sm.aload_n hC d_m7_findThere_121 rfl 0 rfl ?_
      refine Sm.lload hC d_m7_findThere_122 4 rfl ?_
      refine Sm.lload hC d_m7_findThere_124 5 rfl ?_
      refine Sm.ldc2 (v := -1) hC d_m7_findThere_126 (tw_i 737 (by decide +kernel)) ?_
      refine Sm.lxor hC d_m7_findThere_129 ?_
      refine Sm.land hC d_m7_findThere_130 ?_
      refine Sm.putL hC fl_m7_83 rfl d_m7_findThere_131 (fun M3 => ?_)
      exact Sm.vret hC d_m7_findThere_134 rfl (Nat.sub_self _)
    · refine Sm.aload_n hC d_m7_findThere_19 rfl 0 rfl ?_
      refine Sm.getR hC fl_m7_20 rfl d_m7_findThere_20 (fun v4 => ?_)
      refine Sm.iload hC d_m7_findThere_23 6 rfl ?_
      refine Sm.aald (Cn := n_c3) hC ⟨by decide, by decide⟩ rfl d_m7_findThere_25 (fun v5 => ?_)
      refine Sm.astore (lv' := [(9, rv V.1 v5), (0, rv V.1 r0), (1, .int x1), (2, rv V.1 r2), (3, .int x3), (4, .long l4), (6, .long l6), (8, .int x8)]) hC d_m7_findThere_26 (by decide) rfl ?_
      refine Sm.aload_n hC d_m7_findThere_28 rfl 3 rfl ?_
      refine Sm.iload hC d_m7_findThere_29 7 rfl ?_
      refine Sm.iload_n hC d_m7_findThere_31 rfl 4 rfl ?_
      refine Sm.callVi 2 (As := [.int x8, .int x3]) (st := []) hC hR cw_m2_hadBy (tw_i 733 (by decide +kernel)) (tw_i 734 (by decide +kernel)) (tw_i 735 (by decide +kernel)) ⟨_, rfl, rfl⟩ (fun r9 M9 h9 => ok_m2_hadBy h9) rfl rfl (RW.of ⟨rfl, rfl, by decide, by decide⟩) (by simp) d_m7_findThere_32 (fun v6 M7 => ?_)
      refine Sm.if_eq (tgt := 115) hC d_m7_findThere_35 (by decide) ?_ ?_
      · refine Sm.sub [1, 2, 3, 4, 5, 6, 7] rfl ?_
        exact w_m7_findThere_115 hC hR (s_m7_findThere_9 n) ih r0 x1 r2 x3 l4 l6 x8 M7
      · refine Sm.aload hC d_m7_findThere_38 0 rfl ?_
        refine Sm.getI hC fl_m7_69 rfl d_m7_findThere_40 (fun v8 => ?_)
        refine Sm.iload_n hC d_m7_findThere_43 rfl 2 rfl ?_
        refine Sm.icmp_ne (tgt := 115) hC d_m7_findThere_44 (by decide) ?_ ?_
        · refine Sm.sub [1, 2, 3, 4, 5, 6, 7] rfl ?_
          exact w_m7_findThere_115 hC hR (s_m7_findThere_9 n) ih r0 x1 r2 x3 l4 l6 x8 M7
        · refine Sm.aload hC d_m7_findThere_47 0 rfl ?_
          refine Sm.getI hC fl_m7_72 rfl d_m7_findThere_49 (fun v9 => ?_)
          refine Sm.iconst (v := 5) hC d_m7_findThere_52 (by decide) ?_
          refine Sm.icmp_ne (tgt := 69) hC d_m7_findThere_53 (by decide) ?_ ?_
          · refine Sm.sub [1, 2, 3, 4, 5, 6, 7, 0] rfl ?_
            exact w_m7_findThere_69 hC hR (s_m7_findThere_9 n) ih r0 x1 r2 x3 l4 l6 x8 v5 M7
          · refine Sm.iload_n hC d_m7_findThere_56 rfl 4 rfl ?_
            refine Sm.aload hC d_m7_findThere_57 0 rfl ?_
            refine Sm.getI hC fl_m7_75 rfl d_m7_findThere_59 (fun v10 => ?_)
            refine Sm.icmp_ge (tgt := 69) hC d_m7_findThere_62 (by decide) ?_ ?_
            · refine Sm.sub [1, 2, 3, 4, 5, 6, 7, 0] rfl ?_
              exact w_m7_findThere_69 hC hR (s_m7_findThere_9 n) ih r0 x1 r2 x3 l4 l6 x8 v5 M7
            · refine Sm.iconst (v := 1) hC d_m7_findThere_65 (by decide) ?_
              refine Sm.goto (tgt := 70) hC d_m7_findThere_66 (by decide) ?_
              refine Sm.sub [1, 2, 3, 4, 5, 6, 7, 0] rfl ?_
              exact w_m7_findThere_70 hC hR (s_m7_findThere_9 n) ih r0 x1 r2 x3 l4 l6 x8 v5 (1 : Int32) M7
set_option maxRecDepth 100000 in
set_option maxHeartbeats 4000000 in
theorem ok_m7_findThere {l : Launch} {V : Ev} {M M' : Mm} {r : Unit} {r0 : Nat} {a1 : Int32} {r2 : Nat} {a3 : Int32} (h : s_m7_findThere r0 a1 r2 a3 M = some (r, M')) : Met l y_m7_findThere (Cond.code y_m7_findThere b_m7_findThere 11 none :: TW) rm_m7_findThere (va_Pc [rv V.1 r0, .int a1, rv V.1 r2, .int a3] (Wd V M)) (QC V none M' 0) 0 0 (Af V) := by
  refine met_of (fun _ : Unit => none) (lv0 := [(0, rv V.1 r0), (1, .int a1), (2, rv V.1 r2), (3, .int a3)]) (by decide) (by simp [lg_sl, cat_rv, cat_i, cat_l, cat_f]) (by simp [lv_args, cat_rv, cat_i, cat_l, cat_f]) (fun C hl hR hC => ?_) h
  subst hl
  generalize mN M = n0 at hC ⊢
  unfold s_m7_findThere
  refine Sm.lconst (v := 0) hC d_m7_findThere_0 (by decide) ?_
  refine Sm.lstore (lv' := [(4, .long (0 : Int64)), (0, rv V.1 r0), (1, .int a1), (2, rv V.1 r2), (3, .int a3)]) hC d_m7_findThere_1 (by decide) rfl ?_
  refine Sm.lconst (v := 0) hC d_m7_findThere_3 (by decide) ?_
  refine Sm.lstore (lv' := [(6, .long (0 : Int64)), (4, .long (0 : Int64)), (0, rv V.1 r0), (1, .int a1), (2, rv V.1 r2), (3, .int a3)]) hC d_m7_findThere_4 (by decide) rfl ?_
  refine Sm.iconst (v := 0) hC d_m7_findThere_6 (by decide) ?_
  refine Sm.istore (lv' := [(8, .int (0 : Int32)), (6, .long (0 : Int64)), (4, .long (0 : Int64)), (0, rv V.1 r0), (1, .int a1), (2, rv V.1 r2), (3, .int a3)]) hC d_m7_findThere_7 (by decide) rfl ?_
  refine Sm.sub [3, 4, 5, 6, 2, 1, 0] rfl ?_
  exact w_m7_findThere_9 hC hR FU r0 a1 r2 a3 (0 : Int64) (0 : Int64) (0 : Int32) M
/-! NewsWire$StoryText.isThere(I)Z -/
abbrev b_m7_isThere : ByteArray := prog_9_method_5_code
def y_m7_isThere : MethodName := ⟨"NewsWire$StoryText", "isThere", "(I)Z"⟩
def rm_m7_isThere : Room := { frames := 1, cells := 0, slots := 0, locals := 60 }
theorem cw_m7_isThere : CW y_m7_isThere b_m7_isThere 2 (some .boolean) 1 := ⟨tw_i 59 (by decide +kernel), tw_i 745 (by decide +kernel), by decide, by decide, by decide +kernel⟩
theorem d_m7_isThere_0 : decode b_m7_isThere 0 = .ok (.aload_n 0, 1) := by decide +kernel
theorem d_m7_isThere_1 : decode b_m7_isThere 1 = .ok (.getfield 83, 3) := by decide +kernel
theorem d_m7_isThere_4 : decode b_m7_isThere 4 = .ok (.iload_n 1, 1) := by decide +kernel
theorem d_m7_isThere_5 : decode b_m7_isThere 5 = .ok (.lushr, 1) := by decide +kernel
theorem d_m7_isThere_6 : decode b_m7_isThere 6 = .ok (.lconst 1, 1) := by decide +kernel
theorem d_m7_isThere_7 : decode b_m7_isThere 7 = .ok (.land, 1) := by decide +kernel
theorem d_m7_isThere_8 : decode b_m7_isThere 8 = .ok (.lconst 1, 1) := by decide +kernel
theorem d_m7_isThere_9 : decode b_m7_isThere 9 = .ok (.lcmp, 1) := by decide +kernel
theorem d_m7_isThere_10 : decode b_m7_isThere 10 = .ok (.ifCond .ne 7, 3) := by decide +kernel
theorem d_m7_isThere_13 : decode b_m7_isThere 13 = .ok (.iconst 1, 1) := by decide +kernel
theorem d_m7_isThere_14 : decode b_m7_isThere 14 = .ok (.goto 4, 3) := by decide +kernel
theorem d_m7_isThere_17 : decode b_m7_isThere 17 = .ok (.iconst 0, 1) := by decide +kernel
theorem d_m7_isThere_18 : decode b_m7_isThere 18 = .ok (.ireturn, 1) := by decide +kernel
def s_m7_isThere_18  (t0 : Int32) (M : Mm) : Option (Int32 × Mm) := rz t0 (some (t0, M))
def s_m7_isThere (r0 : Nat) (a1 : Int32) (M : Mm) : Option (Int32 × Mm) := gL M r0 17 5 (fun v1 => (if ¬ (lg_cmp (((v1.toUInt64 >>> (a1.toInt64.toUInt64 &&& Int64.toUInt64 63)).toInt64) &&& (1 : Int64)) (1 : Int64)) = 0 then s_m7_isThere_18 (0 : Int32) M else s_m7_isThere_18 (1 : Int32) M))
set_option maxRecDepth 100000 in
set_option maxHeartbeats 4000000 in
theorem w_m7_isThere_18 {V : Ev} {C : Cx} {n0 : Nat} (hC : Cok V C y_m7_isThere.cls b_m7_isThere 2 n0 (some .boolean) y_m7_isThere.name) (hR : cR C = rm_m7_isThere)  : ∀ (t0 : Int32) (M : Mm), Sm V C 2 n0 n0 (qI V C) 18 [] [.int t0] M (s_m7_isThere_18 t0 M) := by
  intro t0 M
  unfold s_m7_isThere_18
  exact Sm.zret hC d_m7_isThere_18 rfl (Nat.sub_self _)
set_option maxRecDepth 100000 in
set_option maxHeartbeats 4000000 in
theorem ok_m7_isThere {l : Launch} {V : Ev} {M M' : Mm} {r : Int32} {r0 : Nat} {a1 : Int32} (h : s_m7_isThere r0 a1 M = some (r, M')) : Met l y_m7_isThere (Cond.code y_m7_isThere b_m7_isThere 2 (some .boolean) :: TW) rm_m7_isThere (va_Pc [rv V.1 r0, .int a1] (Wd V M)) (QC V (some (.int r)) M' 0) 0 0 (Af V) := by
  refine met_of (fun x : Int32 => some (.int x)) (lv0 := [(0, rv V.1 r0), (1, .int a1)]) (by decide) (by simp [lg_sl, cat_rv, cat_i, cat_l, cat_f]) (by simp [lv_args, cat_rv, cat_i, cat_l, cat_f]) (fun C hl hR hC => ?_) h
  subst hl
  generalize mN M = n0 at hC ⊢
  unfold s_m7_isThere
  refine Sm.aload_n hC d_m7_isThere_0 rfl 0 rfl ?_
  refine Sm.getL hC fl_m7_83 rfl d_m7_isThere_1 (fun v1 => ?_)
  refine Sm.iload_n hC d_m7_isThere_4 rfl 1 rfl ?_
  refine Sm.lushr hC d_m7_isThere_5 ?_
  refine Sm.lconst (v := 1) hC d_m7_isThere_6 (by decide) ?_
  refine Sm.land hC d_m7_isThere_7 ?_
  refine Sm.lconst (v := 1) hC d_m7_isThere_8 (by decide) ?_
  refine Sm.lcmp hC d_m7_isThere_9 ?_
  refine Sm.if_ne (tgt := 17) hC d_m7_isThere_10 (by decide) ?_ ?_
  · refine Sm.iconst (v := 0) hC d_m7_isThere_17 (by decide) ?_
    refine Sm.sub [] rfl ?_
    exact w_m7_isThere_18 hC hR (0 : Int32) M
  · refine Sm.iconst (v := 1) hC d_m7_isThere_13 (by decide) ?_
    refine Sm.goto (tgt := 18) hC d_m7_isThere_14 (by decide) ?_
    refine Sm.sub [] rfl ?_
    exact w_m7_isThere_18 hC hR (1 : Int32) M
/-! NewsWire$StoryText.latestLead()I -/
abbrev b_m7_latestLead : ByteArray := prog_9_method_6_code
def y_m7_latestLead : MethodName := ⟨"NewsWire$StoryText", "latestLead", "()I"⟩
def rm_m7_latestLead : Room := { frames := 2, cells := 0, slots := 0, locals := 81 }
theorem cw_m7_latestLead : CW y_m7_latestLead b_m7_latestLead 2 (some .int) 0 := ⟨tw_i 59 (by decide +kernel), tw_i 741 (by decide +kernel), by decide, by decide, by decide +kernel⟩
theorem d_m7_latestLead_0 : decode b_m7_latestLead 0 = .ok (.aload_n 0, 1) := by decide +kernel
theorem d_m7_latestLead_1 : decode b_m7_latestLead 1 = .ok (.getfield 20, 3) := by decide +kernel
theorem d_m7_latestLead_4 : decode b_m7_latestLead 4 = .ok (.arraylength, 1) := by decide +kernel
theorem d_m7_latestLead_5 : decode b_m7_latestLead 5 = .ok (.iconst 1, 1) := by decide +kernel
theorem d_m7_latestLead_6 : decode b_m7_latestLead 6 = .ok (.isub, 1) := by decide +kernel
theorem d_m7_latestLead_7 : decode b_m7_latestLead 7 = .ok (.istore_n 1, 1) := by decide +kernel
theorem d_m7_latestLead_8 : decode b_m7_latestLead 8 = .ok (.iload_n 1, 1) := by decide +kernel
theorem d_m7_latestLead_9 : decode b_m7_latestLead 9 = .ok (.ifCond .lt 32, 3) := by decide +kernel
theorem d_m7_latestLead_12 : decode b_m7_latestLead 12 = .ok (.aload_n 0, 1) := by decide +kernel
theorem d_m7_latestLead_13 : decode b_m7_latestLead 13 = .ok (.iload_n 1, 1) := by decide +kernel
theorem d_m7_latestLead_14 : decode b_m7_latestLead 14 = .ok (.invokevirtual 87, 3) := by decide +kernel
theorem d_m7_latestLead_17 : decode b_m7_latestLead 17 = .ok (.ifCond .eq 18, 3) := by decide +kernel
theorem d_m7_latestLead_20 : decode b_m7_latestLead 20 = .ok (.aload_n 0, 1) := by decide +kernel
theorem d_m7_latestLead_21 : decode b_m7_latestLead 21 = .ok (.getfield 20, 3) := by decide +kernel
theorem d_m7_latestLead_24 : decode b_m7_latestLead 24 = .ok (.iload_n 1, 1) := by decide +kernel
theorem d_m7_latestLead_25 : decode b_m7_latestLead 25 = .ok (.aaload, 1) := by decide +kernel
theorem d_m7_latestLead_26 : decode b_m7_latestLead 26 = .ok (.getfield 72, 3) := by decide +kernel
theorem d_m7_latestLead_29 : decode b_m7_latestLead 29 = .ok (.iconst 1, 1) := by decide +kernel
theorem d_m7_latestLead_30 : decode b_m7_latestLead 30 = .ok (.if_icmp .ne 5, 3) := by decide +kernel
theorem d_m7_latestLead_33 : decode b_m7_latestLead 33 = .ok (.iload_n 1, 1) := by decide +kernel
theorem d_m7_latestLead_34 : decode b_m7_latestLead 34 = .ok (.ireturn, 1) := by decide +kernel
theorem d_m7_latestLead_35 : decode b_m7_latestLead 35 = .ok (.iinc 1 (-1), 3) := by decide +kernel
theorem d_m7_latestLead_38 : decode b_m7_latestLead 38 = .ok (.goto (-30), 3) := by decide +kernel
theorem d_m7_latestLead_41 : decode b_m7_latestLead 41 = .ok (.iconst (-1), 1) := by decide +kernel
theorem d_m7_latestLead_42 : decode b_m7_latestLead 42 = .ok (.ireturn, 1) := by decide +kernel
def s_m7_latestLead_35 (k8 : Nat → Int32 → Mm → Option (Int32 × Mm)) (r0 : Nat) (x1 : Int32) (M : Mm) : Option (Int32 × Mm) := k8 r0 (x1 + (-1)) M
def s_m7_latestLead_8  : Nat → Nat → Int32 → Mm → Option (Int32 × Mm)
  | 0, _, _, _ => none
  | n + 1, r0, x1, M => (if x1 < 0 then some ((-1 : Int32), M) else cl (has M r0 17) (s_m7_isThere r0 x1 M) (fun v1 M2 => (if v1 = 0 then s_m7_latestLead_35 (s_m7_latestLead_8 n) r0 x1 M2 else gR M2 r0 17 2 (fun v3 => aR M2 v3 3 x1 (fun v4 => gI M2 v4 13 1 (fun v5 => (if ¬ v5 = (1 : Int32) then s_m7_latestLead_35 (s_m7_latestLead_8 n) r0 x1 M2 else some (x1, M2))))))))
def s_m7_latestLead (r0 : Nat) (M : Mm) : Option (Int32 × Mm) := gR M r0 17 2 (fun v1 => al M v1 3 (fun v2 => s_m7_latestLead_8 FU r0 (v2 - (1 : Int32)) M))
set_option maxRecDepth 100000 in
set_option maxHeartbeats 4000000 in
theorem w_m7_latestLead_35 {V : Ev} {C : Cx} {n0 : Nat} (hC : Cok V C y_m7_latestLead.cls b_m7_latestLead 2 n0 (some .int) y_m7_latestLead.name) (hR : cR C = rm_m7_latestLead) (k8 : Nat → Int32 → Mm → Option (Int32 × Mm)) (hk8 : ∀ (r0 : Nat) (x1 : Int32) (M : Mm), Sm V C 2 n0 n0 (qI V C) 8 [(0, rv V.1 r0), (1, .int x1)] [] M (k8 r0 x1 M)) : ∀ (r0 : Nat) (x1 : Int32) (M : Mm), Sm V C 2 n0 n0 (qI V C) 35 [(0, rv V.1 r0), (1, .int x1)] [] M (s_m7_latestLead_35 k8 r0 x1 M) := by
  intro r0 x1 M
  unfold s_m7_latestLead_35
  refine Sm.iinc (v := x1 + (-1)) (lv' := [(1, .int (x1 + (-1))), (0, rv V.1 r0)]) hC d_m7_latestLead_35 1 rfl rfl (by decide) (by simp [cat_rv]) ?_
  refine Sm.goto (tgt := 8) hC d_m7_latestLead_38 (by decide) ?_
  refine Sm.sub [1, 0] rfl ?_
  exact hk8 r0 (x1 + (-1)) M
set_option maxRecDepth 100000 in
set_option maxHeartbeats 4000000 in
theorem w_m7_latestLead_8 {V : Ev} {C : Cx} {n0 : Nat} (hC : Cok V C y_m7_latestLead.cls b_m7_latestLead 2 n0 (some .int) y_m7_latestLead.name) (hR : cR C = rm_m7_latestLead)  : ∀ (n : Nat) (r0 : Nat) (x1 : Int32) (M : Mm), Sm V C 2 n0 n0 (qI V C) 8 [(0, rv V.1 r0), (1, .int x1)] [] M (s_m7_latestLead_8 n r0 x1 M) := by
  intro n
  induction n with
  | zero => exact fun r0 x1 M => Sm.none_
  | succ n ih =>
    intro r0 x1 M
    unfold s_m7_latestLead_8
    refine Sm.iload_n hC d_m7_latestLead_8 rfl 1 rfl ?_
    refine Sm.if_lt (tgt := 41) hC d_m7_latestLead_9 (by decide) ?_ ?_
    · refine Sm.iconst (v := -1) hC d_m7_latestLead_41 (by decide) ?_
      exact Sm.iret hC d_m7_latestLead_42 rfl (Nat.sub_self _)
    · refine Sm.aload_n hC d_m7_latestLead_12 rfl 0 rfl ?_
      refine Sm.iload_n hC d_m7_latestLead_13 rfl 1 rfl ?_
      refine Sm.callVi 7 (As := [.int x1]) (st := []) hC hR cw_m7_isThere (tw_i 742 (by decide +kernel)) (tw_i 744 (by decide +kernel)) (tw_i 14 (by decide +kernel)) ⟨_, rfl, rfl⟩ (fun r9 M9 h9 => ok_m7_isThere h9) rfl rfl (RW.of ⟨rfl, rfl, by decide, by decide⟩) (by simp) d_m7_latestLead_14 (fun v1 M2 => ?_)
      refine Sm.if_eq (tgt := 35) hC d_m7_latestLead_17 (by decide) ?_ ?_
      · exact w_m7_latestLead_35 hC hR (s_m7_latestLead_8 n) ih r0 x1 M2
      · refine Sm.aload_n hC d_m7_latestLead_20 rfl 0 rfl ?_
        refine Sm.getR hC fl_m7_20 rfl d_m7_latestLead_21 (fun v3 => ?_)
        refine Sm.iload_n hC d_m7_latestLead_24 rfl 1 rfl ?_
        refine Sm.aald (Cn := n_c3) hC ⟨by decide, by decide⟩ rfl d_m7_latestLead_25 (fun v4 => ?_)
        refine Sm.getI hC fl_m7_72 rfl d_m7_latestLead_26 (fun v5 => ?_)
        refine Sm.iconst (v := 1) hC d_m7_latestLead_29 (by decide) ?_
        refine Sm.icmp_ne (tgt := 35) hC d_m7_latestLead_30 (by decide) ?_ ?_
        · exact w_m7_latestLead_35 hC hR (s_m7_latestLead_8 n) ih r0 x1 M2
        · refine Sm.iload_n hC d_m7_latestLead_33 rfl 1 rfl ?_
          exact Sm.iret hC d_m7_latestLead_34 rfl (Nat.sub_self _)
set_option maxRecDepth 100000 in
set_option maxHeartbeats 4000000 in
theorem ok_m7_latestLead {l : Launch} {V : Ev} {M M' : Mm} {r : Int32} {r0 : Nat} (h : s_m7_latestLead r0 M = some (r, M')) : Met l y_m7_latestLead (Cond.code y_m7_latestLead b_m7_latestLead 2 (some .int) :: TW) rm_m7_latestLead (va_Pc [rv V.1 r0] (Wd V M)) (QC V (some (.int r)) M' 0) 0 0 (Af V) := by
  refine met_of (fun x : Int32 => some (.int x)) (lv0 := [(0, rv V.1 r0)]) (by decide) (by simp [lg_sl, cat_rv, cat_i, cat_l, cat_f]) (by simp [lv_args, cat_rv, cat_i, cat_l, cat_f]) (fun C hl hR hC => ?_) h
  subst hl
  generalize mN M = n0 at hC ⊢
  unfold s_m7_latestLead
  refine Sm.aload_n hC d_m7_latestLead_0 rfl 0 rfl ?_
  refine Sm.getR hC fl_m7_20 rfl d_m7_latestLead_1 (fun v1 => ?_)
  refine Sm.alen hC (by decide) rfl d_m7_latestLead_4 (fun v2 => ?_)
  refine Sm.iconst (v := 1) hC d_m7_latestLead_5 (by decide) ?_
  refine Sm.isub hC d_m7_latestLead_6 ?_
  refine Sm.istore_n (lv' := [(1, .int (v2 - (1 : Int32))), (0, rv V.1 r0)]) hC d_m7_latestLead_7 rfl (by decide) (by simp [cat_rv]) ?_
  refine Sm.sub [1, 0] rfl ?_
  exact w_m7_latestLead_8 hC hR FU r0 (v2 - (1 : Int32)) M
