/-! NewsWire.look(II)I -/
abbrev b_m10_look : ByteArray := prog_1_method_4_code
def y_m10_look : MethodName := ⟨"NewsWire", "look", "(II)I"⟩
def rm_m10_look : Room := { frames := 2, cells := 0, slots := 0, locals := 81 }
theorem cw_m10_look : CW y_m10_look b_m10_look 4 (some .int) 2 := ⟨tw_i 55 (by decide +kernel), tw_i 460 (by decide +kernel), by decide, by decide, by decide +kernel⟩
theorem d_m10_look_0 : decode b_m10_look 0 = .ok (.aload_n 0, 1) := by decide +kernel
theorem d_m10_look_1 : decode b_m10_look 1 = .ok (.iload_n 1, 1) := by decide +kernel
theorem d_m10_look_2 : decode b_m10_look 2 = .ok (.invokevirtual 135, 3) := by decide +kernel
theorem d_m10_look_5 : decode b_m10_look 5 = .ok (.ifCond .ne 10, 3) := by decide +kernel
theorem d_m10_look_8 : decode b_m10_look 8 = .ok (.aload_n 0, 1) := by decide +kernel
theorem d_m10_look_9 : decode b_m10_look 9 = .ok (.bipush (-3), 2) := by decide +kernel
theorem d_m10_look_11 : decode b_m10_look 11 = .ok (.invokevirtual 76, 3) := by decide +kernel
theorem d_m10_look_14 : decode b_m10_look 14 = .ok (.ireturn, 1) := by decide +kernel
theorem d_m10_look_15 : decode b_m10_look 15 = .ok (.aload_n 0, 1) := by decide +kernel
theorem d_m10_look_16 : decode b_m10_look 16 = .ok (.getfield 17, 3) := by decide +kernel
theorem d_m10_look_19 : decode b_m10_look 19 = .ok (.iload_n 1, 1) := by decide +kernel
theorem d_m10_look_20 : decode b_m10_look 20 = .ok (.aaload, 1) := by decide +kernel
theorem d_m10_look_21 : decode b_m10_look 21 = .ok (.astore_n 3, 1) := by decide +kernel
theorem d_m10_look_22 : decode b_m10_look 22 = .ok (.iload_n 2, 1) := by decide +kernel
theorem d_m10_look_23 : decode b_m10_look 23 = .ok (.tableswitch 76 0 6 #[41, 46, 51, 56, 61, 66, 71], 41) := by decide +kernel
theorem d_m10_look_64 : decode b_m10_look 64 = .ok (.aload_n 3, 1) := by decide +kernel
theorem d_m10_look_65 : decode b_m10_look 65 = .ok (.getfield 95, 3) := by decide +kernel
theorem d_m10_look_68 : decode b_m10_look 68 = .ok (.ireturn, 1) := by decide +kernel
theorem d_m10_look_69 : decode b_m10_look 69 = .ok (.aload_n 3, 1) := by decide +kernel
theorem d_m10_look_70 : decode b_m10_look 70 = .ok (.getfield 101, 3) := by decide +kernel
theorem d_m10_look_73 : decode b_m10_look 73 = .ok (.ireturn, 1) := by decide +kernel
theorem d_m10_look_74 : decode b_m10_look 74 = .ok (.aload_n 3, 1) := by decide +kernel
theorem d_m10_look_75 : decode b_m10_look 75 = .ok (.getfield 104, 3) := by decide +kernel
theorem d_m10_look_78 : decode b_m10_look 78 = .ok (.ireturn, 1) := by decide +kernel
theorem d_m10_look_79 : decode b_m10_look 79 = .ok (.aload_n 3, 1) := by decide +kernel
theorem d_m10_look_80 : decode b_m10_look 80 = .ok (.getfield 107, 3) := by decide +kernel
theorem d_m10_look_83 : decode b_m10_look 83 = .ok (.ireturn, 1) := by decide +kernel
theorem d_m10_look_84 : decode b_m10_look 84 = .ok (.aload_n 3, 1) := by decide +kernel
theorem d_m10_look_85 : decode b_m10_look 85 = .ok (.getfield 120, 3) := by decide +kernel
theorem d_m10_look_88 : decode b_m10_look 88 = .ok (.ireturn, 1) := by decide +kernel
theorem d_m10_look_89 : decode b_m10_look 89 = .ok (.aload_n 3, 1) := by decide +kernel
theorem d_m10_look_90 : decode b_m10_look 90 = .ok (.getfield 110, 3) := by decide +kernel
theorem d_m10_look_93 : decode b_m10_look 93 = .ok (.ireturn, 1) := by decide +kernel
theorem d_m10_look_94 : decode b_m10_look 94 = .ok (.aload_n 3, 1) := by decide +kernel
theorem d_m10_look_95 : decode b_m10_look 95 = .ok (.getfield 117, 3) := by decide +kernel
theorem d_m10_look_98 : decode b_m10_look 98 = .ok (.ireturn, 1) := by decide +kernel
theorem d_m10_look_99 : decode b_m10_look 99 = .ok (.aload_n 0, 1) := by decide +kernel
theorem d_m10_look_100 : decode b_m10_look 100 = .ok (.bipush (-7), 2) := by decide +kernel
theorem d_m10_look_102 : decode b_m10_look 102 = .ok (.invokevirtual 76, 3) := by decide +kernel
theorem d_m10_look_105 : decode b_m10_look 105 = .ok (.ireturn, 1) := by decide +kernel
def s_m10_look (r0 : Nat) (a1 : Int32) (a2 : Int32) (M : Mm) : Option (Int32 × Mm) := cl (has M r0 20) (s_m10_isPiece r0 a1 M) (fun v1 M2 => (if ¬ v1 = 0 then gR M2 r0 20 1 (fun v3 => aR M2 v3 3 a1 (fun v4 => (if a2 = 0 then gI M2 v4 13 1 (fun v5 => some (v5, M2)) else if a2 = 1 then gI M2 v4 13 2 (fun v6 => some (v6, M2)) else if a2 = 2 then gI M2 v4 13 3 (fun v7 => some (v7, M2)) else if a2 = 3 then gI M2 v4 13 4 (fun v8 => some (v8, M2)) else if a2 = 4 then gI M2 v4 13 5 (fun v9 => some (v9, M2)) else if a2 = 5 then gI M2 v4 13 6 (fun v10 => some (v10, M2)) else if a2 = 6 then gI M2 v4 13 7 (fun v11 => some (v11, M2)) else cl (has M2 r0 20) (s_m10_refuse r0 (-7 : Int32) M2) (fun v12 M13 => some (v12, M13))))) else cl (has M2 r0 20) (s_m10_refuse r0 (-3 : Int32) M2) (fun v14 M15 => some (v14, M15))))
set_option maxRecDepth 100000 in
set_option maxHeartbeats 4000000 in
theorem ok_m10_look {l : Launch} {V : Ev} {M M' : Mm} {r : Int32} {r0 : Nat} {a1 : Int32} {a2 : Int32} (h : s_m10_look r0 a1 a2 M = some (r, M')) : Met l y_m10_look (Cond.code y_m10_look b_m10_look 4 (some .int) :: TW) rm_m10_look (va_Pc [rv V.1 r0, .int a1, .int a2] (Wd V M)) (QC V (some (.int r)) M' 0) 0 0 (Af V) := by
  refine met_of (fun x : Int32 => some (.int x)) (lv0 := [(0, rv V.1 r0), (1, .int a1), (2, .int a2)]) (by decide) (by simp [lg_sl, cat_rv, cat_i, cat_l, cat_f]) (by simp [lv_args, cat_rv, cat_i, cat_l, cat_f]) (fun C hl hR hC => ?_) h
  subst hl
  generalize mN M = n0 at hC ⊢
  unfold s_m10_look
  refine Sm.aload_n hC d_m10_look_0 rfl 0 rfl ?_
  refine Sm.iload_n hC d_m10_look_1 rfl 1 rfl ?_
  refine Sm.callVi 10 (As := [.int a1]) (st := []) hC hR cw_m10_isPiece (tw_i 436 (by decide +kernel)) (tw_i 438 (by decide +kernel)) (tw_i 2 (by decide +kernel)) ⟨_, rfl, rfl⟩ (fun r9 M9 h9 => ok_m10_isPiece h9) rfl rfl (RW.of ⟨rfl, rfl, by decide, by decide⟩) (by simp) d_m10_look_2 (fun v1 M2 => ?_)
  refine Sm.if_ne (tgt := 15) hC d_m10_look_5 (by decide) ?_ ?_
  · refine Sm.aload_n hC d_m10_look_15 rfl 0 rfl ?_
    refine Sm.getR hC fl_m10_17 rfl d_m10_look_16 (fun v3 => ?_)
    refine Sm.iload_n hC d_m10_look_19 rfl 1 rfl ?_
    refine Sm.aald (Cn := n_c3) hC ⟨by decide, by decide⟩ rfl d_m10_look_20 (fun v4 => ?_)
    refine Sm.astore_n (lv' := [(3, rv V.1 v4), (0, rv V.1 r0), (1, .int a1), (2, .int a2)]) hC d_m10_look_21 rfl (by decide) rfl ?_
    refine Sm.iload_n hC d_m10_look_22 rfl 3 rfl ?_
    refine Sm.if_ (fun h9 => ?_) (fun h23_0 => ?_)
    · refine Sm.tswIn (tgt := 64) hC d_m10_look_23 (by rw [h9]; decide) (by rw [h9]; decide) (by rw [h9] <;> rfl) (by decide) ?_
      refine Sm.aload_n hC d_m10_look_64 rfl 0 rfl ?_
      refine Sm.getI hC fl_m10_95 rfl d_m10_look_65 (fun v5 => ?_)
      exact Sm.iret hC d_m10_look_68 rfl (Nat.sub_self _)
    refine Sm.if_ (fun h9 => ?_) (fun h23_1 => ?_)
    · refine Sm.tswIn (tgt := 69) hC d_m10_look_23 (by rw [h9]; decide) (by rw [h9]; decide) (by rw [h9] <;> rfl) (by decide) ?_
      refine Sm.aload_n hC d_m10_look_69 rfl 0 rfl ?_
      refine Sm.getI hC fl_m10_101 rfl d_m10_look_70 (fun v6 => ?_)
      exact Sm.iret hC d_m10_look_73 rfl (Nat.sub_self _)
    refine Sm.if_ (fun h9 => ?_) (fun h23_2 => ?_)
    · refine Sm.tswIn (tgt := 74) hC d_m10_look_23 (by rw [h9]; decide) (by rw [h9]; decide) (by rw [h9] <;> rfl) (by decide) ?_
      refine Sm.aload_n hC d_m10_look_74 rfl 0 rfl ?_
      refine Sm.getI hC fl_m10_104 rfl d_m10_look_75 (fun v7 => ?_)
      exact Sm.iret hC d_m10_look_78 rfl (Nat.sub_self _)
    refine Sm.if_ (fun h9 => ?_) (fun h23_3 => ?_)
    · refine Sm.tswIn (tgt := 79) hC d_m10_look_23 (by rw [h9]; decide) (by rw [h9]; decide) (by rw [h9] <;> rfl) (by decide) ?_
      refine Sm.aload_n hC d_m10_look_79 rfl 0 rfl ?_
      refine Sm.getI hC fl_m10_107 rfl d_m10_look_80 (fun v8 => ?_)
      exact Sm.iret hC d_m10_look_83 rfl (Nat.sub_self _)
    refine Sm.if_ (fun h9 => ?_) (fun h23_4 => ?_)
    · refine Sm.tswIn (tgt := 84) hC d_m10_look_23 (by rw [h9]; decide) (by rw [h9]; decide) (by rw [h9] <;> rfl) (by decide) ?_
      refine Sm.aload_n hC d_m10_look_84 rfl 0 rfl ?_
      refine Sm.getI hC fl_m10_120 rfl d_m10_look_85 (fun v9 => ?_)
      exact Sm.iret hC d_m10_look_88 rfl (Nat.sub_self _)
    refine Sm.if_ (fun h9 => ?_) (fun h23_5 => ?_)
    · refine Sm.tswIn (tgt := 89) hC d_m10_look_23 (by rw [h9]; decide) (by rw [h9]; decide) (by rw [h9] <;> rfl) (by decide) ?_
      refine Sm.aload_n hC d_m10_look_89 rfl 0 rfl ?_
      refine Sm.getI hC fl_m10_110 rfl d_m10_look_90 (fun v10 => ?_)
      exact Sm.iret hC d_m10_look_93 rfl (Nat.sub_self _)
    refine Sm.if_ (fun h9 => ?_) (fun h23_6 => ?_)
    · refine Sm.tswIn (tgt := 94) hC d_m10_look_23 (by rw [h9]; decide) (by rw [h9]; decide) (by rw [h9] <;> rfl) (by decide) ?_
      refine Sm.aload_n hC d_m10_look_94 rfl 0 rfl ?_
      refine Sm.getI hC fl_m10_117 rfl d_m10_look_95 (fun v11 => ?_)
      exact Sm.iret hC d_m10_look_98 rfl (Nat.sub_self _)
    refine Sm.tswOut (tgt := 99) hC d_m10_look_23 (out_of (n := 7) (by decide) (fun i hi => by
        match i, hi with
        | 0, _ => exact h23_0
        | 1, _ => exact h23_1
        | 2, _ => exact h23_2
        | 3, _ => exact h23_3
        | 4, _ => exact h23_4
        | 5, _ => exact h23_5
        | 6, _ => exact h23_6)) (by decide) ?_
    refine Sm.aload_n hC d_m10_look_99 rfl 1 rfl ?_
    refine Sm.bipush (v := -7) hC d_m10_look_100 (by decide) ?_
    refine Sm.callVi 10 (As := [.int (-7 : Int32)]) (st := []) hC hR cw_m10_refuse (tw_i 410 (by decide +kernel)) (tw_i 412 (by decide +kernel)) (tw_i 0 (by decide +kernel)) ⟨_, rfl, rfl⟩ (fun r9 M9 h9 => ok_m10_refuse h9) rfl rfl (RW.of ⟨rfl, rfl, by decide, by decide⟩) (by simp) d_m10_look_102 (fun v12 M13 => ?_)
    exact Sm.iret hC d_m10_look_105 rfl (Nat.sub_self _)
  · refine Sm.aload_n hC d_m10_look_8 rfl 0 rfl ?_
    refine Sm.bipush (v := -3) hC d_m10_look_9 (by decide) ?_
    refine Sm.callVi 10 (As := [.int (-3 : Int32)]) (st := []) hC hR cw_m10_refuse (tw_i 410 (by decide +kernel)) (tw_i 412 (by decide +kernel)) (tw_i 0 (by decide +kernel)) ⟨_, rfl, rfl⟩ (fun r9 M9 h9 => ok_m10_refuse h9) rfl rfl (RW.of ⟨rfl, rfl, by decide, by decide⟩) (by simp) d_m10_look_11 (fun v14 M15 => ?_)
    exact Sm.iret hC d_m10_look_14 rfl (Nat.sub_self _)
/-! NewsWire.word(II)I -/
abbrev b_m10_word : ByteArray := prog_1_method_5_code
def y_m10_word : MethodName := ⟨"NewsWire", "word", "(II)I"⟩
def rm_m10_word : Room := { frames := 2, cells := 0, slots := 0, locals := 81 }
theorem cw_m10_word : CW y_m10_word b_m10_word 3 (some .int) 2 := ⟨tw_i 55 (by decide +kernel), tw_i 464 (by decide +kernel), by decide, by decide, by decide +kernel⟩
theorem d_m10_word_0 : decode b_m10_word 0 = .ok (.aload_n 0, 1) := by decide +kernel
theorem d_m10_word_1 : decode b_m10_word 1 = .ok (.iload_n 1, 1) := by decide +kernel
theorem d_m10_word_2 : decode b_m10_word 2 = .ok (.invokevirtual 135, 3) := by decide +kernel
theorem d_m10_word_5 : decode b_m10_word 5 = .ok (.ifCond .eq 20, 3) := by decide +kernel
theorem d_m10_word_8 : decode b_m10_word 8 = .ok (.iload_n 2, 1) := by decide +kernel
theorem d_m10_word_9 : decode b_m10_word 9 = .ok (.ifCond .lt 16, 3) := by decide +kernel
theorem d_m10_word_12 : decode b_m10_word 12 = .ok (.iload_n 2, 1) := by decide +kernel
theorem d_m10_word_13 : decode b_m10_word 13 = .ok (.aload_n 0, 1) := by decide +kernel
theorem d_m10_word_14 : decode b_m10_word 14 = .ok (.getfield 17, 3) := by decide +kernel
theorem d_m10_word_17 : decode b_m10_word 17 = .ok (.iload_n 1, 1) := by decide +kernel
theorem d_m10_word_18 : decode b_m10_word 18 = .ok (.aaload, 1) := by decide +kernel
theorem d_m10_word_19 : decode b_m10_word 19 = .ok (.getfield 120, 3) := by decide +kernel
theorem d_m10_word_22 : decode b_m10_word 22 = .ok (.if_icmp .lt 10, 3) := by decide +kernel
theorem d_m10_word_25 : decode b_m10_word 25 = .ok (.aload_n 0, 1) := by decide +kernel
theorem d_m10_word_26 : decode b_m10_word 26 = .ok (.bipush (-3), 2) := by decide +kernel
theorem d_m10_word_28 : decode b_m10_word 28 = .ok (.invokevirtual 76, 3) := by decide +kernel
theorem d_m10_word_31 : decode b_m10_word 31 = .ok (.ireturn, 1) := by decide +kernel
theorem d_m10_word_32 : decode b_m10_word 32 = .ok (.aload_n 0, 1) := by decide +kernel
theorem d_m10_word_33 : decode b_m10_word 33 = .ok (.getfield 17, 3) := by decide +kernel
theorem d_m10_word_36 : decode b_m10_word 36 = .ok (.iload_n 1, 1) := by decide +kernel
theorem d_m10_word_37 : decode b_m10_word 37 = .ok (.aaload, 1) := by decide +kernel
theorem d_m10_word_38 : decode b_m10_word 38 = .ok (.getfield 126, 3) := by decide +kernel
theorem d_m10_word_41 : decode b_m10_word 41 = .ok (.iload_n 2, 1) := by decide +kernel
theorem d_m10_word_42 : decode b_m10_word 42 = .ok (.iaload, 1) := by decide +kernel
theorem d_m10_word_43 : decode b_m10_word 43 = .ok (.ireturn, 1) := by decide +kernel
def s_m10_word_25  (r0 : Nat) (M : Mm) : Option (Int32 × Mm) := cl (has M r0 20) (s_m10_refuse r0 (-3 : Int32) M) (fun v1 M2 => some (v1, M2))
def s_m10_word (r0 : Nat) (a1 : Int32) (a2 : Int32) (M : Mm) : Option (Int32 × Mm) := cl (has M r0 20) (s_m10_isPiece r0 a1 M) (fun v1 M2 => (if v1 = 0 then s_m10_word_25 r0 M2 else (if a2 < 0 then s_m10_word_25 r0 M2 else gR M2 r0 20 1 (fun v3 => aR M2 v3 3 a1 (fun v4 => gI M2 v4 13 5 (fun v5 => (if a2 < v5 then gR M2 r0 20 1 (fun v6 => aR M2 v6 3 a1 (fun v7 => gR M2 v7 13 0 (fun v8 => aI M2 v8 0 a2 (fun v9 => some (v9, M2))))) else s_m10_word_25 r0 M2)))))))
set_option maxRecDepth 100000 in
set_option maxHeartbeats 4000000 in
theorem w_m10_word_25 {V : Ev} {C : Cx} {n0 : Nat} (hC : Cok V C y_m10_word.cls b_m10_word 3 n0 (some .int) y_m10_word.name) (hR : cR C = rm_m10_word)  : ∀ (r0 : Nat) (M : Mm), Sm V C 3 n0 n0 (qI V C) 25 [(0, rv V.1 r0)] [] M (s_m10_word_25 r0 M) := by
  intro r0 M
  unfold s_m10_word_25
  refine Sm.aload_n hC d_m10_word_25 rfl 0 rfl ?_
  refine Sm.bipush (v := -3) hC d_m10_word_26 (by decide) ?_
  refine Sm.callVi 10 (As := [.int (-3 : Int32)]) (st := []) hC hR cw_m10_refuse (tw_i 410 (by decide +kernel)) (tw_i 412 (by decide +kernel)) (tw_i 0 (by decide +kernel)) ⟨_, rfl, rfl⟩ (fun r9 M9 h9 => ok_m10_refuse h9) rfl rfl (RW.of ⟨rfl, rfl, by decide, by decide⟩) (by simp) d_m10_word_28 (fun v1 M2 => ?_)
  exact Sm.iret hC d_m10_word_31 rfl (Nat.sub_self _)
set_option maxRecDepth 100000 in
set_option maxHeartbeats 4000000 in
theorem ok_m10_word {l : Launch} {V : Ev} {M M' : Mm} {r : Int32} {r0 : Nat} {a1 : Int32} {a2 : Int32} (h : s_m10_word r0 a1 a2 M = some (r, M')) : Met l y_m10_word (Cond.code y_m10_word b_m10_word 3 (some .int) :: TW) rm_m10_word (va_Pc [rv V.1 r0, .int a1, .int a2] (Wd V M)) (QC V (some (.int r)) M' 0) 0 0 (Af V) := by
  refine met_of (fun x : Int32 => some (.int x)) (lv0 := [(0, rv V.1 r0), (1, .int a1), (2, .int a2)]) (by decide) (by simp [lg_sl, cat_rv, cat_i, cat_l, cat_f]) (by simp [lv_args, cat_rv, cat_i, cat_l, cat_f]) (fun C hl hR hC => ?_) h
  subst hl
  generalize mN M = n0 at hC ⊢
  unfold s_m10_word
  refine Sm.aload_n hC d_m10_word_0 rfl 0 rfl ?_
  refine Sm.iload_n hC d_m10_word_1 rfl 1 rfl ?_
  refine Sm.callVi 10 (As := [.int a1]) (st := []) hC hR cw_m10_isPiece (tw_i 436 (by decide +kernel)) (tw_i 438 (by decide +kernel)) (tw_i 2 (by decide +kernel)) ⟨_, rfl, rfl⟩ (fun r9 M9 h9 => ok_m10_isPiece h9) rfl rfl (RW.of ⟨rfl, rfl, by decide, by decide⟩) (by simp) d_m10_word_2 (fun v1 M2 => ?_)
  refine Sm.if_eq (tgt := 25) hC d_m10_word_5 (by decide) ?_ ?_
  · refine Sm.sub [0] rfl ?_
    exact w_m10_word_25 hC hR r0 M2
  · refine Sm.iload_n hC d_m10_word_8 rfl 2 rfl ?_
    refine Sm.if_lt (tgt := 25) hC d_m10_word_9 (by decide) ?_ ?_
    · refine Sm.sub [0] rfl ?_
      exact w_m10_word_25 hC hR r0 M2
    · refine Sm.iload_n hC d_m10_word_12 rfl 2 rfl ?_
      refine Sm.aload_n hC d_m10_word_13 rfl 0 rfl ?_
      refine Sm.getR hC fl_m10_17 rfl d_m10_word_14 (fun v3 => ?_)
      refine Sm.iload_n hC d_m10_word_17 rfl 1 rfl ?_
      refine Sm.aald (Cn := n_c3) hC ⟨by decide, by decide⟩ rfl d_m10_word_18 (fun v4 => ?_)
      refine Sm.getI hC fl_m10_120 rfl d_m10_word_19 (fun v5 => ?_)
      refine Sm.icmp_lt (tgt := 32) hC d_m10_word_22 (by decide) ?_ ?_
      · refine Sm.aload_n hC d_m10_word_32 rfl 0 rfl ?_
        refine Sm.getR hC fl_m10_17 rfl d_m10_word_33 (fun v6 => ?_)
        refine Sm.iload_n hC d_m10_word_36 rfl 1 rfl ?_
        refine Sm.aald (Cn := n_c3) hC ⟨by decide, by decide⟩ rfl d_m10_word_37 (fun v7 => ?_)
        refine Sm.getR hC fl_m10_126 rfl d_m10_word_38 (fun v8 => ?_)
        refine Sm.iload_n hC d_m10_word_41 rfl 2 rfl ?_
        refine Sm.iald hC d_m10_word_42 (fun v9 => ?_)
        exact Sm.iret hC d_m10_word_43 rfl (Nat.sub_self _)
      · refine Sm.sub [0] rfl ?_
        exact w_m10_word_25 hC hR r0 M2
/-! NewsWire.isWire(I)Z -/
abbrev b_m10_isWire : ByteArray := prog_1_method_7_code
def y_m10_isWire : MethodName := ⟨"NewsWire", "isWire", "(I)Z"⟩
def rm_m10_isWire : Room := { frames := 1, cells := 0, slots := 0, locals := 60 }
theorem cw_m10_isWire : CW y_m10_isWire b_m10_isWire 2 (some .boolean) 1 := ⟨tw_i 55 (by decide +kernel), tw_i 632 (by decide +kernel), by decide, by decide, by decide +kernel⟩
theorem d_m10_isWire_0 : decode b_m10_isWire 0 = .ok (.iload_n 1, 1) := by decide +kernel
theorem d_m10_isWire_1 : decode b_m10_isWire 1 = .ok (.ifCond .lt 15, 3) := by decide +kernel
theorem d_m10_isWire_4 : decode b_m10_isWire 4 = .ok (.iload_n 1, 1) := by decide +kernel
theorem d_m10_isWire_5 : decode b_m10_isWire 5 = .ok (.aload_n 0, 1) := by decide +kernel
theorem d_m10_isWire_6 : decode b_m10_isWire 6 = .ok (.getfield 80, 3) := by decide +kernel
theorem d_m10_isWire_9 : decode b_m10_isWire 9 = .ok (.if_icmp .ge 7, 3) := by decide +kernel
theorem d_m10_isWire_12 : decode b_m10_isWire 12 = .ok (.iconst 1, 1) := by decide +kernel
theorem d_m10_isWire_13 : decode b_m10_isWire 13 = .ok (.goto 4, 3) := by decide +kernel
theorem d_m10_isWire_16 : decode b_m10_isWire 16 = .ok (.iconst 0, 1) := by decide +kernel
theorem d_m10_isWire_17 : decode b_m10_isWire 17 = .ok (.ireturn, 1) := by decide +kernel
def s_m10_isWire_17  (t0 : Int32) (M : Mm) : Option (Int32 × Mm) := rz t0 (some (t0, M))
def s_m10_isWire_16   (M : Mm) : Option (Int32 × Mm) := s_m10_isWire_17 (0 : Int32) M
def s_m10_isWire (r0 : Nat) (a1 : Int32) (M : Mm) : Option (Int32 × Mm) := (if a1 < 0 then s_m10_isWire_16 M else gI M r0 20 10 (fun v1 => (if v1 ≤ a1 then s_m10_isWire_16 M else s_m10_isWire_17 (1 : Int32) M)))
set_option maxRecDepth 100000 in
set_option maxHeartbeats 4000000 in
theorem w_m10_isWire_17 {V : Ev} {C : Cx} {n0 : Nat} (hC : Cok V C y_m10_isWire.cls b_m10_isWire 2 n0 (some .boolean) y_m10_isWire.name) (hR : cR C = rm_m10_isWire)  : ∀ (t0 : Int32) (M : Mm), Sm V C 2 n0 n0 (qI V C) 17 [] [.int t0] M (s_m10_isWire_17 t0 M) := by
  intro t0 M
  unfold s_m10_isWire_17
  exact Sm.zret hC d_m10_isWire_17 rfl (Nat.sub_self _)
set_option maxRecDepth 100000 in
set_option maxHeartbeats 4000000 in
theorem w_m10_isWire_16 {V : Ev} {C : Cx} {n0 : Nat} (hC : Cok V C y_m10_isWire.cls b_m10_isWire 2 n0 (some .boolean) y_m10_isWire.name) (hR : cR C = rm_m10_isWire)  : ∀  (M : Mm), Sm V C 2 n0 n0 (qI V C) 16 [] [] M (s_m10_isWire_16 M) := by
  intro M
  unfold s_m10_isWire_16
  refine Sm.iconst (v := 0) hC d_m10_isWire_16 (by decide) ?_
  exact w_m10_isWire_17 hC hR (0 : Int32) M
set_option maxRecDepth 100000 in
set_option maxHeartbeats 4000000 in
theorem ok_m10_isWire {l : Launch} {V : Ev} {M M' : Mm} {r : Int32} {r0 : Nat} {a1 : Int32} (h : s_m10_isWire r0 a1 M = some (r, M')) : Met l y_m10_isWire (Cond.code y_m10_isWire b_m10_isWire 2 (some .boolean) :: TW) rm_m10_isWire (va_Pc [rv V.1 r0, .int a1] (Wd V M)) (QC V (some (.int r)) M' 0) 0 0 (Af V) := by
  refine met_of (fun x : Int32 => some (.int x)) (lv0 := [(0, rv V.1 r0), (1, .int a1)]) (by decide) (by simp [lg_sl, cat_rv, cat_i, cat_l, cat_f]) (by simp [lv_args, cat_rv, cat_i, cat_l, cat_f]) (fun C hl hR hC => ?_) h
  subst hl
  generalize mN M = n0 at hC ⊢
  unfold s_m10_isWire
  refine Sm.iload_n hC d_m10_isWire_0 rfl 1 rfl ?_
  refine Sm.if_lt (tgt := 16) hC d_m10_isWire_1 (by decide) ?_ ?_
  · refine Sm.sub [] rfl ?_
    exact w_m10_isWire_16 hC hR M
  · refine Sm.iload_n hC d_m10_isWire_4 rfl 1 rfl ?_
    refine Sm.aload_n hC d_m10_isWire_5 rfl 0 rfl ?_
    refine Sm.getI hC fl_m10_80 rfl d_m10_isWire_6 (fun v1 => ?_)
    refine Sm.icmp_ge (tgt := 16) hC d_m10_isWire_9 (by decide) ?_ ?_
    · refine Sm.sub [] rfl ?_
      exact w_m10_isWire_16 hC hR M
    · refine Sm.iconst (v := 1) hC d_m10_isWire_12 (by decide) ?_
      refine Sm.goto (tgt := 17) hC d_m10_isWire_13 (by decide) ?_
      refine Sm.sub [] rfl ?_
      exact w_m10_isWire_17 hC hR (1 : Int32) M
/-! NewsWire.isPaper(I)Z -/
abbrev b_m10_isPaper : ByteArray := prog_1_method_8_code
def y_m10_isPaper : MethodName := ⟨"NewsWire", "isPaper", "(I)Z"⟩
def rm_m10_isPaper : Room := { frames := 1, cells := 0, slots := 0, locals := 60 }
theorem cw_m10_isPaper : CW y_m10_isPaper b_m10_isPaper 1 (some .boolean) 1 := ⟨tw_i 55 (by decide +kernel), tw_i 592 (by decide +kernel), by decide, by decide, by decide +kernel⟩
theorem d_m10_isPaper_0 : decode b_m10_isPaper 0 = .ok (.iload_n 0, 1) := by decide +kernel
theorem d_m10_isPaper_1 : decode b_m10_isPaper 1 = .ok (.ifCond .lt 13, 3) := by decide +kernel
theorem d_m10_isPaper_4 : decode b_m10_isPaper 4 = .ok (.iload_n 0, 1) := by decide +kernel
theorem d_m10_isPaper_5 : decode b_m10_isPaper 5 = .ok (.bipush 8, 2) := by decide +kernel
theorem d_m10_isPaper_7 : decode b_m10_isPaper 7 = .ok (.if_icmp .ge 7, 3) := by decide +kernel
theorem d_m10_isPaper_10 : decode b_m10_isPaper 10 = .ok (.iconst 1, 1) := by decide +kernel
theorem d_m10_isPaper_11 : decode b_m10_isPaper 11 = .ok (.goto 4, 3) := by decide +kernel
theorem d_m10_isPaper_14 : decode b_m10_isPaper 14 = .ok (.iconst 0, 1) := by decide +kernel
theorem d_m10_isPaper_15 : decode b_m10_isPaper 15 = .ok (.ireturn, 1) := by decide +kernel
def s_m10_isPaper_15  (t0 : Int32) (M : Mm) : Option (Int32 × Mm) := rz t0 (some (t0, M))
def s_m10_isPaper_14   (M : Mm) : Option (Int32 × Mm) := s_m10_isPaper_15 (0 : Int32) M
def s_m10_isPaper (a0 : Int32) (M : Mm) : Option (Int32 × Mm) := (if a0 < 0 then s_m10_isPaper_14 M else (if (8 : Int32) ≤ a0 then s_m10_isPaper_14 M else s_m10_isPaper_15 (1 : Int32) M))
set_option maxRecDepth 100000 in
set_option maxHeartbeats 4000000 in
theorem w_m10_isPaper_15 {V : Ev} {C : Cx} {n0 : Nat} (hC : Cok V C y_m10_isPaper.cls b_m10_isPaper 1 n0 (some .boolean) y_m10_isPaper.name) (hR : cR C = rm_m10_isPaper)  : ∀ (t0 : Int32) (M : Mm), Sm V C 1 n0 n0 (qI V C) 15 [] [.int t0] M (s_m10_isPaper_15 t0 M) := by
  intro t0 M
  unfold s_m10_isPaper_15
  exact Sm.zret hC d_m10_isPaper_15 rfl (Nat.sub_self _)
set_option maxRecDepth 100000 in
set_option maxHeartbeats 4000000 in
theorem w_m10_isPaper_14 {V : Ev} {C : Cx} {n0 : Nat} (hC : Cok V C y_m10_isPaper.cls b_m10_isPaper 1 n0 (some .boolean) y_m10_isPaper.name) (hR : cR C = rm_m10_isPaper)  : ∀  (M : Mm), Sm V C 1 n0 n0 (qI V C) 14 [] [] M (s_m10_isPaper_14 M) := by
  intro M
  unfold s_m10_isPaper_14
  refine Sm.iconst (v := 0) hC d_m10_isPaper_14 (by decide) ?_
  exact w_m10_isPaper_15 hC hR (0 : Int32) M
set_option maxRecDepth 100000 in
set_option maxHeartbeats 4000000 in
theorem ok_m10_isPaper {l : Launch} {V : Ev} {M M' : Mm} {r : Int32} {a0 : Int32} (h : s_m10_isPaper a0 M = some (r, M')) : Met l y_m10_isPaper (Cond.code y_m10_isPaper b_m10_isPaper 1 (some .boolean) :: TW) rm_m10_isPaper (va_Pc [.int a0] (Wd V M)) (QC V (some (.int r)) M' 0) 0 0 (Af V) := by
  refine met_of (fun x : Int32 => some (.int x)) (lv0 := [(0, .int a0)]) (by decide) (by simp [lg_sl, cat_rv, cat_i, cat_l, cat_f]) (by simp [lv_args, cat_rv, cat_i, cat_l, cat_f]) (fun C hl hR hC => ?_) h
  subst hl
  generalize mN M = n0 at hC ⊢
  unfold s_m10_isPaper
  refine Sm.iload_n hC d_m10_isPaper_0 rfl 0 rfl ?_
  refine Sm.if_lt (tgt := 14) hC d_m10_isPaper_1 (by decide) ?_ ?_
  · refine Sm.sub [] rfl ?_
    exact w_m10_isPaper_14 hC hR M
  · refine Sm.iload_n hC d_m10_isPaper_4 rfl 0 rfl ?_
    refine Sm.bipush (v := 8) hC d_m10_isPaper_5 (by decide) ?_
    refine Sm.icmp_ge (tgt := 14) hC d_m10_isPaper_7 (by decide) ?_ ?_
    · refine Sm.sub [] rfl ?_
      exact w_m10_isPaper_14 hC hR M
    · refine Sm.iconst (v := 1) hC d_m10_isPaper_10 (by decide) ?_
      refine Sm.goto (tgt := 15) hC d_m10_isPaper_11 (by decide) ?_
      refine Sm.sub [] rfl ?_
      exact w_m10_isPaper_15 hC hR (1 : Int32) M
/-! NewsWire.feed(II)I -/
theorem fl_m10_58 : FL "NewsWire" 58 10 7 2 true (.object "NewsWire$Tape") := ⟨_, _, _, _, rfl, in_c10, ty_c10, nm_c10, by decide, rfl, tw_i 364 (by decide +kernel), rfl, rfl, rfl, rfl⟩
theorem fl_m10_157 : FL "NewsWire" 157 8 1 0 false .int := ⟨_, _, _, _, rfl, in_c8, ty_c8, nm_c8, by decide, rfl, tw_i 231 (by decide +kernel), rfl, rfl, rfl, rfl⟩
abbrev b_m10_feed : ByteArray := prog_1_method_15_code
def y_m10_feed : MethodName := ⟨"NewsWire", "feed", "(II)I"⟩
def rm_m10_feed : Room := { frames := 2, cells := 0, slots := 0, locals := 83 }
theorem cw_m10_feed : CW y_m10_feed b_m10_feed 3 (some .int) 2 := ⟨tw_i 55 (by decide +kernel), tw_i 468 (by decide +kernel), by decide, by decide, by decide +kernel⟩
theorem d_m10_feed_0 : decode b_m10_feed 0 = .ok (.iload_n 2, 1) := by decide +kernel
theorem d_m10_feed_1 : decode b_m10_feed 1 = .ok (.ifCond .ge 10, 3) := by decide +kernel
theorem d_m10_feed_4 : decode b_m10_feed 4 = .ok (.aload_n 0, 1) := by decide +kernel
theorem d_m10_feed_5 : decode b_m10_feed 5 = .ok (.bipush (-4), 2) := by decide +kernel
theorem d_m10_feed_7 : decode b_m10_feed 7 = .ok (.invokevirtual 76, 3) := by decide +kernel
theorem d_m10_feed_10 : decode b_m10_feed 10 = .ok (.ireturn, 1) := by decide +kernel
theorem d_m10_feed_11 : decode b_m10_feed 11 = .ok (.iload_n 2, 1) := by decide +kernel
theorem d_m10_feed_12 : decode b_m10_feed 12 = .ok (.iconst 4, 1) := by decide +kernel
theorem d_m10_feed_13 : decode b_m10_feed 13 = .ok (.if_icmp .le 10, 3) := by decide +kernel
theorem d_m10_feed_16 : decode b_m10_feed 16 = .ok (.aload_n 0, 1) := by decide +kernel
theorem d_m10_feed_17 : decode b_m10_feed 17 = .ok (.bipush (-7), 2) := by decide +kernel
theorem d_m10_feed_19 : decode b_m10_feed 19 = .ok (.invokevirtual 76, 3) := by decide +kernel
theorem d_m10_feed_22 : decode b_m10_feed 22 = .ok (.ireturn, 1) := by decide +kernel
theorem d_m10_feed_23 : decode b_m10_feed 23 = .ok (.aload_n 0, 1) := by decide +kernel
theorem d_m10_feed_24 : decode b_m10_feed 24 = .ok (.getfield 58, 3) := by decide +kernel
theorem d_m10_feed_27 : decode b_m10_feed 27 = .ok (.getfield 157, 3) := by decide +kernel
theorem d_m10_feed_30 : decode b_m10_feed 30 = .ok (.iload_n 2, 1) := by decide +kernel
theorem d_m10_feed_31 : decode b_m10_feed 31 = .ok (.iadd, 1) := by decide +kernel
theorem d_m10_feed_32 : decode b_m10_feed 32 = .ok (.bipush 80, 2) := by decide +kernel
theorem d_m10_feed_34 : decode b_m10_feed 34 = .ok (.if_icmp .le 10, 3) := by decide +kernel
theorem d_m10_feed_37 : decode b_m10_feed 37 = .ok (.aload_n 0, 1) := by decide +kernel
theorem d_m10_feed_38 : decode b_m10_feed 38 = .ok (.bipush (-8), 2) := by decide +kernel
theorem d_m10_feed_40 : decode b_m10_feed 40 = .ok (.invokevirtual 76, 3) := by decide +kernel
theorem d_m10_feed_43 : decode b_m10_feed 43 = .ok (.ireturn, 1) := by decide +kernel
theorem d_m10_feed_44 : decode b_m10_feed 44 = .ok (.aload_n 0, 1) := by decide +kernel
theorem d_m10_feed_45 : decode b_m10_feed 45 = .ok (.getfield 58, 3) := by decide +kernel
theorem d_m10_feed_48 : decode b_m10_feed 48 = .ok (.iload_n 1, 1) := by decide +kernel
theorem d_m10_feed_49 : decode b_m10_feed 49 = .ok (.iload_n 2, 1) := by decide +kernel
theorem d_m10_feed_50 : decode b_m10_feed 50 = .ok (.invokevirtual 160, 3) := by decide +kernel
theorem d_m10_feed_53 : decode b_m10_feed 53 = .ok (.aload_n 0, 1) := by decide +kernel
theorem d_m10_feed_54 : decode b_m10_feed 54 = .ok (.getfield 58, 3) := by decide +kernel
theorem d_m10_feed_57 : decode b_m10_feed 57 = .ok (.getfield 157, 3) := by decide +kernel
theorem d_m10_feed_60 : decode b_m10_feed 60 = .ok (.ireturn, 1) := by decide +kernel
def s_m10_feed (r0 : Nat) (a1 : Int32) (a2 : Int32) (M : Mm) : Option (Int32 × Mm) := (if 0 ≤ a2 then (if a2 ≤ (4 : Int32) then gR M r0 20 7 (fun v1 => gI M v1 18 1 (fun v2 => (if (v2 + a2) ≤ (80 : Int32) then gR M r0 20 7 (fun v3 => cl (has M v3 18) (s_m8_append v3 a1 a2 M) (fun _ M4 => gR M4 r0 20 7 (fun v5 => gI M4 v5 18 1 (fun v6 => some (v6, M4))))) else cl (has M r0 20) (s_m10_refuse r0 (-8 : Int32) M) (fun v7 M8 => some (v7, M8))))) else cl (has M r0 20) (s_m10_refuse r0 (-7 : Int32) M) (fun v9 M10 => some (v9, M10))) else cl (has M r0 20) (s_m10_refuse r0 (-4 : Int32) M) (fun v11 M12 => some (v11, M12)))
set_option maxRecDepth 100000 in
set_option maxHeartbeats 4000000 in
theorem ok_m10_feed {l : Launch} {V : Ev} {M M' : Mm} {r : Int32} {r0 : Nat} {a1 : Int32} {a2 : Int32} (h : s_m10_feed r0 a1 a2 M = some (r, M')) : Met l y_m10_feed (Cond.code y_m10_feed b_m10_feed 3 (some .int) :: TW) rm_m10_feed (va_Pc [rv V.1 r0, .int a1, .int a2] (Wd V M)) (QC V (some (.int r)) M' 0) 0 0 (Af V) := by
  refine met_of (fun x : Int32 => some (.int x)) (lv0 := [(0, rv V.1 r0), (1, .int a1), (2, .int a2)]) (by decide) (by simp [lg_sl, cat_rv, cat_i, cat_l, cat_f]) (by simp [lv_args, cat_rv, cat_i, cat_l, cat_f]) (fun C hl hR hC => ?_) h
  subst hl
  generalize mN M = n0 at hC ⊢
  unfold s_m10_feed
  refine Sm.iload_n hC d_m10_feed_0 rfl 2 rfl ?_
  refine Sm.if_ge (tgt := 11) hC d_m10_feed_1 (by decide) ?_ ?_
  · refine Sm.iload_n hC d_m10_feed_11 rfl 2 rfl ?_
    refine Sm.iconst (v := 4) hC d_m10_feed_12 (by decide) ?_
    refine Sm.icmp_le (tgt := 23) hC d_m10_feed_13 (by decide) ?_ ?_
    · refine Sm.aload_n hC d_m10_feed_23 rfl 0 rfl ?_
      refine Sm.getR hC fl_m10_58 rfl d_m10_feed_24 (fun v1 => ?_)
      refine Sm.getI hC fl_m10_157 rfl d_m10_feed_27 (fun v2 => ?_)
      refine Sm.iload_n hC d_m10_feed_30 rfl 2 rfl ?_
      refine Sm.iadd hC d_m10_feed_31 ?_
      refine Sm.bipush (v := 80) hC d_m10_feed_32 (by decide) ?_
      refine Sm.icmp_le (tgt := 44) hC d_m10_feed_34 (by decide) ?_ ?_
      · refine Sm.aload_n hC d_m10_feed_44 rfl 0 rfl ?_
        refine Sm.getR hC fl_m10_58 rfl d_m10_feed_45 (fun v3 => ?_)
        refine Sm.iload_n hC d_m10_feed_48 rfl 1 rfl ?_
        refine Sm.iload_n hC d_m10_feed_49 rfl 2 rfl ?_
        refine Sm.callVv 8 (As := [.int a1, .int a2]) (st := []) hC hR cw_m8_append (tw_i 469 (by decide +kernel)) (tw_i 470 (by decide +kernel)) (tw_i 471 (by decide +kernel)) ⟨_, rfl, rfl⟩ (fun r9 M9 h9 => ok_m8_append h9) rfl rfl (RW.of ⟨rfl, rfl, by decide, by decide⟩) (by simp) d_m10_feed_50 (fun _ M4 => ?_)
        refine Sm.aload_n hC d_m10_feed_53 rfl 0 rfl ?_
        refine Sm.getR hC fl_m10_58 rfl d_m10_feed_54 (fun v5 => ?_)
        refine Sm.getI hC fl_m10_157 rfl d_m10_feed_57 (fun v6 => ?_)
        exact Sm.iret hC d_m10_feed_60 rfl (Nat.sub_self _)
      · refine Sm.aload_n hC d_m10_feed_37 rfl 0 rfl ?_
        refine Sm.bipush (v := -8) hC d_m10_feed_38 (by decide) ?_
        refine Sm.callVi 10 (As := [.int (-8 : Int32)]) (st := []) hC hR cw_m10_refuse (tw_i 410 (by decide +kernel)) (tw_i 412 (by decide +kernel)) (tw_i 0 (by decide +kernel)) ⟨_, rfl, rfl⟩ (fun r9 M9 h9 => ok_m10_refuse h9) rfl rfl (RW.of ⟨rfl, rfl, by decide, by decide⟩) (by simp) d_m10_feed_40 (fun v7 M8 => ?_)
        exact Sm.iret hC d_m10_feed_43 rfl (Nat.sub_self _)
    · refine Sm.aload_n hC d_m10_feed_16 rfl 0 rfl ?_
      refine Sm.bipush (v := -7) hC d_m10_feed_17 (by decide) ?_
      refine Sm.callVi 10 (As := [.int (-7 : Int32)]) (st := []) hC hR cw_m10_refuse (tw_i 410 (by decide +kernel)) (tw_i 412 (by decide +kernel)) (tw_i 0 (by decide +kernel)) ⟨_, rfl, rfl⟩ (fun r9 M9 h9 => ok_m10_refuse h9) rfl rfl (RW.of ⟨rfl, rfl, by decide, by decide⟩) (by simp) d_m10_feed_19 (fun v9 M10 => ?_)
      exact Sm.iret hC d_m10_feed_22 rfl (Nat.sub_self _)
  · refine Sm.aload_n hC d_m10_feed_4 rfl 0 rfl ?_
    refine Sm.bipush (v := -4) hC d_m10_feed_5 (by decide) ?_
    refine Sm.callVi 10 (As := [.int (-4 : Int32)]) (st := []) hC hR cw_m10_refuse (tw_i 410 (by decide +kernel)) (tw_i 412 (by decide +kernel)) (tw_i 0 (by decide +kernel)) ⟨_, rfl, rfl⟩ (fun r9 M9 h9 => ok_m10_refuse h9) rfl rfl (RW.of ⟨rfl, rfl, by decide, by decide⟩) (by simp) d_m10_feed_7 (fun v11 M12 => ?_)
    exact Sm.iret hC d_m10_feed_10 rfl (Nat.sub_self _)
/-! NewsWire.wipe()I -/
abbrev b_m10_wipe : ByteArray := prog_1_method_16_code
def y_m10_wipe : MethodName := ⟨"NewsWire", "wipe", "()I"⟩
def rm_m10_wipe : Room := { frames := 1, cells := 0, slots := 0, locals := 60 }
theorem cw_m10_wipe : CW y_m10_wipe b_m10_wipe 2 (some .int) 0 := ⟨tw_i 55 (by decide +kernel), tw_i 476 (by decide +kernel), by decide, by decide, by decide +kernel⟩
theorem d_m10_wipe_0 : decode b_m10_wipe 0 = .ok (.aload_n 0, 1) := by decide +kernel
theorem d_m10_wipe_1 : decode b_m10_wipe 1 = .ok (.getfield 58, 3) := by decide +kernel
theorem d_m10_wipe_4 : decode b_m10_wipe 4 = .ok (.getfield 157, 3) := by decide +kernel
theorem d_m10_wipe_7 : decode b_m10_wipe 7 = .ok (.istore_n 1, 1) := by decide +kernel
theorem d_m10_wipe_8 : decode b_m10_wipe 8 = .ok (.aload_n 0, 1) := by decide +kernel
theorem d_m10_wipe_9 : decode b_m10_wipe 9 = .ok (.getfield 58, 3) := by decide +kernel
theorem d_m10_wipe_12 : decode b_m10_wipe 12 = .ok (.iconst 0, 1) := by decide +kernel
theorem d_m10_wipe_13 : decode b_m10_wipe 13 = .ok (.putfield 157, 3) := by decide +kernel
theorem d_m10_wipe_16 : decode b_m10_wipe 16 = .ok (.iload_n 1, 1) := by decide +kernel
theorem d_m10_wipe_17 : decode b_m10_wipe 17 = .ok (.ireturn, 1) := by decide +kernel
def s_m10_wipe (r0 : Nat) (M : Mm) : Option (Int32 × Mm) := gR M r0 20 7 (fun v1 => gI M v1 18 1 (fun v2 => gR M r0 20 7 (fun v3 => pI M v3 18 1 (0 : Int32) (fun M4 => some (v2, M4)))))
set_option maxRecDepth 100000 in
set_option maxHeartbeats 4000000 in
theorem ok_m10_wipe {l : Launch} {V : Ev} {M M' : Mm} {r : Int32} {r0 : Nat} (h : s_m10_wipe r0 M = some (r, M')) : Met l y_m10_wipe (Cond.code y_m10_wipe b_m10_wipe 2 (some .int) :: TW) rm_m10_wipe (va_Pc [rv V.1 r0] (Wd V M)) (QC V (some (.int r)) M' 0) 0 0 (Af V) := by
  refine met_of (fun x : Int32 => some (.int x)) (lv0 := [(0, rv V.1 r0)]) (by decide) (by simp [lg_sl, cat_rv, cat_i, cat_l, cat_f]) (by simp [lv_args, cat_rv, cat_i, cat_l, cat_f]) (fun C hl hR hC => ?_) h
  subst hl
  generalize mN M = n0 at hC ⊢
  unfold s_m10_wipe
  refine Sm.aload_n hC d_m10_wipe_0 rfl 0 rfl ?_
  refine Sm.getR hC fl_m10_58 rfl d_m10_wipe_1 (fun v1 => ?_)
  refine Sm.getI hC fl_m10_157 rfl d_m10_wipe_4 (fun v2 => ?_)
  refine Sm.istore_n (lv' := [(1, .int v2), (0, rv V.1 r0)]) hC d_m10_wipe_7 rfl (by decide) (by simp [cat_rv]) ?_
  refine Sm.aload_n hC d_m10_wipe_8 rfl 1 rfl ?_
  refine Sm.getR hC fl_m10_58 rfl d_m10_wipe_9 (fun v3 => ?_)
  refine Sm.iconst (v := 0) hC d_m10_wipe_12 (by decide) ?_
  refine Sm.putI hC fl_m10_157 rfl d_m10_wipe_13 (fun M4 => ?_)
  refine Sm.iload_n hC d_m10_wipe_16 rfl 0 rfl ?_
  exact Sm.iret hC d_m10_wipe_17 rfl (Nat.sub_self _)
/-! NewsWire.mostOfKey(I)I -/
abbrev b_m10_mostOfKey : ByteArray := prog_1_method_21_code
def y_m10_mostOfKey : MethodName := ⟨"NewsWire", "mostOfKey", "(I)I"⟩
def rm_m10_mostOfKey : Room := { frames := 1, cells := 0, slots := 0, locals := 60 }
theorem cw_m10_mostOfKey : CW y_m10_mostOfKey b_m10_mostOfKey 1 (some .int) 1 := ⟨tw_i 55 (by decide +kernel), tw_i 584 (by decide +kernel), by decide, by decide, by decide +kernel⟩
theorem d_m10_mostOfKey_0 : decode b_m10_mostOfKey 0 = .ok (.iload_n 0, 1) := by decide +kernel
theorem d_m10_mostOfKey_1 : decode b_m10_mostOfKey 1 = .ok (.lookupswitch 33 #[(0, 27), (1, 30)], 27) := by decide +kernel
theorem d_m10_mostOfKey_28 : decode b_m10_mostOfKey 28 = .ok (.bipush 9, 2) := by decide +kernel
theorem d_m10_mostOfKey_30 : decode b_m10_mostOfKey 30 = .ok (.ireturn, 1) := by decide +kernel
theorem d_m10_mostOfKey_31 : decode b_m10_mostOfKey 31 = .ok (.bipush 7, 2) := by decide +kernel
theorem d_m10_mostOfKey_33 : decode b_m10_mostOfKey 33 = .ok (.ireturn, 1) := by decide +kernel
theorem d_m10_mostOfKey_34 : decode b_m10_mostOfKey 34 = .ok (.bipush 9, 2) := by decide +kernel
theorem d_m10_mostOfKey_36 : decode b_m10_mostOfKey 36 = .ok (.ireturn, 1) := by decide +kernel
def s_m10_mostOfKey (a0 : Int32) (M : Mm) : Option (Int32 × Mm) := (if a0 = 0 then some ((9 : Int32), M) else if a0 = 1 then some ((7 : Int32), M) else some ((9 : Int32), M))
set_option maxRecDepth 100000 in
set_option maxHeartbeats 4000000 in
theorem ok_m10_mostOfKey {l : Launch} {V : Ev} {M M' : Mm} {r : Int32} {a0 : Int32} (h : s_m10_mostOfKey a0 M = some (r, M')) : Met l y_m10_mostOfKey (Cond.code y_m10_mostOfKey b_m10_mostOfKey 1 (some .int) :: TW) rm_m10_mostOfKey (va_Pc [.int a0] (Wd V M)) (QC V (some (.int r)) M' 0) 0 0 (Af V) := by
  refine met_of (fun x : Int32 => some (.int x)) (lv0 := [(0, .int a0)]) (by decide) (by simp [lg_sl, cat_rv, cat_i, cat_l, cat_f]) (by simp [lv_args, cat_rv, cat_i, cat_l, cat_f]) (fun C hl hR hC => ?_) h
  subst hl
  generalize mN M = n0 at hC ⊢
  unfold s_m10_mostOfKey
  refine Sm.iload_n hC d_m10_mostOfKey_0 rfl 0 rfl ?_
  refine Sm.if_ (fun h9 => ?_) (fun h1_0 => ?_)
  · refine Sm.lsw (tgt := 28) (off := 27) hC d_m10_mostOfKey_1 (by decide) (by rw [h9] <;> rfl) (by decide) ?_
    refine Sm.bipush (v := 9) hC d_m10_mostOfKey_28 (by decide) ?_
    exact Sm.iret hC d_m10_mostOfKey_30 rfl (Nat.sub_self _)
  refine Sm.if_ (fun h9 => ?_) (fun h1_1 => ?_)
  · refine Sm.lsw (tgt := 31) (off := 30) hC d_m10_mostOfKey_1 (by decide) (by rw [h9] <;> rfl) (by decide) ?_
    refine Sm.bipush (v := 7) hC d_m10_mostOfKey_31 (by decide) ?_
    exact Sm.iret hC d_m10_mostOfKey_33 rfl (Nat.sub_self _)
  refine Sm.lsw (tgt := 34) (off := 33) hC d_m10_mostOfKey_1 (by decide) ((lv_osw h1_0 rfl).trans ((lv_osw h1_1 rfl).trans (rfl))) (by decide) ?_
  refine Sm.bipush (v := 9) hC d_m10_mostOfKey_34 (by decide) ?_
  exact Sm.iret hC d_m10_mostOfKey_36 rfl (Nat.sub_self _)
/-! NewsWire.rule(II)I -/
theorem fl_m10_30 : FL "NewsWire" 30 10 3 2 true (.object "NewsWire$Rules") := ⟨_, _, _, _, rfl, in_c10, ty_c10, nm_c10, by decide, rfl, tw_i 360 (by decide +kernel), rfl, rfl, rfl, rfl⟩
theorem fl_m10_164 : FL "NewsWire" 164 6 1 0 false .int := ⟨_, _, _, _, rfl, in_c6, ty_c6, nm_c6, by decide, rfl, tw_i 135 (by decide +kernel), rfl, rfl, rfl, rfl⟩
theorem fl_m10_167 : FL "NewsWire" 167 6 0 2 true (.array (.object "NewsWire$Rule")) := ⟨_, _, _, _, rfl, in_c6, ty_c6, nm_c6, by decide, rfl, tw_i 133 (by decide +kernel), rfl, rfl, rfl, rfl⟩
theorem fl_m10_177 : FL "NewsWire" 177 5 5 0 false .int := ⟨_, _, _, _, rfl, in_c5, ty_c5, nm_c5, by decide, rfl, tw_i 109 (by decide +kernel), rfl, rfl, rfl, rfl⟩
theorem fl_m10_180 : FL "NewsWire" 180 5 4 0 false .int := ⟨_, _, _, _, rfl, in_c5, ty_c5, nm_c5, by decide, rfl, tw_i 106 (by decide +kernel), rfl, rfl, rfl, rfl⟩
theorem fl_m10_186 : FL "NewsWire" 186 5 6 0 false .int := ⟨_, _, _, _, rfl, in_c5, ty_c5, nm_c5, by decide, rfl, tw_i 111 (by decide +kernel), rfl, rfl, rfl, rfl⟩
theorem fl_m10_189 : FL "NewsWire" 189 5 7 0 false .int := ⟨_, _, _, _, rfl, in_c5, ty_c5, nm_c5, by decide, rfl, tw_i 113 (by decide +kernel), rfl, rfl, rfl, rfl⟩
abbrev b_m10_rule : ByteArray := prog_1_method_17_code
def y_m10_rule : MethodName := ⟨"NewsWire", "rule", "(II)I"⟩
def rm_m10_rule : Room := { frames := 9, cells := 0, slots := 0, locals := 244 }
theorem cw_m10_rule : CW y_m10_rule b_m10_rule 5 (some .int) 2 := ⟨tw_i 55 (by decide +kernel), tw_i 480 (by decide +kernel), by decide, by decide, by decide +kernel⟩
theorem d_m10_rule_0 : decode b_m10_rule 0 = .ok (.iload_n 1, 1) := by decide +kernel
theorem d_m10_rule_1 : decode b_m10_rule 1 = .ok (.ifCond .lt 14, 3) := by decide +kernel
theorem d_m10_rule_4 : decode b_m10_rule 4 = .ok (.iload_n 2, 1) := by decide +kernel
theorem d_m10_rule_5 : decode b_m10_rule 5 = .ok (.ldc 149, 2) := by decide +kernel
theorem d_m10_rule_7 : decode b_m10_rule 7 = .ok (.if_icmp .gt 8, 3) := by decide +kernel
theorem d_m10_rule_10 : decode b_m10_rule 10 = .ok (.iload_n 1, 1) := by decide +kernel
theorem d_m10_rule_11 : decode b_m10_rule 11 = .ok (.iload_n 2, 1) := by decide +kernel
theorem d_m10_rule_12 : decode b_m10_rule 12 = .ok (.if_icmp .lt 10, 3) := by decide +kernel
theorem d_m10_rule_15 : decode b_m10_rule 15 = .ok (.aload_n 0, 1) := by decide +kernel
theorem d_m10_rule_16 : decode b_m10_rule 16 = .ok (.bipush (-7), 2) := by decide +kernel
theorem d_m10_rule_18 : decode b_m10_rule 18 = .ok (.invokevirtual 76, 3) := by decide +kernel
theorem d_m10_rule_21 : decode b_m10_rule 21 = .ok (.ireturn, 1) := by decide +kernel
theorem d_m10_rule_22 : decode b_m10_rule 22 = .ok (.aload_n 0, 1) := by decide +kernel
theorem d_m10_rule_23 : decode b_m10_rule 23 = .ok (.getfield 30, 3) := by decide +kernel
theorem d_m10_rule_26 : decode b_m10_rule 26 = .ok (.getfield 164, 3) := by decide +kernel
theorem d_m10_rule_29 : decode b_m10_rule 29 = .ok (.bipush 10, 2) := by decide +kernel
theorem d_m10_rule_31 : decode b_m10_rule 31 = .ok (.if_icmp .lt 10, 3) := by decide +kernel
theorem d_m10_rule_34 : decode b_m10_rule 34 = .ok (.aload_n 0, 1) := by decide +kernel
theorem d_m10_rule_35 : decode b_m10_rule 35 = .ok (.bipush (-8), 2) := by decide +kernel
theorem d_m10_rule_37 : decode b_m10_rule 37 = .ok (.invokevirtual 76, 3) := by decide +kernel
theorem d_m10_rule_40 : decode b_m10_rule 40 = .ok (.ireturn, 1) := by decide +kernel
theorem d_m10_rule_41 : decode b_m10_rule 41 = .ok (.aload_n 0, 1) := by decide +kernel
theorem d_m10_rule_42 : decode b_m10_rule 42 = .ok (.getfield 30, 3) := by decide +kernel
theorem d_m10_rule_45 : decode b_m10_rule 45 = .ok (.getfield 167, 3) := by decide +kernel
theorem d_m10_rule_48 : decode b_m10_rule 48 = .ok (.aload_n 0, 1) := by decide +kernel
theorem d_m10_rule_49 : decode b_m10_rule 49 = .ok (.getfield 30, 3) := by decide +kernel
theorem d_m10_rule_52 : decode b_m10_rule 52 = .ok (.getfield 164, 3) := by decide +kernel
theorem d_m10_rule_55 : decode b_m10_rule 55 = .ok (.aaload, 1) := by decide +kernel
theorem d_m10_rule_56 : decode b_m10_rule 56 = .ok (.astore_n 3, 1) := by decide +kernel
theorem d_m10_rule_57 : decode b_m10_rule 57 = .ok (.aload_n 3, 1) := by decide +kernel
theorem d_m10_rule_58 : decode b_m10_rule 58 = .ok (.aload_n 0, 1) := by decide +kernel
theorem d_m10_rule_59 : decode b_m10_rule 59 = .ok (.getfield 58, 3) := by decide +kernel
theorem d_m10_rule_62 : decode b_m10_rule 62 = .ok (.invokevirtual 171, 3) := by decide +kernel
theorem d_m10_rule_65 : decode b_m10_rule 65 = .ok (.istore 4, 2) := by decide +kernel
theorem d_m10_rule_67 : decode b_m10_rule 67 = .ok (.iload 4, 2) := by decide +kernel
theorem d_m10_rule_69 : decode b_m10_rule 69 = .ok (.iconst (-1), 1) := by decide +kernel
theorem d_m10_rule_70 : decode b_m10_rule 70 = .ok (.if_icmp .eq 9, 3) := by decide +kernel
theorem d_m10_rule_73 : decode b_m10_rule 73 = .ok (.bipush (-10), 2) := by decide +kernel
theorem d_m10_rule_75 : decode b_m10_rule 75 = .ok (.iload 4, 2) := by decide +kernel
theorem d_m10_rule_77 : decode b_m10_rule 77 = .ok (.isub, 1) := by decide +kernel
theorem d_m10_rule_78 : decode b_m10_rule 78 = .ok (.ireturn, 1) := by decide +kernel
theorem d_m10_rule_79 : decode b_m10_rule 79 = .ok (.aload_n 3, 1) := by decide +kernel
theorem d_m10_rule_80 : decode b_m10_rule 80 = .ok (.getfield 177, 3) := by decide +kernel
theorem d_m10_rule_83 : decode b_m10_rule 83 = .ok (.aload_n 3, 1) := by decide +kernel
theorem d_m10_rule_84 : decode b_m10_rule 84 = .ok (.getfield 180, 3) := by decide +kernel
theorem d_m10_rule_87 : decode b_m10_rule 87 = .ok (.invokestatic 183, 3) := by decide +kernel
theorem d_m10_rule_90 : decode b_m10_rule 90 = .ok (.if_icmp .le 10, 3) := by decide +kernel
theorem d_m10_rule_93 : decode b_m10_rule 93 = .ok (.aload_n 0, 1) := by decide +kernel
theorem d_m10_rule_94 : decode b_m10_rule 94 = .ok (.bipush (-7), 2) := by decide +kernel
theorem d_m10_rule_96 : decode b_m10_rule 96 = .ok (.invokevirtual 76, 3) := by decide +kernel
theorem d_m10_rule_99 : decode b_m10_rule 99 = .ok (.ireturn, 1) := by decide +kernel
theorem d_m10_rule_100 : decode b_m10_rule 100 = .ok (.aload_n 3, 1) := by decide +kernel
theorem d_m10_rule_101 : decode b_m10_rule 101 = .ok (.iload_n 1, 1) := by decide +kernel
theorem d_m10_rule_102 : decode b_m10_rule 102 = .ok (.putfield 186, 3) := by decide +kernel
theorem d_m10_rule_105 : decode b_m10_rule 105 = .ok (.aload_n 3, 1) := by decide +kernel
theorem d_m10_rule_106 : decode b_m10_rule 106 = .ok (.iload_n 2, 1) := by decide +kernel
theorem d_m10_rule_107 : decode b_m10_rule 107 = .ok (.putfield 189, 3) := by decide +kernel
theorem d_m10_rule_110 : decode b_m10_rule 110 = .ok (.aload_n 0, 1) := by decide +kernel
theorem d_m10_rule_111 : decode b_m10_rule 111 = .ok (.getfield 30, 3) := by decide +kernel
theorem d_m10_rule_114 : decode b_m10_rule 114 = .ok (.dup, 1) := by decide +kernel
theorem d_m10_rule_115 : decode b_m10_rule 115 = .ok (.getfield 164, 3) := by decide +kernel
theorem d_m10_rule_118 : decode b_m10_rule 118 = .ok (.iconst 1, 1) := by decide +kernel
theorem d_m10_rule_119 : decode b_m10_rule 119 = .ok (.iadd, 1) := by decide +kernel
theorem d_m10_rule_120 : decode b_m10_rule 120 = .ok (.putfield 164, 3) := by decide +kernel
theorem d_m10_rule_123 : decode b_m10_rule 123 = .ok (.aload_n 0, 1) := by decide +kernel
theorem d_m10_rule_124 : decode b_m10_rule 124 = .ok (.getfield 58, 3) := by decide +kernel
theorem d_m10_rule_127 : decode b_m10_rule 127 = .ok (.iconst 0, 1) := by decide +kernel
theorem d_m10_rule_128 : decode b_m10_rule 128 = .ok (.putfield 157, 3) := by decide +kernel
theorem d_m10_rule_131 : decode b_m10_rule 131 = .ok (.aload_n 0, 1) := by decide +kernel
theorem d_m10_rule_132 : decode b_m10_rule 132 = .ok (.getfield 30, 3) := by decide +kernel
theorem d_m10_rule_135 : decode b_m10_rule 135 = .ok (.getfield 164, 3) := by decide +kernel
theorem d_m10_rule_138 : decode b_m10_rule 138 = .ok (.iconst 1, 1) := by decide +kernel
theorem d_m10_rule_139 : decode b_m10_rule 139 = .ok (.isub, 1) := by decide +kernel
theorem d_m10_rule_140 : decode b_m10_rule 140 = .ok (.ireturn, 1) := by decide +kernel
def s_m10_rule_15  (r0 : Nat) (M : Mm) : Option (Int32 × Mm) := cl (has M r0 20) (s_m10_refuse r0 (-7 : Int32) M) (fun v1 M2 => some (v1, M2))
def s_m10_rule (r0 : Nat) (a1 : Int32) (a2 : Int32) (M : Mm) : Option (Int32 × Mm) := (if a1 < 0 then s_m10_rule_15 r0 M else (if (100000 : Int32) < a2 then s_m10_rule_15 r0 M else (if a1 < a2 then gR M r0 20 3 (fun v1 => gI M v1 16 1 (fun v2 => (if v2 < (10 : Int32) then gR M r0 20 3 (fun v3 => gR M v3 16 0 (fun v4 => gR M r0 20 3 (fun v5 => gI M v5 16 1 (fun v6 => aR M v4 4 v6 (fun v7 => gR M r0 20 7 (fun v8 => cl (has M v7 15) (s_m5_readFrom v7 v8 M) (fun v9 M10 => (if v9 = (-1 : Int32) then gI M10 v7 15 5 (fun v11 => gI M10 v7 15 4 (fun v12 => cl true (s_m10_mostOfKey v12 M10) (fun v13 M14 => (if v11 ≤ v13 then pI M14 v7 15 6 a1 (fun M15 => pI M15 v7 15 7 a2 (fun M16 => gR M16 r0 20 3 (fun v17 => gI M16 v17 16 1 (fun v18 => pI M16 v17 16 1 (v18 + (1 : Int32)) (fun M19 => gR M19 r0 20 7 (fun v20 => pI M19 v20 18 1 (0 : Int32) (fun M21 => gR M21 r0 20 3 (fun v22 => gI M21 v22 16 1 (fun v23 => some (v23 - (1 : Int32), M21)))))))))) else cl (has M14 r0 20) (s_m10_refuse r0 (-7 : Int32) M14) (fun v24 M25 => some (v24, M25)))))) else some ((-10 : Int32) - v9, M10))))))))) else cl (has M r0 20) (s_m10_refuse r0 (-8 : Int32) M) (fun v26 M27 => some (v26, M27))))) else s_m10_rule_15 r0 M)))
set_option maxRecDepth 100000 in
set_option maxHeartbeats 4000000 in
theorem w_m10_rule_15 {V : Ev} {C : Cx} {n0 : Nat} (hC : Cok V C y_m10_rule.cls b_m10_rule 5 n0 (some .int) y_m10_rule.name) (hR : cR C = rm_m10_rule)  : ∀ (r0 : Nat) (M : Mm), Sm V C 5 n0 n0 (qI V C) 15 [(0, rv V.1 r0)] [] M (s_m10_rule_15 r0 M) := by
  intro r0 M
  unfold s_m10_rule_15
  refine Sm.aload_n hC d_m10_rule_15 rfl 0 rfl ?_
  refine Sm.bipush (v := -7) hC d_m10_rule_16 (by decide) ?_
  refine Sm.callVi 10 (As := [.int (-7 : Int32)]) (st := []) hC hR cw_m10_refuse (tw_i 410 (by decide +kernel)) (tw_i 412 (by decide +kernel)) (tw_i 0 (by decide +kernel)) ⟨_, rfl, rfl⟩ (fun r9 M9 h9 => ok_m10_refuse h9) rfl rfl (RW.of ⟨rfl, rfl, by decide, by decide⟩) (by simp) d_m10_rule_18 (fun v1 M2 => ?_)
  exact Sm.iret hC d_m10_rule_21 rfl (Nat.sub_self _)
set_option maxRecDepth 100000 in
set_option maxHeartbeats 4000000 in
theorem ok_m10_rule {l : Launch} {V : Ev} {M M' : Mm} {r : Int32} {r0 : Nat} {a1 : Int32} {a2 : Int32} (h : s_m10_rule r0 a1 a2 M = some (r, M')) : Met l y_m10_rule (Cond.code y_m10_rule b_m10_rule 5 (some .int) :: TW) rm_m10_rule (va_Pc [rv V.1 r0, .int a1, .int a2] (Wd V M)) (QC V (some (.int r)) M' 0) 0 0 (Af V) := by
  refine met_of (fun x : Int32 => some (.int x)) (lv0 := [(0, rv V.1 r0), (1, .int a1), (2, .int a2)]) (by decide) (by simp [lg_sl, cat_rv, cat_i, cat_l, cat_f]) (by simp [lv_args, cat_rv, cat_i, cat_l, cat_f]) (fun C hl hR hC => ?_) h
  subst hl
  generalize mN M = n0 at hC ⊢
  unfold s_m10_rule
  refine Sm.iload_n hC d_m10_rule_0 rfl 1 rfl ?_
  refine Sm.if_lt (tgt := 15) hC d_m10_rule_1 (by decide) ?_ ?_
  · refine Sm.sub [0] rfl ?_
    exact w_m10_rule_15 hC hR r0 M
  · refine Sm.iload_n hC d_m10_rule_4 rfl 2 rfl ?_
    refine Sm.ldc (v := 100000) hC d_m10_rule_5 (tw_i 443 (by decide +kernel)) ?_
    refine Sm.icmp_gt (tgt := 15) hC d_m10_rule_7 (by decide) ?_ ?_
    · refine Sm.sub [0] rfl ?_
      exact w_m10_rule_15 hC hR r0 M
    · refine Sm.iload_n hC d_m10_rule_10 rfl 1 rfl ?_
      refine Sm.iload_n hC d_m10_rule_11 rfl 2 rfl ?_
      refine Sm.icmp_lt (tgt := 22) hC d_m10_rule_12 (by decide) ?_ ?_
      · refine Sm.aload_n hC d_m10_rule_22 rfl 0 rfl ?_
        refine Sm.getR hC fl_m10_30 rfl d_m10_rule_23 (fun v1 => ?_)
        refine Sm.getI hC fl_m10_164 rfl d_m10_rule_26 (fun v2 => ?_)
        refine Sm.bipush (v := 10) hC d_m10_rule_29 (by decide) ?_
        refine Sm.icmp_lt (tgt := 41) hC d_m10_rule_31 (by decide) ?_ ?_
        · refine Sm.aload_n hC d_m10_rule_41 rfl 0 rfl ?_
          refine Sm.getR hC fl_m10_30 rfl d_m10_rule_42 (fun v3 => ?_)
          refine Sm.getR hC fl_m10_167 rfl d_m10_rule_45 (fun v4 => ?_)
          refine Sm.aload_n hC d_m10_rule_48 rfl 0 rfl ?_
          refine Sm.getR hC fl_m10_30 rfl d_m10_rule_49 (fun v5 => ?_)
          refine Sm.getI hC fl_m10_164 rfl d_m10_rule_52 (fun v6 => ?_)
          refine Sm.aald (Cn := n_c5) hC ⟨by decide, by decide⟩ rfl d_m10_rule_55 (fun v7 => ?_)
          refine Sm.astore_n (lv' := [(3, rv V.1 v7), (0, rv V.1 r0), (1, .int a1), (2, .int a2)]) hC d_m10_rule_56 rfl (by decide) rfl ?_
          refine Sm.aload_n hC d_m10_rule_57 rfl 0 rfl ?_
          refine Sm.aload_n hC d_m10_rule_58 rfl 1 rfl ?_
          refine Sm.getR hC fl_m10_58 rfl d_m10_rule_59 (fun v8 => ?_)
          refine Sm.callVi 5 (As := [rv V.1 v8]) (st := []) hC hR cw_m5_readFrom (tw_i 481 (by decide +kernel)) (tw_i 482 (by decide +kernel)) (tw_i 483 (by decide +kernel)) ⟨_, rfl, rfl⟩ (fun r9 M9 h9 => ok_m5_readFrom h9) rfl rfl (RW.of ⟨rfl, rfl, by decide, by decide⟩) (by simp) d_m10_rule_62 (fun v9 M10 => ?_)
          refine Sm.istore (lv' := [(4, .int v9), (3, rv V.1 v7), (0, rv V.1 r0), (1, .int a1), (2, .int a2)]) hC d_m10_rule_65 (by decide) (by simp [cat_rv]) ?_
          refine Sm.iload hC d_m10_rule_67 0 rfl ?_
          refine Sm.iconst (v := -1) hC d_m10_rule_69 (by decide) ?_
          refine Sm.icmp_eq (tgt := 79) hC d_m10_rule_70 (by decide) ?_ ?_
          · refine Sm.aload_n hC d_m10_rule_79 rfl 1 rfl ?_
            refine Sm.getI hC fl_m10_177 rfl d_m10_rule_80 (fun v11 => ?_)
            refine Sm.aload_n hC d_m10_rule_83 rfl 1 rfl ?_
            refine Sm.getI hC fl_m10_180 rfl d_m10_rule_84 (fun v12 => ?_)
            refine Sm.callSi (As := [.int v12]) (st := [.int v11]) hC hR cw_m10_mostOfKey (tw_i 582 (by decide +kernel)) (tw_i 583 (by decide +kernel)) (fun r9 M9 h9 => ok_m10_mostOfKey h9) rfl rfl (RW.of ⟨rfl, rfl, by decide, by decide⟩) (by simp) d_m10_rule_87 (fun v13 M14 => ?_)
            refine Sm.icmp_le (tgt := 100) hC d_m10_rule_90 (by decide) ?_ ?_
            · refine Sm.aload_n hC d_m10_rule_100 rfl 1 rfl ?_
              refine Sm.iload_n hC d_m10_rule_101 rfl 3 rfl ?_
              refine Sm.putI hC fl_m10_186 rfl d_m10_rule_102 (fun M15 => ?_)
              refine Sm.aload_n hC d_m10_rule_105 rfl 1 rfl ?_
              refine Sm.iload_n hC d_m10_rule_106 rfl 4 rfl ?_
              refine Sm.putI hC fl_m10_189 rfl d_m10_rule_107 (fun M16 => ?_)
              refine Sm.aload_n hC d_m10_rule_110 rfl 2 rfl ?_
              refine Sm.getR hC fl_m10_30 rfl d_m10_rule_111 (fun v17 => ?_)
              refine Sm.dup hC d_m10_rule_114 (cat_rv _ _) ?_
              refine Sm.getI hC fl_m10_164 rfl d_m10_rule_115 (fun v18 => ?_)
              refine Sm.iconst (v := 1) hC d_m10_rule_118 (by decide) ?_
              refine Sm.iadd hC d_m10_rule_119 ?_
              refine Sm.putI hC fl_m10_164 rfl d_m10_rule_120 (fun M19 => ?_)
              refine Sm.aload_n hC d_m10_rule_123 rfl 2 rfl ?_
              refine Sm.getR hC fl_m10_58 rfl d_m10_rule_124 (fun v20 => ?_)
              refine Sm.iconst (v := 0) hC d_m10_rule_127 (by decide) ?_
              refine Sm.putI hC fl_m10_157 rfl d_m10_rule_128 (fun M21 => ?_)
              refine Sm.aload_n hC d_m10_rule_131 rfl 2 rfl ?_
              refine Sm.getR hC fl_m10_30 rfl d_m10_rule_132 (fun v22 => ?_)
              refine Sm.getI hC fl_m10_164 rfl d_m10_rule_135 (fun v23 => ?_)
              refine Sm.iconst (v := 1) hC d_m10_rule_138 (by decide) ?_
              refine Sm.isub hC d_m10_rule_139 ?_
              exact Sm.iret hC d_m10_rule_140 rfl (Nat.sub_self _)
            · refine Sm.aload_n hC d_m10_rule_93 rfl 2 rfl ?_
              refine Sm.bipush (v := -7) hC d_m10_rule_94 (by decide) ?_
              refine Sm.callVi 10 (As := [.int (-7 : Int32)]) (st := []) hC hR cw_m10_refuse (tw_i 410 (by decide +kernel)) (tw_i 412 (by decide +kernel)) (tw_i 0 (by decide +kernel)) ⟨_, rfl, rfl⟩ (fun r9 M9 h9 => ok_m10_refuse h9) rfl rfl (RW.of ⟨rfl, rfl, by decide, by decide⟩) (by simp) d_m10_rule_96 (fun v24 M25 => ?_)
              exact Sm.iret hC d_m10_rule_99 rfl (Nat.sub_self _)
          · refine Sm.bipush (v := -10) hC d_m10_rule_73 (by decide) ?_
            refine Sm.iload hC d_m10_rule_75 0 rfl ?_
            refine Sm.isub hC d_m10_rule_77 ?_
            exact Sm.iret hC d_m10_rule_78 rfl (Nat.sub_self _)
        · refine Sm.aload_n hC d_m10_rule_34 rfl 0 rfl ?_
          refine Sm.bipush (v := -8) hC d_m10_rule_35 (by decide) ?_
          refine Sm.callVi 10 (As := [.int (-8 : Int32)]) (st := []) hC hR cw_m10_refuse (tw_i 410 (by decide +kernel)) (tw_i 412 (by decide +kernel)) (tw_i 0 (by decide +kernel)) ⟨_, rfl, rfl⟩ (fun r9 M9 h9 => ok_m10_refuse h9) rfl rfl (RW.of ⟨rfl, rfl, by decide, by decide⟩) (by simp) d_m10_rule_37 (fun v26 M27 => ?_)
          exact Sm.iret hC d_m10_rule_40 rfl (Nat.sub_self _)
      · refine Sm.sub [0] rfl ?_
        exact w_m10_rule_15 hC hR r0 M
/-! NewsWire.holds(III)I -/
theorem fl_m10_195 : FL "NewsWire" 195 10 12 0 false .int := ⟨_, _, _, _, rfl, in_c10, ty_c10, nm_c10, by decide, rfl, tw_i 369 (by decide +kernel), rfl, rfl, rfl, rfl⟩
abbrev b_m10_holds : ByteArray := prog_1_method_18_code
def y_m10_holds : MethodName := ⟨"NewsWire", "holds", "(III)I"⟩
def rm_m10_holds : Room := { frames := 3, cells := 0, slots := 0, locals := 107 }
theorem cw_m10_holds : CW y_m10_holds b_m10_holds 4 (some .int) 3 := ⟨tw_i 55 (by decide +kernel), tw_i 589 (by decide +kernel), by decide, by decide, by decide +kernel⟩
theorem d_m10_holds_0 : decode b_m10_holds 0 = .ok (.iload_n 1, 1) := by decide +kernel
theorem d_m10_holds_1 : decode b_m10_holds 1 = .ok (.ifCond .lt 34, 3) := by decide +kernel
theorem d_m10_holds_4 : decode b_m10_holds 4 = .ok (.iload_n 1, 1) := by decide +kernel
theorem d_m10_holds_5 : decode b_m10_holds 5 = .ok (.aload_n 0, 1) := by decide +kernel
theorem d_m10_holds_6 : decode b_m10_holds 6 = .ok (.getfield 30, 3) := by decide +kernel
theorem d_m10_holds_9 : decode b_m10_holds 9 = .ok (.getfield 164, 3) := by decide +kernel
theorem d_m10_holds_12 : decode b_m10_holds 12 = .ok (.if_icmp .ge 23, 3) := by decide +kernel
theorem d_m10_holds_15 : decode b_m10_holds 15 = .ok (.aload_n 0, 1) := by decide +kernel
theorem d_m10_holds_16 : decode b_m10_holds 16 = .ok (.iload_n 2, 1) := by decide +kernel
theorem d_m10_holds_17 : decode b_m10_holds 17 = .ok (.invokevirtual 135, 3) := by decide +kernel
theorem d_m10_holds_20 : decode b_m10_holds 20 = .ok (.ifCond .eq 15, 3) := by decide +kernel
theorem d_m10_holds_23 : decode b_m10_holds 23 = .ok (.iload_n 3, 1) := by decide +kernel
theorem d_m10_holds_24 : decode b_m10_holds 24 = .ok (.iconst (-1), 1) := by decide +kernel
theorem d_m10_holds_25 : decode b_m10_holds 25 = .ok (.if_icmp .eq 17, 3) := by decide +kernel
theorem d_m10_holds_28 : decode b_m10_holds 28 = .ok (.iload_n 3, 1) := by decide +kernel
theorem d_m10_holds_29 : decode b_m10_holds 29 = .ok (.invokestatic 192, 3) := by decide +kernel
theorem d_m10_holds_32 : decode b_m10_holds 32 = .ok (.ifCond .ne 10, 3) := by decide +kernel
theorem d_m10_holds_35 : decode b_m10_holds 35 = .ok (.aload_n 0, 1) := by decide +kernel
theorem d_m10_holds_36 : decode b_m10_holds 36 = .ok (.bipush (-3), 2) := by decide +kernel
theorem d_m10_holds_38 : decode b_m10_holds 38 = .ok (.invokevirtual 76, 3) := by decide +kernel
theorem d_m10_holds_41 : decode b_m10_holds 41 = .ok (.ireturn, 1) := by decide +kernel
theorem d_m10_holds_42 : decode b_m10_holds 42 = .ok (.aload_n 0, 1) := by decide +kernel
theorem d_m10_holds_43 : decode b_m10_holds 43 = .ok (.getfield 30, 3) := by decide +kernel
theorem d_m10_holds_46 : decode b_m10_holds 46 = .ok (.getfield 167, 3) := by decide +kernel
theorem d_m10_holds_49 : decode b_m10_holds 49 = .ok (.iload_n 1, 1) := by decide +kernel
theorem d_m10_holds_50 : decode b_m10_holds 50 = .ok (.aaload, 1) := by decide +kernel
theorem d_m10_holds_51 : decode b_m10_holds 51 = .ok (.aload_n 0, 1) := by decide +kernel
theorem d_m10_holds_52 : decode b_m10_holds 52 = .ok (.getfield 17, 3) := by decide +kernel
theorem d_m10_holds_55 : decode b_m10_holds 55 = .ok (.iload_n 2, 1) := by decide +kernel
theorem d_m10_holds_56 : decode b_m10_holds 56 = .ok (.aaload, 1) := by decide +kernel
theorem d_m10_holds_57 : decode b_m10_holds 57 = .ok (.iload_n 3, 1) := by decide +kernel
theorem d_m10_holds_58 : decode b_m10_holds 58 = .ok (.aload_n 0, 1) := by decide +kernel
theorem d_m10_holds_59 : decode b_m10_holds 59 = .ok (.getfield 195, 3) := by decide +kernel
theorem d_m10_holds_62 : decode b_m10_holds 62 = .ok (.invokevirtual 198, 3) := by decide +kernel
theorem d_m10_holds_65 : decode b_m10_holds 65 = .ok (.ifCond .eq 7, 3) := by decide +kernel
theorem d_m10_holds_68 : decode b_m10_holds 68 = .ok (.iconst 1, 1) := by decide +kernel
theorem d_m10_holds_69 : decode b_m10_holds 69 = .ok (.goto 4, 3) := by decide +kernel
theorem d_m10_holds_72 : decode b_m10_holds 72 = .ok (.iconst 0, 1) := by decide +kernel
theorem d_m10_holds_73 : decode b_m10_holds 73 = .ok (.ireturn, 1) := by decide +kernel
def s_m10_holds_35  (r0 : Nat) (M : Mm) : Option (Int32 × Mm) := cl (has M r0 20) (s_m10_refuse r0 (-3 : Int32) M) (fun v1 M2 => some (v1, M2))
def s_m10_holds_73  (t0 : Int32) (M : Mm) : Option (Int32 × Mm) := some (t0, M)
def s_m10_holds_42  (r0 : Nat) (x1 : Int32) (x2 : Int32) (x3 : Int32) (M : Mm) : Option (Int32 × Mm) := gR M r0 20 3 (fun v1 => gR M v1 16 0 (fun v2 => aR M v2 4 x1 (fun v3 => gR M r0 20 1 (fun v4 => aR M v4 3 x2 (fun v5 => gI M r0 20 12 (fun v6 => cl (has M v3 15) (s_m5_isSo v3 v5 x3 v6 M) (fun v7 M8 => (if v7 = 0 then s_m10_holds_73 (0 : Int32) M8 else s_m10_holds_73 (1 : Int32) M8))))))))
def s_m10_holds (r0 : Nat) (a1 : Int32) (a2 : Int32) (a3 : Int32) (M : Mm) : Option (Int32 × Mm) := (if a1 < 0 then s_m10_holds_35 r0 M else gR M r0 20 3 (fun v1 => gI M v1 16 1 (fun v2 => (if v2 ≤ a1 then s_m10_holds_35 r0 M else cl (has M r0 20) (s_m10_isPiece r0 a2 M) (fun v3 M4 => (if v3 = 0 then s_m10_holds_35 r0 M4 else (if a3 = (-1 : Int32) then s_m10_holds_42 r0 a1 a2 a3 M4 else cl true (s_m10_isPaper a3 M4) (fun v5 M6 => (if ¬ v5 = 0 then s_m10_holds_42 r0 a1 a2 a3 M6 else s_m10_holds_35 r0 M6)))))))))
set_option maxRecDepth 100000 in
set_option maxHeartbeats 4000000 in
theorem w_m10_holds_35 {V : Ev} {C : Cx} {n0 : Nat} (hC : Cok V C y_m10_holds.cls b_m10_holds 4 n0 (some .int) y_m10_holds.name) (hR : cR C = rm_m10_holds)  : ∀ (r0 : Nat) (M : Mm), Sm V C 4 n0 n0 (qI V C) 35 [(0, rv V.1 r0)] [] M (s_m10_holds_35 r0 M) := by
  intro r0 M
  unfold s_m10_holds_35
  refine Sm.aload_n hC d_m10_holds_35 rfl 0 rfl ?_
  refine Sm.bipush (v := -3) hC d_m10_holds_36 (by decide) ?_
  refine Sm.callVi 10 (As := [.int (-3 : Int32)]) (st := []) hC hR cw_m10_refuse (tw_i 410 (by decide +kernel)) (tw_i 412 (by decide +kernel)) (tw_i 0 (by decide +kernel)) ⟨_, rfl, rfl⟩ (fun r9 M9 h9 => ok_m10_refuse h9) rfl rfl (RW.of ⟨rfl, rfl, by decide, by decide⟩) (by simp) d_m10_holds_38 (fun v1 M2 => ?_)
  exact Sm.iret hC d_m10_holds_41 rfl (Nat.sub_self _)
set_option maxRecDepth 100000 in
set_option maxHeartbeats 4000000 in
theorem w_m10_holds_73 {V : Ev} {C : Cx} {n0 : Nat} (hC : Cok V C y_m10_holds.cls b_m10_holds 4 n0 (some .int) y_m10_holds.name) (hR : cR C = rm_m10_holds)  : ∀ (t0 : Int32) (M : Mm), Sm V C 4 n0 n0 (qI V C) 73 [] [.int t0] M (s_m10_holds_73 t0 M) := by
  intro t0 M
  unfold s_m10_holds_73
  exact Sm.iret hC d_m10_holds_73 rfl (Nat.sub_self _)
set_option maxRecDepth 100000 in
set_option maxHeartbeats 4000000 in
theorem w_m10_holds_42 {V : Ev} {C : Cx} {n0 : Nat} (hC : Cok V C y_m10_holds.cls b_m10_holds 4 n0 (some .int) y_m10_holds.name) (hR : cR C = rm_m10_holds)  : ∀ (r0 : Nat) (x1 : Int32) (x2 : Int32) (x3 : Int32) (M : Mm), Sm V C 4 n0 n0 (qI V C) 42 [(0, rv V.1 r0), (1, .int x1), (2, .int x2), (3, .int x3)] [] M (s_m10_holds_42 r0 x1 x2 x3 M) := by
  intro r0 x1 x2 x3 M
  unfold s_m10_holds_42
  refine Sm.aload_n hC d_m10_holds_42 rfl 0 rfl ?_
  refine Sm.getR hC fl_m10_30 rfl d_m10_holds_43 (fun v1 => ?_)
  refine Sm.getR hC fl_m10_167 rfl d_m10_holds_46 (fun v2 => ?_)
  refine Sm.iload_n hC d_m10_holds_49 rfl 1 rfl ?_
  refine Sm.aald (Cn := n_c5) hC ⟨by decide, by decide⟩ rfl d_m10_holds_50 (fun v3 => ?_)
  refine Sm.aload_n hC d_m10_holds_51 rfl 0 rfl ?_
  refine Sm.getR hC fl_m10_17 rfl d_m10_holds_52 (fun v4 => ?_)
  refine Sm.iload_n hC d_m10_holds_55 rfl 2 rfl ?_
  refine Sm.aald (Cn := n_c3) hC ⟨by decide, by decide⟩ rfl d_m10_holds_56 (fun v5 => ?_)
  refine Sm.iload_n hC d_m10_holds_57 rfl 3 rfl ?_
  refine Sm.aload_n hC d_m10_holds_58 rfl 0 rfl ?_
  refine Sm.getI hC fl_m10_195 rfl d_m10_holds_59 (fun v6 => ?_)
  refine Sm.callVi 5 (As := [rv V.1 v5, .int x3, .int v6]) (st := []) hC hR cw_m5_isSo (tw_i 593 (by decide +kernel)) (tw_i 594 (by decide +kernel)) (tw_i 595 (by decide +kernel)) ⟨_, rfl, rfl⟩ (fun r9 M9 h9 => ok_m5_isSo h9) rfl rfl (RW.of ⟨rfl, rfl, by decide, by decide⟩) (by simp) d_m10_holds_62 (fun v7 M8 => ?_)
  refine Sm.if_eq (tgt := 72) hC d_m10_holds_65 (by decide) ?_ ?_
  · refine Sm.iconst (v := 0) hC d_m10_holds_72 (by decide) ?_
    refine Sm.sub [] rfl ?_
    exact w_m10_holds_73 hC hR (0 : Int32) M8
  · refine Sm.iconst (v := 1) hC d_m10_holds_68 (by decide) ?_
    refine Sm.goto (tgt := 73) hC d_m10_holds_69 (by decide) ?_
    refine Sm.sub [] rfl ?_
    exact w_m10_holds_73 hC hR (1 : Int32) M8
set_option maxRecDepth 100000 in
set_option maxHeartbeats 4000000 in
theorem ok_m10_holds {l : Launch} {V : Ev} {M M' : Mm} {r : Int32} {r0 : Nat} {a1 : Int32} {a2 : Int32} {a3 : Int32} (h : s_m10_holds r0 a1 a2 a3 M = some (r, M')) : Met l y_m10_holds (Cond.code y_m10_holds b_m10_holds 4 (some .int) :: TW) rm_m10_holds (va_Pc [rv V.1 r0, .int a1, .int a2, .int a3] (Wd V M)) (QC V (some (.int r)) M' 0) 0 0 (Af V) := by
  refine met_of (fun x : Int32 => some (.int x)) (lv0 := [(0, rv V.1 r0), (1, .int a1), (2, .int a2), (3, .int a3)]) (by decide) (by simp [lg_sl, cat_rv, cat_i, cat_l, cat_f]) (by simp [lv_args, cat_rv, cat_i, cat_l, cat_f]) (fun C hl hR hC => ?_) h
  subst hl
  generalize mN M = n0 at hC ⊢
  unfold s_m10_holds
  refine Sm.iload_n hC d_m10_holds_0 rfl 1 rfl ?_
  refine Sm.if_lt (tgt := 35) hC d_m10_holds_1 (by decide) ?_ ?_
  · refine Sm.sub [0] rfl ?_
    exact w_m10_holds_35 hC hR r0 M
  · refine Sm.iload_n hC d_m10_holds_4 rfl 1 rfl ?_
    refine Sm.aload_n hC d_m10_holds_5 rfl 0 rfl ?_
    refine Sm.getR hC fl_m10_30 rfl d_m10_holds_6 (fun v1 => ?_)
    refine Sm.getI hC fl_m10_164 rfl d_m10_holds_9 (fun v2 => ?_)
    refine Sm.icmp_ge (tgt := 35) hC d_m10_holds_12 (by decide) ?_ ?_
    · refine Sm.sub [0] rfl ?_
      exact w_m10_holds_35 hC hR r0 M
    · refine Sm.aload_n hC d_m10_holds_15 rfl 0 rfl ?_
      refine Sm.iload_n hC d_m10_holds_16 rfl 2 rfl ?_
      refine Sm.callVi 10 (As := [.int a2]) (st := []) hC hR cw_m10_isPiece (tw_i 436 (by decide +kernel)) (tw_i 438 (by decide +kernel)) (tw_i 2 (by decide +kernel)) ⟨_, rfl, rfl⟩ (fun r9 M9 h9 => ok_m10_isPiece h9) rfl rfl (RW.of ⟨rfl, rfl, by decide, by decide⟩) (by simp) d_m10_holds_17 (fun v3 M4 => ?_)
      refine Sm.if_eq (tgt := 35) hC d_m10_holds_20 (by decide) ?_ ?_
      · refine Sm.sub [0] rfl ?_
        exact w_m10_holds_35 hC hR r0 M4
      · refine Sm.iload_n hC d_m10_holds_23 rfl 3 rfl ?_
        refine Sm.iconst (v := -1) hC d_m10_holds_24 (by decide) ?_
        refine Sm.icmp_eq (tgt := 42) hC d_m10_holds_25 (by decide) ?_ ?_
        · exact w_m10_holds_42 hC hR r0 a1 a2 a3 M4
        · refine Sm.iload_n hC d_m10_holds_28 rfl 3 rfl ?_
          refine Sm.callSi (As := [.int a3]) (st := []) hC hR cw_m10_isPaper (tw_i 590 (by decide +kernel)) (tw_i 591 (by decide +kernel)) (fun r9 M9 h9 => ok_m10_isPaper h9) rfl rfl (RW.of ⟨rfl, rfl, by decide, by decide⟩) (by simp) d_m10_holds_29 (fun v5 M6 => ?_)
          refine Sm.if_ne (tgt := 42) hC d_m10_holds_32 (by decide) ?_ ?_
          · exact w_m10_holds_42 hC hR r0 a1 a2 a3 M6
          · refine Sm.sub [0] rfl ?_
            exact w_m10_holds_35 hC hR r0 M6
/-! NewsWire.rank(I)I -/
abbrev b_m10_rank : ByteArray := prog_1_method_19_code
def y_m10_rank : MethodName := ⟨"NewsWire", "rank", "(I)I"⟩
def rm_m10_rank : Room := { frames := 5, cells := 0, slots := 0, locals := 155 }
theorem cw_m10_rank : CW y_m10_rank b_m10_rank 2 (some .int) 1 := ⟨tw_i 55 (by decide +kernel), tw_i 607 (by decide +kernel), by decide, by decide, by decide +kernel⟩
theorem d_m10_rank_0 : decode b_m10_rank 0 = .ok (.aload_n 0, 1) := by decide +kernel
theorem d_m10_rank_1 : decode b_m10_rank 1 = .ok (.iload_n 1, 1) := by decide +kernel
theorem d_m10_rank_2 : decode b_m10_rank 2 = .ok (.invokevirtual 135, 3) := by decide +kernel
theorem d_m10_rank_5 : decode b_m10_rank 5 = .ok (.ifCond .ne 10, 3) := by decide +kernel
theorem d_m10_rank_8 : decode b_m10_rank 8 = .ok (.aload_n 0, 1) := by decide +kernel
theorem d_m10_rank_9 : decode b_m10_rank 9 = .ok (.bipush (-3), 2) := by decide +kernel
theorem d_m10_rank_11 : decode b_m10_rank 11 = .ok (.invokevirtual 76, 3) := by decide +kernel
theorem d_m10_rank_14 : decode b_m10_rank 14 = .ok (.ireturn, 1) := by decide +kernel
theorem d_m10_rank_15 : decode b_m10_rank 15 = .ok (.aload_n 0, 1) := by decide +kernel
theorem d_m10_rank_16 : decode b_m10_rank 16 = .ok (.getfield 30, 3) := by decide +kernel
theorem d_m10_rank_19 : decode b_m10_rank 19 = .ok (.aload_n 0, 1) := by decide +kernel
theorem d_m10_rank_20 : decode b_m10_rank 20 = .ok (.getfield 17, 3) := by decide +kernel
theorem d_m10_rank_23 : decode b_m10_rank 23 = .ok (.iload_n 1, 1) := by decide +kernel
theorem d_m10_rank_24 : decode b_m10_rank 24 = .ok (.aaload, 1) := by decide +kernel
theorem d_m10_rank_25 : decode b_m10_rank 25 = .ok (.aload_n 0, 1) := by decide +kernel
theorem d_m10_rank_26 : decode b_m10_rank 26 = .ok (.getfield 195, 3) := by decide +kernel
theorem d_m10_rank_29 : decode b_m10_rank 29 = .ok (.invokevirtual 202, 3) := by decide +kernel
theorem d_m10_rank_32 : decode b_m10_rank 32 = .ok (.ireturn, 1) := by decide +kernel
def s_m10_rank (r0 : Nat) (a1 : Int32) (M : Mm) : Option (Int32 × Mm) := cl (has M r0 20) (s_m10_isPiece r0 a1 M) (fun v1 M2 => (if ¬ v1 = 0 then gR M2 r0 20 3 (fun v3 => gR M2 r0 20 1 (fun v4 => aR M2 v4 3 a1 (fun v5 => gI M2 r0 20 12 (fun v6 => cl (has M2 v3 16) (s_m6_rankOf v3 v5 v6 M2) (fun v7 M8 => some (v7, M8)))))) else cl (has M2 r0 20) (s_m10_refuse r0 (-3 : Int32) M2) (fun v9 M10 => some (v9, M10))))
set_option maxRecDepth 100000 in
set_option maxHeartbeats 4000000 in
theorem ok_m10_rank {l : Launch} {V : Ev} {M M' : Mm} {r : Int32} {r0 : Nat} {a1 : Int32} (h : s_m10_rank r0 a1 M = some (r, M')) : Met l y_m10_rank (Cond.code y_m10_rank b_m10_rank 2 (some .int) :: TW) rm_m10_rank (va_Pc [rv V.1 r0, .int a1] (Wd V M)) (QC V (some (.int r)) M' 0) 0 0 (Af V) := by
  refine met_of (fun x : Int32 => some (.int x)) (lv0 := [(0, rv V.1 r0), (1, .int a1)]) (by decide) (by simp [lg_sl, cat_rv, cat_i, cat_l, cat_f]) (by simp [lv_args, cat_rv, cat_i, cat_l, cat_f]) (fun C hl hR hC => ?_) h
  subst hl
  generalize mN M = n0 at hC ⊢
  unfold s_m10_rank
  refine Sm.aload_n hC d_m10_rank_0 rfl 0 rfl ?_
  refine Sm.iload_n hC d_m10_rank_1 rfl 1 rfl ?_
  refine Sm.callVi 10 (As := [.int a1]) (st := []) hC hR cw_m10_isPiece (tw_i 436 (by decide +kernel)) (tw_i 438 (by decide +kernel)) (tw_i 2 (by decide +kernel)) ⟨_, rfl, rfl⟩ (fun r9 M9 h9 => ok_m10_isPiece h9) rfl rfl (RW.of ⟨rfl, rfl, by decide, by decide⟩) (by simp) d_m10_rank_2 (fun v1 M2 => ?_)
  refine Sm.if_ne (tgt := 15) hC d_m10_rank_5 (by decide) ?_ ?_
  · refine Sm.aload_n hC d_m10_rank_15 rfl 0 rfl ?_
    refine Sm.getR hC fl_m10_30 rfl d_m10_rank_16 (fun v3 => ?_)
    refine Sm.aload_n hC d_m10_rank_19 rfl 0 rfl ?_
    refine Sm.getR hC fl_m10_17 rfl d_m10_rank_20 (fun v4 => ?_)
    refine Sm.iload_n hC d_m10_rank_23 rfl 1 rfl ?_
    refine Sm.aald (Cn := n_c3) hC ⟨by decide, by decide⟩ rfl d_m10_rank_24 (fun v5 => ?_)
    refine Sm.aload_n hC d_m10_rank_25 rfl 0 rfl ?_
    refine Sm.getI hC fl_m10_195 rfl d_m10_rank_26 (fun v6 => ?_)
    refine Sm.callVi 6 (As := [rv V.1 v5, .int v6]) (st := []) hC hR cw_m6_rankOf (tw_i 608 (by decide +kernel)) (tw_i 609 (by decide +kernel)) (tw_i 610 (by decide +kernel)) ⟨_, rfl, rfl⟩ (fun r9 M9 h9 => ok_m6_rankOf h9) rfl rfl (RW.of ⟨rfl, rfl, by decide, by decide⟩) (by simp) d_m10_rank_29 (fun v7 M8 => ?_)
    exact Sm.iret hC d_m10_rank_32 rfl (Nat.sub_self _)
  · refine Sm.aload_n hC d_m10_rank_8 rfl 0 rfl ?_
    refine Sm.bipush (v := -3) hC d_m10_rank_9 (by decide) ?_
    refine Sm.callVi 10 (As := [.int (-3 : Int32)]) (st := []) hC hR cw_m10_refuse (tw_i 410 (by decide +kernel)) (tw_i 412 (by decide +kernel)) (tw_i 0 (by decide +kernel)) ⟨_, rfl, rfl⟩ (fun r9 M9 h9 => ok_m10_refuse h9) rfl rfl (RW.of ⟨rfl, rfl, by decide, by decide⟩) (by simp) d_m10_rank_11 (fun v9 M10 => ?_)
    exact Sm.iret hC d_m10_rank_14 rfl (Nat.sub_self _)
/-! NewsWire.barred(II)I -/
abbrev b_m10_barred : ByteArray := prog_1_method_20_code
def y_m10_barred : MethodName := ⟨"NewsWire", "barred", "(II)I"⟩
def rm_m10_barred : Room := { frames := 4, cells := 0, slots := 0, locals := 132 }
theorem cw_m10_barred : CW y_m10_barred b_m10_barred 3 (some .int) 2 := ⟨tw_i 55 (by decide +kernel), tw_i 620 (by decide +kernel), by decide, by decide, by decide +kernel⟩
theorem d_m10_barred_0 : decode b_m10_barred 0 = .ok (.aload_n 0, 1) := by decide +kernel
theorem d_m10_barred_1 : decode b_m10_barred 1 = .ok (.iload_n 1, 1) := by decide +kernel
theorem d_m10_barred_2 : decode b_m10_barred 2 = .ok (.invokevirtual 135, 3) := by decide +kernel
theorem d_m10_barred_5 : decode b_m10_barred 5 = .ok (.ifCond .eq 10, 3) := by decide +kernel
theorem d_m10_barred_8 : decode b_m10_barred 8 = .ok (.iload_n 2, 1) := by decide +kernel
theorem d_m10_barred_9 : decode b_m10_barred 9 = .ok (.invokestatic 192, 3) := by decide +kernel
theorem d_m10_barred_12 : decode b_m10_barred 12 = .ok (.ifCond .ne 10, 3) := by decide +kernel
theorem d_m10_barred_15 : decode b_m10_barred 15 = .ok (.aload_n 0, 1) := by decide +kernel
theorem d_m10_barred_16 : decode b_m10_barred 16 = .ok (.bipush (-3), 2) := by decide +kernel
theorem d_m10_barred_18 : decode b_m10_barred 18 = .ok (.invokevirtual 76, 3) := by decide +kernel
theorem d_m10_barred_21 : decode b_m10_barred 21 = .ok (.ireturn, 1) := by decide +kernel
theorem d_m10_barred_22 : decode b_m10_barred 22 = .ok (.aload_n 0, 1) := by decide +kernel
theorem d_m10_barred_23 : decode b_m10_barred 23 = .ok (.getfield 30, 3) := by decide +kernel
theorem d_m10_barred_26 : decode b_m10_barred 26 = .ok (.aload_n 0, 1) := by decide +kernel
theorem d_m10_barred_27 : decode b_m10_barred 27 = .ok (.getfield 17, 3) := by decide +kernel
theorem d_m10_barred_30 : decode b_m10_barred 30 = .ok (.iload_n 1, 1) := by decide +kernel
theorem d_m10_barred_31 : decode b_m10_barred 31 = .ok (.aaload, 1) := by decide +kernel
theorem d_m10_barred_32 : decode b_m10_barred 32 = .ok (.iload_n 2, 1) := by decide +kernel
theorem d_m10_barred_33 : decode b_m10_barred 33 = .ok (.aload_n 0, 1) := by decide +kernel
theorem d_m10_barred_34 : decode b_m10_barred 34 = .ok (.getfield 195, 3) := by decide +kernel
theorem d_m10_barred_37 : decode b_m10_barred 37 = .ok (.invokevirtual 206, 3) := by decide +kernel
theorem d_m10_barred_40 : decode b_m10_barred 40 = .ok (.ifCond .eq 7, 3) := by decide +kernel
theorem d_m10_barred_43 : decode b_m10_barred 43 = .ok (.iconst 1, 1) := by decide +kernel
theorem d_m10_barred_44 : decode b_m10_barred 44 = .ok (.goto 4, 3) := by decide +kernel
theorem d_m10_barred_47 : decode b_m10_barred 47 = .ok (.iconst 0, 1) := by decide +kernel
theorem d_m10_barred_48 : decode b_m10_barred 48 = .ok (.ireturn, 1) := by decide +kernel
def s_m10_barred_15  (r0 : Nat) (M : Mm) : Option (Int32 × Mm) := cl (has M r0 20) (s_m10_refuse r0 (-3 : Int32) M) (fun v1 M2 => some (v1, M2))
def s_m10_barred_48  (t0 : Int32) (M : Mm) : Option (Int32 × Mm) := some (t0, M)
def s_m10_barred (r0 : Nat) (a1 : Int32) (a2 : Int32) (M : Mm) : Option (Int32 × Mm) := cl (has M r0 20) (s_m10_isPiece r0 a1 M) (fun v1 M2 => (if v1 = 0 then s_m10_barred_15 r0 M2 else cl true (s_m10_isPaper a2 M2) (fun v3 M4 => (if ¬ v3 = 0 then gR M4 r0 20 3 (fun v5 => gR M4 r0 20 1 (fun v6 => aR M4 v6 3 a1 (fun v7 => gI M4 r0 20 12 (fun v8 => cl (has M4 v5 16) (s_m6_bar v5 v7 a2 v8 M4) (fun v9 M10 => (if v9 = 0 then s_m10_barred_48 (0 : Int32) M10 else s_m10_barred_48 (1 : Int32) M10)))))) else s_m10_barred_15 r0 M4))))
set_option maxRecDepth 100000 in
set_option maxHeartbeats 4000000 in
theorem w_m10_barred_15 {V : Ev} {C : Cx} {n0 : Nat} (hC : Cok V C y_m10_barred.cls b_m10_barred 3 n0 (some .int) y_m10_barred.name) (hR : cR C = rm_m10_barred)  : ∀ (r0 : Nat) (M : Mm), Sm V C 3 n0 n0 (qI V C) 15 [(0, rv V.1 r0)] [] M (s_m10_barred_15 r0 M) := by
  intro r0 M
  unfold s_m10_barred_15
  refine Sm.aload_n hC d_m10_barred_15 rfl 0 rfl ?_
  refine Sm.bipush (v := -3) hC d_m10_barred_16 (by decide) ?_
  refine Sm.callVi 10 (As := [.int (-3 : Int32)]) (st := []) hC hR cw_m10_refuse (tw_i 410 (by decide +kernel)) (tw_i 412 (by decide +kernel)) (tw_i 0 (by decide +kernel)) ⟨_, rfl, rfl⟩ (fun r9 M9 h9 => ok_m10_refuse h9) rfl rfl (RW.of ⟨rfl, rfl, by decide, by decide⟩) (by simp) d_m10_barred_18 (fun v1 M2 => ?_)
  exact Sm.iret hC d_m10_barred_21 rfl (Nat.sub_self _)
set_option maxRecDepth 100000 in
set_option maxHeartbeats 4000000 in
theorem w_m10_barred_48 {V : Ev} {C : Cx} {n0 : Nat} (hC : Cok V C y_m10_barred.cls b_m10_barred 3 n0 (some .int) y_m10_barred.name) (hR : cR C = rm_m10_barred)  : ∀ (t0 : Int32) (M : Mm), Sm V C 3 n0 n0 (qI V C) 48 [] [.int t0] M (s_m10_barred_48 t0 M) := by
  intro t0 M
  unfold s_m10_barred_48
  exact Sm.iret hC d_m10_barred_48 rfl (Nat.sub_self _)
set_option maxRecDepth 100000 in
set_option maxHeartbeats 4000000 in
theorem ok_m10_barred {l : Launch} {V : Ev} {M M' : Mm} {r : Int32} {r0 : Nat} {a1 : Int32} {a2 : Int32} (h : s_m10_barred r0 a1 a2 M = some (r, M')) : Met l y_m10_barred (Cond.code y_m10_barred b_m10_barred 3 (some .int) :: TW) rm_m10_barred (va_Pc [rv V.1 r0, .int a1, .int a2] (Wd V M)) (QC V (some (.int r)) M' 0) 0 0 (Af V) := by
  refine met_of (fun x : Int32 => some (.int x)) (lv0 := [(0, rv V.1 r0), (1, .int a1), (2, .int a2)]) (by decide) (by simp [lg_sl, cat_rv, cat_i, cat_l, cat_f]) (by simp [lv_args, cat_rv, cat_i, cat_l, cat_f]) (fun C hl hR hC => ?_) h
  subst hl
  generalize mN M = n0 at hC ⊢
  unfold s_m10_barred
  refine Sm.aload_n hC d_m10_barred_0 rfl 0 rfl ?_
  refine Sm.iload_n hC d_m10_barred_1 rfl 1 rfl ?_
  refine Sm.callVi 10 (As := [.int a1]) (st := []) hC hR cw_m10_isPiece (tw_i 436 (by decide +kernel)) (tw_i 438 (by decide +kernel)) (tw_i 2 (by decide +kernel)) ⟨_, rfl, rfl⟩ (fun r9 M9 h9 => ok_m10_isPiece h9) rfl rfl (RW.of ⟨rfl, rfl, by decide, by decide⟩) (by simp) d_m10_barred_2 (fun v1 M2 => ?_)
  refine Sm.if_eq (tgt := 15) hC d_m10_barred_5 (by decide) ?_ ?_
  · refine Sm.sub [0] rfl ?_
    exact w_m10_barred_15 hC hR r0 M2
  · refine Sm.iload_n hC d_m10_barred_8 rfl 2 rfl ?_
    refine Sm.callSi (As := [.int a2]) (st := []) hC hR cw_m10_isPaper (tw_i 590 (by decide +kernel)) (tw_i 591 (by decide +kernel)) (fun r9 M9 h9 => ok_m10_isPaper h9) rfl rfl (RW.of ⟨rfl, rfl, by decide, by decide⟩) (by simp) d_m10_barred_9 (fun v3 M4 => ?_)
    refine Sm.if_ne (tgt := 22) hC d_m10_barred_12 (by decide) ?_ ?_
    · refine Sm.aload_n hC d_m10_barred_22 rfl 0 rfl ?_
      refine Sm.getR hC fl_m10_30 rfl d_m10_barred_23 (fun v5 => ?_)
      refine Sm.aload_n hC d_m10_barred_26 rfl 0 rfl ?_
      refine Sm.getR hC fl_m10_17 rfl d_m10_barred_27 (fun v6 => ?_)
      refine Sm.iload_n hC d_m10_barred_30 rfl 1 rfl ?_
      refine Sm.aald (Cn := n_c3) hC ⟨by decide, by decide⟩ rfl d_m10_barred_31 (fun v7 => ?_)
      refine Sm.iload_n hC d_m10_barred_32 rfl 2 rfl ?_
      refine Sm.aload_n hC d_m10_barred_33 rfl 0 rfl ?_
      refine Sm.getI hC fl_m10_195 rfl d_m10_barred_34 (fun v8 => ?_)
      refine Sm.callVi 6 (As := [rv V.1 v7, .int a2, .int v8]) (st := []) hC hR cw_m6_bar (tw_i 621 (by decide +kernel)) (tw_i 622 (by decide +kernel)) (tw_i 623 (by decide +kernel)) ⟨_, rfl, rfl⟩ (fun r9 M9 h9 => ok_m6_bar h9) rfl rfl (RW.of ⟨rfl, rfl, by decide, by decide⟩) (by simp) d_m10_barred_37 (fun v9 M10 => ?_)
      refine Sm.if_eq (tgt := 47) hC d_m10_barred_40 (by decide) ?_ ?_
      · refine Sm.iconst (v := 0) hC d_m10_barred_47 (by decide) ?_
        refine Sm.sub [] rfl ?_
        exact w_m10_barred_48 hC hR (0 : Int32) M10
      · refine Sm.iconst (v := 1) hC d_m10_barred_43 (by decide) ?_
        refine Sm.goto (tgt := 48) hC d_m10_barred_44 (by decide) ?_
        refine Sm.sub [] rfl ?_
        exact w_m10_barred_48 hC hR (1 : Int32) M10
    · refine Sm.sub [0] rfl ?_
      exact w_m10_barred_15 hC hR r0 M4
/-! NewsWire.file(II)I -/
theorem fl_m10_212 : FL "NewsWire" 212 9 4 0 false .int := ⟨_, _, _, _, rfl, in_c9, ty_c9, nm_c9, by decide, rfl, tw_i 272 (by decide +kernel), rfl, rfl, rfl, rfl⟩
theorem fl_m10_216 : FL "NewsWire" 216 9 3 0 false .int := ⟨_, _, _, _, rfl, in_c9, ty_c9, nm_c9, by decide, rfl, tw_i 270 (by decide +kernel), rfl, rfl, rfl, rfl⟩
abbrev b_m10_file : ByteArray := prog_1_method_22_code
def y_m10_file : MethodName := ⟨"NewsWire", "file", "(II)I"⟩
def rm_m10_file : Room := { frames := 2, cells := 0, slots := 0, locals := 81 }
theorem cw_m10_file : CW y_m10_file b_m10_file 4 (some .int) 2 := ⟨tw_i 55 (by decide +kernel), tw_i 628 (by decide +kernel), by decide, by decide, by decide +kernel⟩
theorem d_m10_file_0 : decode b_m10_file 0 = .ok (.aload_n 0, 1) := by decide +kernel
theorem d_m10_file_1 : decode b_m10_file 1 = .ok (.iload_n 1, 1) := by decide +kernel
theorem d_m10_file_2 : decode b_m10_file 2 = .ok (.invokevirtual 135, 3) := by decide +kernel
theorem d_m10_file_5 : decode b_m10_file 5 = .ok (.ifCond .eq 11, 3) := by decide +kernel
theorem d_m10_file_8 : decode b_m10_file 8 = .ok (.aload_n 0, 1) := by decide +kernel
theorem d_m10_file_9 : decode b_m10_file 9 = .ok (.iload_n 2, 1) := by decide +kernel
theorem d_m10_file_10 : decode b_m10_file 10 = .ok (.invokevirtual 209, 3) := by decide +kernel
theorem d_m10_file_13 : decode b_m10_file 13 = .ok (.ifCond .ne 10, 3) := by decide +kernel
theorem d_m10_file_16 : decode b_m10_file 16 = .ok (.aload_n 0, 1) := by decide +kernel
theorem d_m10_file_17 : decode b_m10_file 17 = .ok (.bipush (-3), 2) := by decide +kernel
theorem d_m10_file_19 : decode b_m10_file 19 = .ok (.invokevirtual 76, 3) := by decide +kernel
theorem d_m10_file_22 : decode b_m10_file 22 = .ok (.ireturn, 1) := by decide +kernel
theorem d_m10_file_23 : decode b_m10_file 23 = .ok (.aload_n 0, 1) := by decide +kernel
theorem d_m10_file_24 : decode b_m10_file 24 = .ok (.getfield 11, 3) := by decide +kernel
theorem d_m10_file_27 : decode b_m10_file 27 = .ok (.iload_n 2, 1) := by decide +kernel
theorem d_m10_file_28 : decode b_m10_file 28 = .ok (.aaload, 1) := by decide +kernel
theorem d_m10_file_29 : decode b_m10_file 29 = .ok (.astore_n 3, 1) := by decide +kernel
theorem d_m10_file_30 : decode b_m10_file 30 = .ok (.aload_n 3, 1) := by decide +kernel
theorem d_m10_file_31 : decode b_m10_file 31 = .ok (.getfield 212, 3) := by decide +kernel
theorem d_m10_file_34 : decode b_m10_file 34 = .ok (.aload_n 0, 1) := by decide +kernel
theorem d_m10_file_35 : decode b_m10_file 35 = .ok (.getfield 17, 3) := by decide +kernel
theorem d_m10_file_38 : decode b_m10_file 38 = .ok (.iload_n 1, 1) := by decide +kernel
theorem d_m10_file_39 : decode b_m10_file 39 = .ok (.aaload, 1) := by decide +kernel
theorem d_m10_file_40 : decode b_m10_file 40 = .ok (.getfield 104, 3) := by decide +kernel
theorem d_m10_file_43 : decode b_m10_file 43 = .ok (.if_icmp .ne 11, 3) := by decide +kernel
theorem d_m10_file_46 : decode b_m10_file 46 = .ok (.aload_n 3, 1) := by decide +kernel
theorem d_m10_file_47 : decode b_m10_file 47 = .ok (.iload_n 1, 1) := by decide +kernel
theorem d_m10_file_48 : decode b_m10_file 48 = .ok (.invokevirtual 213, 3) := by decide +kernel
theorem d_m10_file_51 : decode b_m10_file 51 = .ok (.ifCond .eq 10, 3) := by decide +kernel
theorem d_m10_file_54 : decode b_m10_file 54 = .ok (.aload_n 0, 1) := by decide +kernel
theorem d_m10_file_55 : decode b_m10_file 55 = .ok (.bipush (-7), 2) := by decide +kernel
theorem d_m10_file_57 : decode b_m10_file 57 = .ok (.invokevirtual 76, 3) := by decide +kernel
theorem d_m10_file_60 : decode b_m10_file 60 = .ok (.ireturn, 1) := by decide +kernel
theorem d_m10_file_61 : decode b_m10_file 61 = .ok (.aload_n 3, 1) := by decide +kernel
theorem d_m10_file_62 : decode b_m10_file 62 = .ok (.getfield 216, 3) := by decide +kernel
theorem d_m10_file_65 : decode b_m10_file 65 = .ok (.bipush 12, 2) := by decide +kernel
theorem d_m10_file_67 : decode b_m10_file 67 = .ok (.if_icmp .lt 10, 3) := by decide +kernel
theorem d_m10_file_70 : decode b_m10_file 70 = .ok (.aload_n 0, 1) := by decide +kernel
theorem d_m10_file_71 : decode b_m10_file 71 = .ok (.bipush (-8), 2) := by decide +kernel
theorem d_m10_file_73 : decode b_m10_file 73 = .ok (.invokevirtual 76, 3) := by decide +kernel
theorem d_m10_file_76 : decode b_m10_file 76 = .ok (.ireturn, 1) := by decide +kernel
theorem d_m10_file_77 : decode b_m10_file 77 = .ok (.aload_n 3, 1) := by decide +kernel
theorem d_m10_file_78 : decode b_m10_file 78 = .ok (.iload_n 1, 1) := by decide +kernel
theorem d_m10_file_79 : decode b_m10_file 79 = .ok (.invokevirtual 219, 3) := by decide +kernel
theorem d_m10_file_82 : decode b_m10_file 82 = .ok (.aload_n 3, 1) := by decide +kernel
theorem d_m10_file_83 : decode b_m10_file 83 = .ok (.getfield 216, 3) := by decide +kernel
theorem d_m10_file_86 : decode b_m10_file 86 = .ok (.ireturn, 1) := by decide +kernel
def s_m10_file_16  (r0 : Nat) (M : Mm) : Option (Int32 × Mm) := cl (has M r0 20) (s_m10_refuse r0 (-3 : Int32) M) (fun v1 M2 => some (v1, M2))
def s_m10_file_54  (r0 : Nat) (M : Mm) : Option (Int32 × Mm) := cl (has M r0 20) (s_m10_refuse r0 (-7 : Int32) M) (fun v1 M2 => some (v1, M2))
def s_m10_file (r0 : Nat) (a1 : Int32) (a2 : Int32) (M : Mm) : Option (Int32 × Mm) := cl (has M r0 20) (s_m10_isPiece r0 a1 M) (fun v1 M2 => (if v1 = 0 then s_m10_file_16 r0 M2 else cl (has M2 r0 20) (s_m10_isWire r0 a2 M2) (fun v3 M4 => (if ¬ v3 = 0 then gR M4 r0 20 0 (fun v5 => aR M4 v5 5 a2 (fun v6 => gI M4 v6 19 4 (fun v7 => gR M4 r0 20 1 (fun v8 => aR M4 v8 3 a1 (fun v9 => gI M4 v9 13 3 (fun v10 => (if ¬ v7 = v10 then s_m10_file_54 r0 M4 else cl (has M4 v6 19) (s_m9_wasFiled v6 a1 M4) (fun v11 M12 => (if v11 = 0 then gI M12 v6 19 3 (fun v13 => (if v13 < (12 : Int32) then cl (has M12 v6 19) (s_m9_enqueue v6 a1 M12) (fun _ M14 => gI M14 v6 19 3 (fun v15 => some (v15, M14))) else cl (has M12 r0 20) (s_m10_refuse r0 (-8 : Int32) M12) (fun v16 M17 => some (v16, M17)))) else s_m10_file_54 r0 M12))))))))) else s_m10_file_16 r0 M4))))
set_option maxRecDepth 100000 in
set_option maxHeartbeats 4000000 in
theorem w_m10_file_16 {V : Ev} {C : Cx} {n0 : Nat} (hC : Cok V C y_m10_file.cls b_m10_file 4 n0 (some .int) y_m10_file.name) (hR : cR C = rm_m10_file)  : ∀ (r0 : Nat) (M : Mm), Sm V C 4 n0 n0 (qI V C) 16 [(0, rv V.1 r0)] [] M (s_m10_file_16 r0 M) := by
  intro r0 M
  unfold s_m10_file_16
  refine Sm.aload_n hC d_m10_file_16 rfl 0 rfl ?_
  refine Sm.bipush (v := -3) hC d_m10_file_17 (by decide) ?_
  refine Sm.callVi 10 (As := [.int (-3 : Int32)]) (st := []) hC hR cw_m10_refuse (tw_i 410 (by decide +kernel)) (tw_i 412 (by decide +kernel)) (tw_i 0 (by decide +kernel)) ⟨_, rfl, rfl⟩ (fun r9 M9 h9 => ok_m10_refuse h9) rfl rfl (RW.of ⟨rfl, rfl, by decide, by decide⟩) (by simp) d_m10_file_19 (fun v1 M2 => ?_)
  exact Sm.iret hC d_m10_file_22 rfl (Nat.sub_self _)
set_option maxRecDepth 100000 in
set_option maxHeartbeats 4000000 in
theorem w_m10_file_54 {V : Ev} {C : Cx} {n0 : Nat} (hC : Cok V C y_m10_file.cls b_m10_file 4 n0 (some .int) y_m10_file.name) (hR : cR C = rm_m10_file)  : ∀ (r0 : Nat) (M : Mm), Sm V C 4 n0 n0 (qI V C) 54 [(0, rv V.1 r0)] [] M (s_m10_file_54 r0 M) := by
  intro r0 M
  unfold s_m10_file_54
  refine Sm.aload_n hC d_m10_file_54 rfl 0 rfl ?_
  refine Sm.bipush (v := -7) hC d_m10_file_55 (by decide) ?_
  refine Sm.callVi 10 (As := [.int (-7 : Int32)]) (st := []) hC hR cw_m10_refuse (tw_i 410 (by decide +kernel)) (tw_i 412 (by decide +kernel)) (tw_i 0 (by decide +kernel)) ⟨_, rfl, rfl⟩ (fun r9 M9 h9 => ok_m10_refuse h9) rfl rfl (RW.of ⟨rfl, rfl, by decide, by decide⟩) (by simp) d_m10_file_57 (fun v1 M2 => ?_)
  exact Sm.iret hC d_m10_file_60 rfl (Nat.sub_self _)
set_option maxRecDepth 100000 in
set_option maxHeartbeats 4000000 in
theorem ok_m10_file {l : Launch} {V : Ev} {M M' : Mm} {r : Int32} {r0 : Nat} {a1 : Int32} {a2 : Int32} (h : s_m10_file r0 a1 a2 M = some (r, M')) : Met l y_m10_file (Cond.code y_m10_file b_m10_file 4 (some .int) :: TW) rm_m10_file (va_Pc [rv V.1 r0, .int a1, .int a2] (Wd V M)) (QC V (some (.int r)) M' 0) 0 0 (Af V) := by
  refine met_of (fun x : Int32 => some (.int x)) (lv0 := [(0, rv V.1 r0), (1, .int a1), (2, .int a2)]) (by decide) (by simp [lg_sl, cat_rv, cat_i, cat_l, cat_f]) (by simp [lv_args, cat_rv, cat_i, cat_l, cat_f]) (fun C hl hR hC => ?_) h
  subst hl
  generalize mN M = n0 at hC ⊢
  unfold s_m10_file
  refine Sm.aload_n hC d_m10_file_0 rfl 0 rfl ?_
  refine Sm.iload_n hC d_m10_file_1 rfl 1 rfl ?_
  refine Sm.callVi 10 (As := [.int a1]) (st := []) hC hR cw_m10_isPiece (tw_i 436 (by decide +kernel)) (tw_i 438 (by decide +kernel)) (tw_i 2 (by decide +kernel)) ⟨_, rfl, rfl⟩ (fun r9 M9 h9 => ok_m10_isPiece h9) rfl rfl (RW.of ⟨rfl, rfl, by decide, by decide⟩) (by simp) d_m10_file_2 (fun v1 M2 => ?_)
  refine Sm.if_eq (tgt := 16) hC d_m10_file_5 (by decide) ?_ ?_
  · refine Sm.sub [0] rfl ?_
    exact w_m10_file_16 hC hR r0 M2
  · refine Sm.aload_n hC d_m10_file_8 rfl 0 rfl ?_
    refine Sm.iload_n hC d_m10_file_9 rfl 2 rfl ?_
    refine Sm.callVi 10 (As := [.int a2]) (st := []) hC hR cw_m10_isWire (tw_i 629 (by decide +kernel)) (tw_i 631 (by decide +kernel)) (tw_i 5 (by decide +kernel)) ⟨_, rfl, rfl⟩ (fun r9 M9 h9 => ok_m10_isWire h9) rfl rfl (RW.of ⟨rfl, rfl, by decide, by decide⟩) (by simp) d_m10_file_10 (fun v3 M4 => ?_)
    refine Sm.if_ne (tgt := 23) hC d_m10_file_13 (by decide) ?_ ?_
    · refine Sm.aload_n hC d_m10_file_23 rfl 0 rfl ?_
      refine Sm.getR hC fl_m10_11 rfl d_m10_file_24 (fun v5 => ?_)
      refine Sm.iload_n hC d_m10_file_27 rfl 2 rfl ?_
      refine Sm.aald (Cn := n_c9) hC ⟨by decide, by decide⟩ rfl d_m10_file_28 (fun v6 => ?_)
      refine Sm.astore_n (lv' := [(3, rv V.1 v6), (0, rv V.1 r0), (1, .int a1), (2, .int a2)]) hC d_m10_file_29 rfl (by decide) rfl ?_
      refine Sm.aload_n hC d_m10_file_30 rfl 0 rfl ?_
      refine Sm.getI hC fl_m10_212 rfl d_m10_file_31 (fun v7 => ?_)
      refine Sm.aload_n hC d_m10_file_34 rfl 1 rfl ?_
      refine Sm.getR hC fl_m10_17 rfl d_m10_file_35 (fun v8 => ?_)
      refine Sm.iload_n hC d_m10_file_38 rfl 2 rfl ?_
      refine Sm.aald (Cn := n_c3) hC ⟨by decide, by decide⟩ rfl d_m10_file_39 (fun v9 => ?_)
      refine Sm.getI hC fl_m10_104 rfl d_m10_file_40 (fun v10 => ?_)
      refine Sm.icmp_ne (tgt := 54) hC d_m10_file_43 (by decide) ?_ ?_
      · refine Sm.sub [1] rfl ?_
        exact w_m10_file_54 hC hR r0 M4
      · refine Sm.aload_n hC d_m10_file_46 rfl 0 rfl ?_
        refine Sm.iload_n hC d_m10_file_47 rfl 2 rfl ?_
        refine Sm.callVi 9 (As := [.int a1]) (st := []) hC hR cw_m9_wasFiled (tw_i 633 (by decide +kernel)) (tw_i 634 (by decide +kernel)) (tw_i 635 (by decide +kernel)) ⟨_, rfl, rfl⟩ (fun r9 M9 h9 => ok_m9_wasFiled h9) rfl rfl (RW.of ⟨rfl, rfl, by decide, by decide⟩) (by simp) d_m10_file_48 (fun v11 M12 => ?_)
        refine Sm.if_eq (tgt := 61) hC d_m10_file_51 (by decide) ?_ ?_
        · refine Sm.aload_n hC d_m10_file_61 rfl 0 rfl ?_
          refine Sm.getI hC fl_m10_216 rfl d_m10_file_62 (fun v13 => ?_)
          refine Sm.bipush (v := 12) hC d_m10_file_65 (by decide) ?_
          refine Sm.icmp_lt (tgt := 77) hC d_m10_file_67 (by decide) ?_ ?_
          · refine Sm.aload_n hC d_m10_file_77 rfl 0 rfl ?_
            refine Sm.iload_n hC d_m10_file_78 rfl 2 rfl ?_
            refine Sm.callVv 9 (As := [.int a1]) (st := []) hC hR cw_m9_enqueue (tw_i 637 (by decide +kernel)) (tw_i 638 (by decide +kernel)) (tw_i 639 (by decide +kernel)) ⟨_, rfl, rfl⟩ (fun r9 M9 h9 => ok_m9_enqueue h9) rfl rfl (RW.of ⟨rfl, rfl, by decide, by decide⟩) (by simp) d_m10_file_79 (fun _ M14 => ?_)
            refine Sm.aload_n hC d_m10_file_82 rfl 0 rfl ?_
            refine Sm.getI hC fl_m10_216 rfl d_m10_file_83 (fun v15 => ?_)
            exact Sm.iret hC d_m10_file_86 rfl (Nat.sub_self _)
          · refine Sm.aload_n hC d_m10_file_70 rfl 1 rfl ?_
            refine Sm.bipush (v := -8) hC d_m10_file_71 (by decide) ?_
            refine Sm.callVi 10 (As := [.int (-8 : Int32)]) (st := []) hC hR cw_m10_refuse (tw_i 410 (by decide +kernel)) (tw_i 412 (by decide +kernel)) (tw_i 0 (by decide +kernel)) ⟨_, rfl, rfl⟩ (fun r9 M9 h9 => ok_m10_refuse h9) rfl rfl (RW.of ⟨rfl, rfl, by decide, by decide⟩) (by simp) d_m10_file_73 (fun v16 M17 => ?_)
            exact Sm.iret hC d_m10_file_76 rfl (Nat.sub_self _)
        · refine Sm.sub [1] rfl ?_
          exact w_m10_file_54 hC hR r0 M12
    · refine Sm.sub [0] rfl ?_
      exact w_m10_file_16 hC hR r0 M4
/-! NewsWire.garble(II)I -/
theorem fl_m10_37 : FL "NewsWire" 37 10 4 2 true (.object "NewsWire$Garbles") := ⟨_, _, _, _, rfl, in_c10, ty_c10, nm_c10, by decide, rfl, tw_i 361 (by decide +kernel), rfl, rfl, rfl, rfl⟩
theorem fl_m10_227 : FL "NewsWire" 227 1 2 0 false .int := ⟨_, _, _, _, rfl, in_c1, ty_c1, nm_c1, by decide, rfl, tw_i 150 (by decide +kernel), rfl, rfl, rfl, rfl⟩
abbrev b_m10_garble : ByteArray := prog_1_method_23_code
def y_m10_garble : MethodName := ⟨"NewsWire", "garble", "(II)I"⟩
def rm_m10_garble : Room := { frames := 2, cells := 0, slots := 0, locals := 83 }
theorem cw_m10_garble : CW y_m10_garble b_m10_garble 3 (some .int) 2 := ⟨tw_i 55 (by decide +kernel), tw_i 644 (by decide +kernel), by decide, by decide, by decide +kernel⟩
theorem d_m10_garble_0 : decode b_m10_garble 0 = .ok (.aload_n 0, 1) := by decide +kernel
theorem d_m10_garble_1 : decode b_m10_garble 1 = .ok (.iload_n 1, 1) := by decide +kernel
theorem d_m10_garble_2 : decode b_m10_garble 2 = .ok (.invokevirtual 209, 3) := by decide +kernel
theorem d_m10_garble_5 : decode b_m10_garble 5 = .ok (.ifCond .ne 10, 3) := by decide +kernel
theorem d_m10_garble_8 : decode b_m10_garble 8 = .ok (.aload_n 0, 1) := by decide +kernel
theorem d_m10_garble_9 : decode b_m10_garble 9 = .ok (.bipush (-3), 2) := by decide +kernel
theorem d_m10_garble_11 : decode b_m10_garble 11 = .ok (.invokevirtual 76, 3) := by decide +kernel
theorem d_m10_garble_14 : decode b_m10_garble 14 = .ok (.ireturn, 1) := by decide +kernel
theorem d_m10_garble_15 : decode b_m10_garble 15 = .ok (.iload_n 2, 1) := by decide +kernel
theorem d_m10_garble_16 : decode b_m10_garble 16 = .ok (.aload_n 0, 1) := by decide +kernel
theorem d_m10_garble_17 : decode b_m10_garble 17 = .ok (.getfield 195, 3) := by decide +kernel
theorem d_m10_garble_20 : decode b_m10_garble 20 = .ok (.if_icmp .lt 21, 3) := by decide +kernel
theorem d_m10_garble_23 : decode b_m10_garble 23 = .ok (.iload_n 2, 1) := by decide +kernel
theorem d_m10_garble_24 : decode b_m10_garble 24 = .ok (.ldc 149, 2) := by decide +kernel
theorem d_m10_garble_26 : decode b_m10_garble 26 = .ok (.if_icmp .gt 15, 3) := by decide +kernel
theorem d_m10_garble_29 : decode b_m10_garble 29 = .ok (.aload_n 0, 1) := by decide +kernel
theorem d_m10_garble_30 : decode b_m10_garble 30 = .ok (.getfield 37, 3) := by decide +kernel
theorem d_m10_garble_33 : decode b_m10_garble 33 = .ok (.iload_n 1, 1) := by decide +kernel
theorem d_m10_garble_34 : decode b_m10_garble 34 = .ok (.iload_n 2, 1) := by decide +kernel
theorem d_m10_garble_35 : decode b_m10_garble 35 = .ok (.invokevirtual 223, 3) := by decide +kernel
theorem d_m10_garble_38 : decode b_m10_garble 38 = .ok (.ifCond .eq 10, 3) := by decide +kernel
theorem d_m10_garble_41 : decode b_m10_garble 41 = .ok (.aload_n 0, 1) := by decide +kernel
theorem d_m10_garble_42 : decode b_m10_garble 42 = .ok (.bipush (-7), 2) := by decide +kernel
theorem d_m10_garble_44 : decode b_m10_garble 44 = .ok (.invokevirtual 76, 3) := by decide +kernel
theorem d_m10_garble_47 : decode b_m10_garble 47 = .ok (.ireturn, 1) := by decide +kernel
theorem d_m10_garble_48 : decode b_m10_garble 48 = .ok (.aload_n 0, 1) := by decide +kernel
theorem d_m10_garble_49 : decode b_m10_garble 49 = .ok (.getfield 37, 3) := by decide +kernel
theorem d_m10_garble_52 : decode b_m10_garble 52 = .ok (.getfield 227, 3) := by decide +kernel
theorem d_m10_garble_55 : decode b_m10_garble 55 = .ok (.bipush 40, 2) := by decide +kernel
theorem d_m10_garble_57 : decode b_m10_garble 57 = .ok (.if_icmp .lt 10, 3) := by decide +kernel
theorem d_m10_garble_60 : decode b_m10_garble 60 = .ok (.aload_n 0, 1) := by decide +kernel
theorem d_m10_garble_61 : decode b_m10_garble 61 = .ok (.bipush (-8), 2) := by decide +kernel
theorem d_m10_garble_63 : decode b_m10_garble 63 = .ok (.invokevirtual 76, 3) := by decide +kernel
theorem d_m10_garble_66 : decode b_m10_garble 66 = .ok (.ireturn, 1) := by decide +kernel
theorem d_m10_garble_67 : decode b_m10_garble 67 = .ok (.aload_n 0, 1) := by decide +kernel
theorem d_m10_garble_68 : decode b_m10_garble 68 = .ok (.getfield 37, 3) := by decide +kernel
theorem d_m10_garble_71 : decode b_m10_garble 71 = .ok (.iload_n 1, 1) := by decide +kernel
theorem d_m10_garble_72 : decode b_m10_garble 72 = .ok (.iload_n 2, 1) := by decide +kernel
theorem d_m10_garble_73 : decode b_m10_garble 73 = .ok (.invokevirtual 228, 3) := by decide +kernel
theorem d_m10_garble_76 : decode b_m10_garble 76 = .ok (.aload_n 0, 1) := by decide +kernel
theorem d_m10_garble_77 : decode b_m10_garble 77 = .ok (.getfield 37, 3) := by decide +kernel
theorem d_m10_garble_80 : decode b_m10_garble 80 = .ok (.getfield 227, 3) := by decide +kernel
theorem d_m10_garble_83 : decode b_m10_garble 83 = .ok (.ireturn, 1) := by decide +kernel
def s_m10_garble_41  (r0 : Nat) (M : Mm) : Option (Int32 × Mm) := cl (has M r0 20) (s_m10_refuse r0 (-7 : Int32) M) (fun v1 M2 => some (v1, M2))
def s_m10_garble (r0 : Nat) (a1 : Int32) (a2 : Int32) (M : Mm) : Option (Int32 × Mm) := cl (has M r0 20) (s_m10_isWire r0 a1 M) (fun v1 M2 => (if ¬ v1 = 0 then gI M2 r0 20 12 (fun v3 => (if a2 < v3 then s_m10_garble_41 r0 M2 else (if (100000 : Int32) < a2 then s_m10_garble_41 r0 M2 else gR M2 r0 20 4 (fun v4 => cl (has M2 v4 11) (s_m1_include v4 a1 a2 M2) (fun v5 M6 => (if v5 = 0 then gR M6 r0 20 4 (fun v7 => gI M6 v7 11 2 (fun v8 => (if v8 < (40 : Int32) then gR M6 r0 20 4 (fun v9 => cl (has M6 v9 11) (s_m1_enter v9 a1 a2 M6) (fun _ M10 => gR M10 r0 20 4 (fun v11 => gI M10 v11 11 2 (fun v12 => some (v12, M10))))) else cl (has M6 r0 20) (s_m10_refuse r0 (-8 : Int32) M6) (fun v13 M14 => some (v13, M14))))) else s_m10_garble_41 r0 M6)))))) else cl (has M2 r0 20) (s_m10_refuse r0 (-3 : Int32) M2) (fun v15 M16 => some (v15, M16))))
set_option maxRecDepth 100000 in
set_option maxHeartbeats 4000000 in
theorem w_m10_garble_41 {V : Ev} {C : Cx} {n0 : Nat} (hC : Cok V C y_m10_garble.cls b_m10_garble 3 n0 (some .int) y_m10_garble.name) (hR : cR C = rm_m10_garble)  : ∀ (r0 : Nat) (M : Mm), Sm V C 3 n0 n0 (qI V C) 41 [(0, rv V.1 r0)] [] M (s_m10_garble_41 r0 M) := by
  intro r0 M
  unfold s_m10_garble_41
  refine Sm.aload_n hC d_m10_garble_41 rfl 0 rfl ?_
  refine Sm.bipush (v := -7) hC d_m10_garble_42 (by decide) ?_
  refine Sm.callVi 10 (As := [.int (-7 : Int32)]) (st := []) hC hR cw_m10_refuse (tw_i 410 (by decide +kernel)) (tw_i 412 (by decide +kernel)) (tw_i 0 (by decide +kernel)) ⟨_, rfl, rfl⟩ (fun r9 M9 h9 => ok_m10_refuse h9) rfl rfl (RW.of ⟨rfl, rfl, by decide, by decide⟩) (by simp) d_m10_garble_44 (fun v1 M2 => ?_)
  exact Sm.iret hC d_m10_garble_47 rfl (Nat.sub_self _)
set_option maxRecDepth 100000 in
set_option maxHeartbeats 4000000 in
theorem ok_m10_garble {l : Launch} {V : Ev} {M M' : Mm} {r : Int32} {r0 : Nat} {a1 : Int32} {a2 : Int32} (h : s_m10_garble r0 a1 a2 M = some (r, M')) : Met l y_m10_garble (Cond.code y_m10_garble b_m10_garble 3 (some .int) :: TW) rm_m10_garble (va_Pc [rv V.1 r0, .int a1, .int a2] (Wd V M)) (QC V (some (.int r)) M' 0) 0 0 (Af V) := by
  refine met_of (fun x : Int32 => some (.int x)) (lv0 := [(0, rv V.1 r0), (1, .int a1), (2, .int a2)]) (by decide) (by simp [lg_sl, cat_rv, cat_i, cat_l, cat_f]) (by simp [lv_args, cat_rv, cat_i, cat_l, cat_f]) (fun C hl hR hC => ?_) h
  subst hl
  generalize mN M = n0 at hC ⊢
  unfold s_m10_garble
  refine Sm.aload_n hC d_m10_garble_0 rfl 0 rfl ?_
  refine Sm.iload_n hC d_m10_garble_1 rfl 1 rfl ?_
  refine Sm.callVi 10 (As := [.int a1]) (st := []) hC hR cw_m10_isWire (tw_i 629 (by decide +kernel)) (tw_i 631 (by decide +kernel)) (tw_i 5 (by decide +kernel)) ⟨_, rfl, rfl⟩ (fun r9 M9 h9 => ok_m10_isWire h9) rfl rfl (RW.of ⟨rfl, rfl, by decide, by decide⟩) (by simp) d_m10_garble_2 (fun v1 M2 => ?_)
  refine Sm.if_ne (tgt := 15) hC d_m10_garble_5 (by decide) ?_ ?_
  · refine Sm.iload_n hC d_m10_garble_15 rfl 2 rfl ?_
    refine Sm.aload_n hC d_m10_garble_16 rfl 0 rfl ?_
    refine Sm.getI hC fl_m10_195 rfl d_m10_garble_17 (fun v3 => ?_)
    refine Sm.icmp_lt (tgt := 41) hC d_m10_garble_20 (by decide) ?_ ?_
    · refine Sm.sub [0] rfl ?_
      exact w_m10_garble_41 hC hR r0 M2
    · refine Sm.iload_n hC d_m10_garble_23 rfl 2 rfl ?_
      refine Sm.ldc (v := 100000) hC d_m10_garble_24 (tw_i 443 (by decide +kernel)) ?_
      refine Sm.icmp_gt (tgt := 41) hC d_m10_garble_26 (by decide) ?_ ?_
      · refine Sm.sub [0] rfl ?_
        exact w_m10_garble_41 hC hR r0 M2
      · refine Sm.aload_n hC d_m10_garble_29 rfl 0 rfl ?_
        refine Sm.getR hC fl_m10_37 rfl d_m10_garble_30 (fun v4 => ?_)
        refine Sm.iload_n hC d_m10_garble_33 rfl 1 rfl ?_
        refine Sm.iload_n hC d_m10_garble_34 rfl 2 rfl ?_
        refine Sm.callVi 1 (As := [.int a1, .int a2]) (st := []) hC hR cw_m1_include (tw_i 645 (by decide +kernel)) (tw_i 646 (by decide +kernel)) (tw_i 647 (by decide +kernel)) ⟨_, rfl, rfl⟩ (fun r9 M9 h9 => ok_m1_include h9) rfl rfl (RW.of ⟨rfl, rfl, by decide, by decide⟩) (by simp) d_m10_garble_35 (fun v5 M6 => ?_)
        refine Sm.if_eq (tgt := 48) hC d_m10_garble_38 (by decide) ?_ ?_
        · refine Sm.aload_n hC d_m10_garble_48 rfl 0 rfl ?_
          refine Sm.getR hC fl_m10_37 rfl d_m10_garble_49 (fun v7 => ?_)
          refine Sm.getI hC fl_m10_227 rfl d_m10_garble_52 (fun v8 => ?_)
          refine Sm.bipush (v := 40) hC d_m10_garble_55 (by decide) ?_
          refine Sm.icmp_lt (tgt := 67) hC d_m10_garble_57 (by decide) ?_ ?_
          · refine Sm.aload_n hC d_m10_garble_67 rfl 0 rfl ?_
            refine Sm.getR hC fl_m10_37 rfl d_m10_garble_68 (fun v9 => ?_)
            refine Sm.iload_n hC d_m10_garble_71 rfl 1 rfl ?_
            refine Sm.iload_n hC d_m10_garble_72 rfl 2 rfl ?_
            refine Sm.callVv 1 (As := [.int a1, .int a2]) (st := []) hC hR cw_m1_enter (tw_i 649 (by decide +kernel)) (tw_i 650 (by decide +kernel)) (tw_i 651 (by decide +kernel)) ⟨_, rfl, rfl⟩ (fun r9 M9 h9 => ok_m1_enter h9) rfl rfl (RW.of ⟨rfl, rfl, by decide, by decide⟩) (by simp) d_m10_garble_73 (fun _ M10 => ?_)
            refine Sm.aload_n hC d_m10_garble_76 rfl 0 rfl ?_
            refine Sm.getR hC fl_m10_37 rfl d_m10_garble_77 (fun v11 => ?_)
            refine Sm.getI hC fl_m10_227 rfl d_m10_garble_80 (fun v12 => ?_)
            exact Sm.iret hC d_m10_garble_83 rfl (Nat.sub_self _)
          · refine Sm.aload_n hC d_m10_garble_60 rfl 0 rfl ?_
            refine Sm.bipush (v := -8) hC d_m10_garble_61 (by decide) ?_
            refine Sm.callVi 10 (As := [.int (-8 : Int32)]) (st := []) hC hR cw_m10_refuse (tw_i 410 (by decide +kernel)) (tw_i 412 (by decide +kernel)) (tw_i 0 (by decide +kernel)) ⟨_, rfl, rfl⟩ (fun r9 M9 h9 => ok_m10_refuse h9) rfl rfl (RW.of ⟨rfl, rfl, by decide, by decide⟩) (by simp) d_m10_garble_63 (fun v13 M14 => ?_)
            exact Sm.iret hC d_m10_garble_66 rfl (Nat.sub_self _)
        · refine Sm.sub [0] rfl ?_
          exact w_m10_garble_41 hC hR r0 M6
  · refine Sm.aload_n hC d_m10_garble_8 rfl 0 rfl ?_
    refine Sm.bipush (v := -3) hC d_m10_garble_9 (by decide) ?_
    refine Sm.callVi 10 (As := [.int (-3 : Int32)]) (st := []) hC hR cw_m10_refuse (tw_i 410 (by decide +kernel)) (tw_i 412 (by decide +kernel)) (tw_i 0 (by decide +kernel)) ⟨_, rfl, rfl⟩ (fun r9 M9 h9 => ok_m10_refuse h9) rfl rfl (RW.of ⟨rfl, rfl, by decide, by decide⟩) (by simp) d_m10_garble_11 (fun v15 M16 => ?_)
    exact Sm.iret hC d_m10_garble_14 rfl (Nat.sub_self _)
/-! NewsWire.isAnyWaiting()Z -/
abbrev b_m10_isAnyWaiting : ByteArray := prog_1_method_29_code
def y_m10_isAnyWaiting : MethodName := ⟨"NewsWire", "isAnyWaiting", "()Z"⟩
def rm_m10_isAnyWaiting : Room := { frames := 1, cells := 0, slots := 0, locals := 60 }
theorem cw_m10_isAnyWaiting : CW y_m10_isAnyWaiting b_m10_isAnyWaiting 2 (some .boolean) 0 := ⟨tw_i 55 (by decide +kernel), tw_i 660 (by decide +kernel), by decide, by decide, by decide +kernel⟩
theorem d_m10_isAnyWaiting_0 : decode b_m10_isAnyWaiting 0 = .ok (.iconst 0, 1) := by decide +kernel
theorem d_m10_isAnyWaiting_1 : decode b_m10_isAnyWaiting 1 = .ok (.istore_n 1, 1) := by decide +kernel
theorem d_m10_isAnyWaiting_2 : decode b_m10_isAnyWaiting 2 = .ok (.iload_n 1, 1) := by decide +kernel
theorem d_m10_isAnyWaiting_3 : decode b_m10_isAnyWaiting 3 = .ok (.aload_n 0, 1) := by decide +kernel
theorem d_m10_isAnyWaiting_4 : decode b_m10_isAnyWaiting 4 = .ok (.getfield 80, 3) := by decide +kernel
theorem d_m10_isAnyWaiting_7 : decode b_m10_isAnyWaiting 7 = .ok (.if_icmp .ge 23, 3) := by decide +kernel
theorem d_m10_isAnyWaiting_10 : decode b_m10_isAnyWaiting 10 = .ok (.aload_n 0, 1) := by decide +kernel
theorem d_m10_isAnyWaiting_11 : decode b_m10_isAnyWaiting 11 = .ok (.getfield 11, 3) := by decide +kernel
theorem d_m10_isAnyWaiting_14 : decode b_m10_isAnyWaiting 14 = .ok (.iload_n 1, 1) := by decide +kernel
theorem d_m10_isAnyWaiting_15 : decode b_m10_isAnyWaiting 15 = .ok (.aaload, 1) := by decide +kernel
theorem d_m10_isAnyWaiting_16 : decode b_m10_isAnyWaiting 16 = .ok (.getfield 216, 3) := by decide +kernel
theorem d_m10_isAnyWaiting_19 : decode b_m10_isAnyWaiting 19 = .ok (.ifCond .le 5, 3) := by decide +kernel
theorem d_m10_isAnyWaiting_22 : decode b_m10_isAnyWaiting 22 = .ok (.iconst 1, 1) := by decide +kernel
theorem d_m10_isAnyWaiting_23 : decode b_m10_isAnyWaiting 23 = .ok (.ireturn, 1) := by decide +kernel
theorem d_m10_isAnyWaiting_24 : decode b_m10_isAnyWaiting 24 = .ok (.iinc 1 1, 3) := by decide +kernel
theorem d_m10_isAnyWaiting_27 : decode b_m10_isAnyWaiting 27 = .ok (.goto (-25), 3) := by decide +kernel
theorem d_m10_isAnyWaiting_30 : decode b_m10_isAnyWaiting 30 = .ok (.iconst 0, 1) := by decide +kernel
theorem d_m10_isAnyWaiting_31 : decode b_m10_isAnyWaiting 31 = .ok (.ireturn, 1) := by decide +kernel
def s_m10_isAnyWaiting_2  : Nat → Nat → Int32 → Mm → Option (Int32 × Mm)
  | 0, _, _, _ => none
  | n + 1, r0, x1, M => gI M r0 20 10 (fun v1 => (if v1 ≤ x1 then rz (0 : Int32) (some ((0 : Int32), M)) else gR M r0 20 0 (fun v2 => aR M v2 5 x1 (fun v3 => gI M v3 19 3 (fun v4 => (if v4 ≤ 0 then (s_m10_isAnyWaiting_2 n) r0 (x1 + 1) M else rz (1 : Int32) (some ((1 : Int32), M))))))))
def s_m10_isAnyWaiting (r0 : Nat) (M : Mm) : Option (Int32 × Mm) := s_m10_isAnyWaiting_2 FU r0 (0 : Int32) M
set_option maxRecDepth 100000 in
set_option maxHeartbeats 4000000 in
theorem w_m10_isAnyWaiting_2 {V : Ev} {C : Cx} {n0 : Nat} (hC : Cok V C y_m10_isAnyWaiting.cls b_m10_isAnyWaiting 2 n0 (some .boolean) y_m10_isAnyWaiting.name) (hR : cR C = rm_m10_isAnyWaiting)  : ∀ (n : Nat) (r0 : Nat) (x1 : Int32) (M : Mm), Sm V C 2 n0 n0 (qI V C) 2 [(0, rv V.1 r0), (1, .int x1)] [] M (s_m10_isAnyWaiting_2 n r0 x1 M) := by
  intro n
  induction n with
  | zero => exact fun r0 x1 M => Sm.none_
  | succ n ih =>
    intro r0 x1 M
    unfold s_m10_isAnyWaiting_2
    refine Sm.iload_n hC d_m10_isAnyWaiting_2 rfl 1 rfl ?_
    refine Sm.aload_n hC d_m10_isAnyWaiting_3 rfl 0 rfl ?_
    refine Sm.getI hC fl_m10_80 rfl d_m10_isAnyWaiting_4 (fun v1 => ?_)
    refine Sm.icmp_ge (tgt := 30) hC d_m10_isAnyWaiting_7 (by decide) ?_ ?_
    · refine Sm.iconst (v := 0) hC d_m10_isAnyWaiting_30 (by decide) ?_
      exact Sm.zret hC d_m10_isAnyWaiting_31 rfl (Nat.sub_self _)
    · refine Sm.aload_n hC d_m10_isAnyWaiting_10 rfl 0 rfl ?_
      refine Sm.getR hC fl_m10_11 rfl d_m10_isAnyWaiting_11 (fun v2 => ?_)
      refine Sm.iload_n hC d_m10_isAnyWaiting_14 rfl 1 rfl ?_
      refine Sm.aald (Cn := n_c9) hC ⟨by decide, by decide⟩ rfl d_m10_isAnyWaiting_15 (fun v3 => ?_)
      refine Sm.getI hC fl_m10_216 rfl d_m10_isAnyWaiting_16 (fun v4 => ?_)
      refine Sm.if_le (tgt := 24) hC d_m10_isAnyWaiting_19 (by decide) ?_ ?_
      · refine Sm.iinc (v := x1 + 1) (lv' := [(1, .int (x1 + 1)), (0, rv V.1 r0)]) hC d_m10_isAnyWaiting_24 1 rfl rfl (by decide) (by simp [cat_rv]) ?_
        refine Sm.goto (tgt := 2) hC d_m10_isAnyWaiting_27 (by decide) ?_
        refine Sm.sub [1, 0] rfl ?_
        exact ih r0 (x1 + 1) M
      · refine Sm.iconst (v := 1) hC d_m10_isAnyWaiting_22 (by decide) ?_
        exact Sm.zret hC d_m10_isAnyWaiting_23 rfl (Nat.sub_self _)
set_option maxRecDepth 100000 in
set_option maxHeartbeats 4000000 in
theorem ok_m10_isAnyWaiting {l : Launch} {V : Ev} {M M' : Mm} {r : Int32} {r0 : Nat} (h : s_m10_isAnyWaiting r0 M = some (r, M')) : Met l y_m10_isAnyWaiting (Cond.code y_m10_isAnyWaiting b_m10_isAnyWaiting 2 (some .boolean) :: TW) rm_m10_isAnyWaiting (va_Pc [rv V.1 r0] (Wd V M)) (QC V (some (.int r)) M' 0) 0 0 (Af V) := by
  refine met_of (fun x : Int32 => some (.int x)) (lv0 := [(0, rv V.1 r0)]) (by decide) (by simp [lg_sl, cat_rv, cat_i, cat_l, cat_f]) (by simp [lv_args, cat_rv, cat_i, cat_l, cat_f]) (fun C hl hR hC => ?_) h
  subst hl
  generalize mN M = n0 at hC ⊢
  unfold s_m10_isAnyWaiting
  refine Sm.iconst (v := 0) hC d_m10_isAnyWaiting_0 (by decide) ?_
  refine Sm.istore_n (lv' := [(1, .int (0 : Int32)), (0, rv V.1 r0)]) hC d_m10_isAnyWaiting_1 rfl (by decide) (by simp [cat_rv]) ?_
  refine Sm.sub [1, 0] rfl ?_
  exact w_m10_isAnyWaiting_2 hC hR FU r0 (0 : Int32) M
