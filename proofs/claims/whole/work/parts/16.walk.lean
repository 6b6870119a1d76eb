/-! NewsWire.text(III)I -/
theorem fl_m10_294 : FL "NewsWire" 294 7 6 0 false .int := ⟨_, _, _, _, rfl, in_c7, ty_c7, nm_c7, by decide, rfl, tw_i 174 (by decide +kernel), rfl, rfl, rfl, rfl⟩
theorem fl_m10_295 : FL "NewsWire" 295 7 8 0 false .int := ⟨_, _, _, _, rfl, in_c7, ty_c7, nm_c7, by decide, rfl, tw_i 178 (by decide +kernel), rfl, rfl, rfl, rfl⟩
theorem fl_m10_298 : FL "NewsWire" 298 7 7 0 false .int := ⟨_, _, _, _, rfl, in_c7, ty_c7, nm_c7, by decide, rfl, tw_i 176 (by decide +kernel), rfl, rfl, rfl, rfl⟩
theorem fl_m10_301 : FL "NewsWire" 301 7 9 0 false .int := ⟨_, _, _, _, rfl, in_c7, ty_c7, nm_c7, by decide, rfl, tw_i 180 (by decide +kernel), rfl, rfl, rfl, rfl⟩
abbrev b_m10_text : ByteArray := prog_1_method_33_code
def y_m10_text : MethodName := ⟨"NewsWire", "text", "(III)I"⟩
def rm_m10_text : Room := { frames := 6, cells := 0, slots := 0, locals := 177 }
theorem cw_m10_text : CW y_m10_text b_m10_text 4 (some .int) 3 := ⟨tw_i 55 (by decide +kernel), tw_i 716 (by decide +kernel), by decide, by decide, by decide +kernel⟩
theorem d_m10_text_0 : decode b_m10_text 0 = .ok (.aload_n 0, 1) := by decide +kernel
theorem d_m10_text_1 : decode b_m10_text 1 = .ok (.iload_n 1, 1) := by decide +kernel
theorem d_m10_text_2 : decode b_m10_text 2 = .ok (.iload_n 2, 1) := by decide +kernel
theorem d_m10_text_3 : decode b_m10_text 3 = .ok (.invokevirtual 288, 3) := by decide +kernel
theorem d_m10_text_6 : decode b_m10_text 6 = .ok (.ifCond .ne 10, 3) := by decide +kernel
theorem d_m10_text_9 : decode b_m10_text 9 = .ok (.aload_n 0, 1) := by decide +kernel
theorem d_m10_text_10 : decode b_m10_text 10 = .ok (.bipush (-3), 2) := by decide +kernel
theorem d_m10_text_12 : decode b_m10_text 12 = .ok (.invokevirtual 76, 3) := by decide +kernel
theorem d_m10_text_15 : decode b_m10_text 15 = .ok (.ireturn, 1) := by decide +kernel
theorem d_m10_text_16 : decode b_m10_text 16 = .ok (.iload_n 3, 1) := by decide +kernel
theorem d_m10_text_17 : decode b_m10_text 17 = .ok (.ifCond .lt 8, 3) := by decide +kernel
theorem d_m10_text_20 : decode b_m10_text 20 = .ok (.iload_n 3, 1) := by decide +kernel
theorem d_m10_text_21 : decode b_m10_text 21 = .ok (.iconst 3, 1) := by decide +kernel
theorem d_m10_text_22 : decode b_m10_text 22 = .ok (.if_icmp .le 10, 3) := by decide +kernel
theorem d_m10_text_25 : decode b_m10_text 25 = .ok (.aload_n 0, 1) := by decide +kernel
theorem d_m10_text_26 : decode b_m10_text 26 = .ok (.bipush (-7), 2) := by decide +kernel
theorem d_m10_text_28 : decode b_m10_text 28 = .ok (.invokevirtual 76, 3) := by decide +kernel
theorem d_m10_text_31 : decode b_m10_text 31 = .ok (.ireturn, 1) := by decide +kernel
theorem d_m10_text_32 : decode b_m10_text 32 = .ok (.aload_n 0, 1) := by decide +kernel
theorem d_m10_text_33 : decode b_m10_text 33 = .ok (.iload_n 1, 1) := by decide +kernel
theorem d_m10_text_34 : decode b_m10_text 34 = .ok (.iload_n 2, 1) := by decide +kernel
theorem d_m10_text_35 : decode b_m10_text 35 = .ok (.invokevirtual 291, 3) := by decide +kernel
theorem d_m10_text_38 : decode b_m10_text 38 = .ok (.iload_n 3, 1) := by decide +kernel
theorem d_m10_text_39 : decode b_m10_text 39 = .ok (.tableswitch 49 0 2 #[25, 33, 41], 25) := by decide +kernel
theorem d_m10_text_64 : decode b_m10_text 64 = .ok (.aload_n 0, 1) := by decide +kernel
theorem d_m10_text_65 : decode b_m10_text 65 = .ok (.getfield 44, 3) := by decide +kernel
theorem d_m10_text_68 : decode b_m10_text 68 = .ok (.getfield 294, 3) := by decide +kernel
theorem d_m10_text_71 : decode b_m10_text 71 = .ok (.ireturn, 1) := by decide +kernel
theorem d_m10_text_72 : decode b_m10_text 72 = .ok (.aload_n 0, 1) := by decide +kernel
theorem d_m10_text_73 : decode b_m10_text 73 = .ok (.getfield 44, 3) := by decide +kernel
theorem d_m10_text_76 : decode b_m10_text 76 = .ok (.getfield 295, 3) := by decide +kernel
theorem d_m10_text_79 : decode b_m10_text 79 = .ok (.ireturn, 1) := by decide +kernel
theorem d_m10_text_80 : decode b_m10_text 80 = .ok (.aload_n 0, 1) := by decide +kernel
theorem d_m10_text_81 : decode b_m10_text 81 = .ok (.getfield 44, 3) := by decide +kernel
theorem d_m10_text_84 : decode b_m10_text 84 = .ok (.getfield 298, 3) := by decide +kernel
theorem d_m10_text_87 : decode b_m10_text 87 = .ok (.ireturn, 1) := by decide +kernel
theorem d_m10_text_88 : decode b_m10_text 88 = .ok (.aload_n 0, 1) := by decide +kernel
theorem d_m10_text_89 : decode b_m10_text 89 = .ok (.getfield 44, 3) := by decide +kernel
theorem d_m10_text_92 : decode b_m10_text 92 = .ok (.getfield 301, 3) := by decide +kernel
theorem d_m10_text_95 : decode b_m10_text 95 = .ok (.ireturn, 1) := by decide +kernel
def s_m10_text_25  (r0 : Nat) (M : Mm) : Option (Int32 × Mm) := cl (has M r0 20) (s_m10_refuse r0 (-7 : Int32) M) (fun v1 M2 => some (v1, M2))
def s_m10_text (r0 : Nat) (a1 : Int32) (a2 : Int32) (a3 : Int32) (M : Mm) : Option (Int32 × Mm) := cl (has M r0 20) (s_m10_isText r0 a1 a2 M) (fun v1 M2 => (if ¬ v1 = 0 then (if a3 < 0 then s_m10_text_25 r0 M2 else (if a3 ≤ (3 : Int32) then cl (has M2 r0 20) (s_m10_joinText r0 a1 a2 M2) (fun _ M3 => (if a3 = 0 then gR M3 r0 20 5 (fun v4 => gI M3 v4 17 6 (fun v5 => some (v5, M3))) else if a3 = 1 then gR M3 r0 20 5 (fun v6 => gI M3 v6 17 8 (fun v7 => some (v7, M3))) else if a3 = 2 then gR M3 r0 20 5 (fun v8 => gI M3 v8 17 7 (fun v9 => some (v9, M3))) else gR M3 r0 20 5 (fun v10 => gI M3 v10 17 9 (fun v11 => some (v11, M3))))) else s_m10_text_25 r0 M2)) else cl (has M2 r0 20) (s_m10_refuse r0 (-3 : Int32) M2) (fun v12 M13 => some (v12, M13))))
set_option maxRecDepth 100000 in
set_option maxHeartbeats 4000000 in
theorem w_m10_text_25 {V : Ev} {C : Cx} {n0 : Nat} (hC : Cok V C y_m10_text.cls b_m10_text 4 n0 (some .int) y_m10_text.name) (hR : cR C = rm_m10_text)  : ∀ (r0 : Nat) (M : Mm), Sm V C 4 n0 n0 (qI V C) 25 [(0, rv V.1 r0)] [] M (s_m10_text_25 r0 M) := by
  intro r0 M
  unfold s_m10_text_25
  refine Sm.aload_n hC d_m10_text_25 rfl 0 rfl ?_
  refine Sm.bipush (v := -7) hC d_m10_text_26 (by decide) ?_
  refine Sm.callVi 10 (As := [.int (-7 : Int32)]) (st := []) hC hR cw_m10_refuse (tw_i 410 (by decide +kernel)) (tw_i 412 (by decide +kernel)) (tw_i 0 (by decide +kernel)) ⟨_, rfl, rfl⟩ (fun r9 M9 h9 => ok_m10_refuse h9) rfl rfl (RW.of ⟨rfl, rfl, by decide, by decide⟩) (by simp) d_m10_text_28 (fun v1 M2 => ?_)
  exact Sm.iret hC d_m10_text_31 rfl (Nat.sub_self _)
set_option maxRecDepth 100000 in
set_option maxHeartbeats 4000000 in
theorem ok_m10_text {l : Launch} {V : Ev} {M M' : Mm} {r : Int32} {r0 : Nat} {a1 : Int32} {a2 : Int32} {a3 : Int32} (h : s_m10_text r0 a1 a2 a3 M = some (r, M')) : Met l y_m10_text (Cond.code y_m10_text b_m10_text 4 (some .int) :: TW) rm_m10_text (va_Pc [rv V.1 r0, .int a1, .int a2, .int a3] (Wd V M)) (QC V (some (.int r)) M' 0) 0 0 (Af V) := by
  refine met_of (fun x : Int32 => some (.int x)) (lv0 := [(0, rv V.1 r0), (1, .int a1), (2, .int a2), (3, .int a3)]) (by decide) (by simp [lg_sl, cat_rv, cat_i, cat_l, cat_f]) (by simp [lv_args, cat_rv, cat_i, cat_l, cat_f]) (fun C hl hR hC => ?_) h
  subst hl
  generalize mN M = n0 at hC ⊢
  unfold s_m10_text
  refine Sm.aload_n hC d_m10_text_0 rfl 0 rfl ?_
  refine Sm.iload_n hC d_m10_text_1 rfl 1 rfl ?_
  refine Sm.iload_n hC d_m10_text_2 rfl 2 rfl ?_
  refine Sm.callVi 10 (As := [.int a1, .int a2]) (st := []) hC hR cw_m10_isText (tw_i 717 (by decide +kernel)) (tw_i 719 (by decide +kernel)) (tw_i 10 (by decide +kernel)) ⟨_, rfl, rfl⟩ (fun r9 M9 h9 => ok_m10_isText h9) rfl rfl (RW.of ⟨rfl, rfl, by decide, by decide⟩) (by simp) d_m10_text_3 (fun v1 M2 => ?_)
  refine Sm.if_ne (tgt := 16) hC d_m10_text_6 (by decide) ?_ ?_
  · refine Sm.iload_n hC d_m10_text_16 rfl 3 rfl ?_
    refine Sm.if_lt (tgt := 25) hC d_m10_text_17 (by decide) ?_ ?_
    · refine Sm.sub [0] rfl ?_
      exact w_m10_text_25 hC hR r0 M2
    · refine Sm.iload_n hC d_m10_text_20 rfl 3 rfl ?_
      refine Sm.iconst (v := 3) hC d_m10_text_21 (by decide) ?_
      refine Sm.icmp_le (tgt := 32) hC d_m10_text_22 (by decide) ?_ ?_
      · refine Sm.aload_n hC d_m10_text_32 rfl 0 rfl ?_
        refine Sm.iload_n hC d_m10_text_33 rfl 1 rfl ?_
        refine Sm.iload_n hC d_m10_text_34 rfl 2 rfl ?_
        refine Sm.callVv 10 (As := [.int a1, .int a2]) (st := []) hC hR cw_m10_joinText (tw_i 721 (by decide +kernel)) (tw_i 723 (by decide +kernel)) (tw_i 11 (by decide +kernel)) ⟨_, rfl, rfl⟩ (fun r9 M9 h9 => ok_m10_joinText h9) rfl rfl (RW.of ⟨rfl, rfl, by decide, by decide⟩) (by simp) d_m10_text_35 (fun _ M3 => ?_)
        refine Sm.iload_n hC d_m10_text_38 rfl 3 rfl ?_
        refine Sm.if_ (fun h9 => ?_) (fun h39_0 => ?_)
        · refine Sm.tswIn (tgt := 64) hC d_m10_text_39 (by rw [h9]; decide) (by rw [h9]; decide) (by rw [h9] <;> rfl) (by decide) ?_
          refine Sm.aload_n hC d_m10_text_64 rfl 0 rfl ?_
          refine Sm.getR hC fl_m10_44 rfl d_m10_text_65 (fun v4 => ?_)
          refine Sm.getI hC fl_m10_294 rfl d_m10_text_68 (fun v5 => ?_)
          exact Sm.iret hC d_m10_text_71 rfl (Nat.sub_self _)
        refine Sm.if_ (fun h9 => ?_) (fun h39_1 => ?_)
        · refine Sm.tswIn (tgt := 72) hC d_m10_text_39 (by rw [h9]; decide) (by rw [h9]; decide) (by rw [h9] <;> rfl) (by decide) ?_
          refine Sm.aload_n hC d_m10_text_72 rfl 0 rfl ?_
          refine Sm.getR hC fl_m10_44 rfl d_m10_text_73 (fun v6 => ?_)
          refine Sm.getI hC fl_m10_295 rfl d_m10_text_76 (fun v7 => ?_)
          exact Sm.iret hC d_m10_text_79 rfl (Nat.sub_self _)
        refine Sm.if_ (fun h9 => ?_) (fun h39_2 => ?_)
        · refine Sm.tswIn (tgt := 80) hC d_m10_text_39 (by rw [h9]; decide) (by rw [h9]; decide) (by rw [h9] <;> rfl) (by decide) ?_
          refine Sm.aload_n hC d_m10_text_80 rfl 0 rfl ?_
          refine Sm.getR hC fl_m10_44 rfl d_m10_text_81 (fun v8 => ?_)
          refine Sm.getI hC fl_m10_298 rfl d_m10_text_84 (fun v9 => ?_)
          exact Sm.iret hC d_m10_text_87 rfl (Nat.sub_self _)
        refine Sm.tswOut (tgt := 88) hC d_m10_text_39 (out_of (n := 3) (by decide) (fun i hi => by
            match i, hi with
            | 0, _ => exact h39_0
            | 1, _ => exact h39_1
            | 2, _ => exact h39_2)) (by decide) ?_
        refine Sm.aload_n hC d_m10_text_88 rfl 0 rfl ?_
        refine Sm.getR hC fl_m10_44 rfl d_m10_text_89 (fun v10 => ?_)
        refine Sm.getI hC fl_m10_301 rfl d_m10_text_92 (fun v11 => ?_)
        exact Sm.iret hC d_m10_text_95 rfl (Nat.sub_self _)
      · refine Sm.sub [0] rfl ?_
        exact w_m10_text_25 hC hR r0 M2
  · refine Sm.aload_n hC d_m10_text_9 rfl 0 rfl ?_
    refine Sm.bipush (v := -3) hC d_m10_text_10 (by decide) ?_
    refine Sm.callVi 10 (As := [.int (-3 : Int32)]) (st := []) hC hR cw_m10_refuse (tw_i 410 (by decide +kernel)) (tw_i 412 (by decide +kernel)) (tw_i 0 (by decide +kernel)) ⟨_, rfl, rfl⟩ (fun r9 M9 h9 => ok_m10_refuse h9) rfl rfl (RW.of ⟨rfl, rfl, by decide, by decide⟩) (by simp) d_m10_text_12 (fun v12 M13 => ?_)
    exact Sm.iret hC d_m10_text_15 rfl (Nat.sub_self _)
/-! NewsWire.isPlaceInText(III)Z -/
abbrev b_m10_isPlaceInText : ByteArray := prog_1_method_43_code
def y_m10_isPlaceInText : MethodName := ⟨"NewsWire", "isPlaceInText", "(III)Z"⟩
def rm_m10_isPlaceInText : Room := { frames := 6, cells := 0, slots := 0, locals := 177 }
theorem cw_m10_isPlaceInText : CW y_m10_isPlaceInText b_m10_isPlaceInText 4 (some .boolean) 3 := ⟨tw_i 55 (by decide +kernel), tw_i 778 (by decide +kernel), by decide, by decide, by decide +kernel⟩
theorem d_m10_isPlaceInText_0 : decode b_m10_isPlaceInText 0 = .ok (.aload_n 0, 1) := by decide +kernel
theorem d_m10_isPlaceInText_1 : decode b_m10_isPlaceInText 1 = .ok (.iload_n 1, 1) := by decide +kernel
theorem d_m10_isPlaceInText_2 : decode b_m10_isPlaceInText 2 = .ok (.iload_n 2, 1) := by decide +kernel
theorem d_m10_isPlaceInText_3 : decode b_m10_isPlaceInText 3 = .ok (.invokevirtual 288, 3) := by decide +kernel
theorem d_m10_isPlaceInText_6 : decode b_m10_isPlaceInText 6 = .ok (.ifCond .ne 5, 3) := by decide +kernel
theorem d_m10_isPlaceInText_9 : decode b_m10_isPlaceInText 9 = .ok (.iconst 0, 1) := by decide +kernel
theorem d_m10_isPlaceInText_10 : decode b_m10_isPlaceInText 10 = .ok (.ireturn, 1) := by decide +kernel
theorem d_m10_isPlaceInText_11 : decode b_m10_isPlaceInText 11 = .ok (.aload_n 0, 1) := by decide +kernel
theorem d_m10_isPlaceInText_12 : decode b_m10_isPlaceInText 12 = .ok (.iload_n 1, 1) := by decide +kernel
theorem d_m10_isPlaceInText_13 : decode b_m10_isPlaceInText 13 = .ok (.iload_n 2, 1) := by decide +kernel
theorem d_m10_isPlaceInText_14 : decode b_m10_isPlaceInText 14 = .ok (.invokevirtual 291, 3) := by decide +kernel
theorem d_m10_isPlaceInText_17 : decode b_m10_isPlaceInText 17 = .ok (.iload_n 3, 1) := by decide +kernel
theorem d_m10_isPlaceInText_18 : decode b_m10_isPlaceInText 18 = .ok (.ifCond .lt 18, 3) := by decide +kernel
theorem d_m10_isPlaceInText_21 : decode b_m10_isPlaceInText 21 = .ok (.iload_n 3, 1) := by decide +kernel
theorem d_m10_isPlaceInText_22 : decode b_m10_isPlaceInText 22 = .ok (.aload_n 0, 1) := by decide +kernel
theorem d_m10_isPlaceInText_23 : decode b_m10_isPlaceInText 23 = .ok (.getfield 44, 3) := by decide +kernel
theorem d_m10_isPlaceInText_26 : decode b_m10_isPlaceInText 26 = .ok (.getfield 294, 3) := by decide +kernel
theorem d_m10_isPlaceInText_29 : decode b_m10_isPlaceInText 29 = .ok (.if_icmp .ge 7, 3) := by decide +kernel
theorem d_m10_isPlaceInText_32 : decode b_m10_isPlaceInText 32 = .ok (.iconst 1, 1) := by decide +kernel
theorem d_m10_isPlaceInText_33 : decode b_m10_isPlaceInText 33 = .ok (.goto 4, 3) := by decide +kernel
theorem d_m10_isPlaceInText_36 : decode b_m10_isPlaceInText 36 = .ok (.iconst 0, 1) := by decide +kernel
theorem d_m10_isPlaceInText_37 : decode b_m10_isPlaceInText 37 = .ok (.ireturn, 1) := by decide +kernel
def s_m10_isPlaceInText_37  (t0 : Int32) (M : Mm) : Option (Int32 × Mm) := rz t0 (some (t0, M))
def s_m10_isPlaceInText_36   (M : Mm) : Option (Int32 × Mm) := s_m10_isPlaceInText_37 (0 : Int32) M
def s_m10_isPlaceInText (r0 : Nat) (a1 : Int32) (a2 : Int32) (a3 : Int32) (M : Mm) : Option (Int32 × Mm) := cl (has M r0 20) (s_m10_isText r0 a1 a2 M) (fun v1 M2 => (if ¬ v1 = 0 then cl (has M2 r0 20) (s_m10_joinText r0 a1 a2 M2) (fun _ M3 => (if a3 < 0 then s_m10_isPlaceInText_36 M3 else gR M3 r0 20 5 (fun v4 => gI M3 v4 17 6 (fun v5 => (if v5 ≤ a3 then s_m10_isPlaceInText_36 M3 else s_m10_isPlaceInText_37 (1 : Int32) M3))))) else rz (0 : Int32) (some ((0 : Int32), M2))))
set_option maxRecDepth 100000 in
set_option maxHeartbeats 4000000 in
theorem w_m10_isPlaceInText_37 {V : Ev} {C : Cx} {n0 : Nat} (hC : Cok V C y_m10_isPlaceInText.cls b_m10_isPlaceInText 4 n0 (some .boolean) y_m10_isPlaceInText.name) (hR : cR C = rm_m10_isPlaceInText)  : ∀ (t0 : Int32) (M : Mm), Sm V C 4 n0 n0 (qI V C) 37 [] [.int t0] M (s_m10_isPlaceInText_37 t0 M) := by
  intro t0 M
  unfold s_m10_isPlaceInText_37
  exact Sm.zret hC d_m10_isPlaceInText_37 rfl (Nat.sub_self _)
set_option maxRecDepth 100000 in
set_option maxHeartbeats 4000000 in
theorem w_m10_isPlaceInText_36 {V : Ev} {C : Cx} {n0 : Nat} (hC : Cok V C y_m10_isPlaceInText.cls b_m10_isPlaceInText 4 n0 (some .boolean) y_m10_isPlaceInText.name) (hR : cR C = rm_m10_isPlaceInText)  : ∀  (M : Mm), Sm V C 4 n0 n0 (qI V C) 36 [] [] M (s_m10_isPlaceInText_36 M) := by
  intro M
  unfold s_m10_isPlaceInText_36
  refine Sm.iconst (v := 0) hC d_m10_isPlaceInText_36 (by decide) ?_
  exact w_m10_isPlaceInText_37 hC hR (0 : Int32) M
set_option maxRecDepth 100000 in
set_option maxHeartbeats 4000000 in
theorem ok_m10_isPlaceInText {l : Launch} {V : Ev} {M M' : Mm} {r : Int32} {r0 : Nat} {a1 : Int32} {a2 : Int32} {a3 : Int32} (h : s_m10_isPlaceInText r0 a1 a2 a3 M = some (r, M')) : Met l y_m10_isPlaceInText (Cond.code y_m10_isPlaceInText b_m10_isPlaceInText 4 (some .boolean) :: TW) rm_m10_isPlaceInText (va_Pc [rv V.1 r0, .int a1, .int a2, .int a3] (Wd V M)) (QC V (some (.int r)) M' 0) 0 0 (Af V) := by
  refine met_of (fun x : Int32 => some (.int x)) (lv0 := [(0, rv V.1 r0), (1, .int a1), (2, .int a2), (3, .int a3)]) (by decide) (by simp [lg_sl, cat_rv, cat_i, cat_l, cat_f]) (by simp [lv_args, cat_rv, cat_i, cat_l, cat_f]) (fun C hl hR hC => ?_) h
  subst hl
  generalize mN M = n0 at hC ⊢
  unfold s_m10_isPlaceInText
  refine Sm.aload_n hC d_m10_isPlaceInText_0 rfl 0 rfl ?_
  refine Sm.iload_n hC d_m10_isPlaceInText_1 rfl 1 rfl ?_
  refine Sm.iload_n hC d_m10_isPlaceInText_2 rfl 2 rfl ?_
  refine Sm.callVi 10 (As := [.int a1, .int a2]) (st := []) hC hR cw_m10_isText (tw_i 717 (by decide +kernel)) (tw_i 719 (by decide +kernel)) (tw_i 10 (by decide +kernel)) ⟨_, rfl, rfl⟩ (fun r9 M9 h9 => ok_m10_isText h9) rfl rfl (RW.of ⟨rfl, rfl, by decide, by decide⟩) (by simp) d_m10_isPlaceInText_3 (fun v1 M2 => ?_)
  refine Sm.if_ne (tgt := 11) hC d_m10_isPlaceInText_6 (by decide) ?_ ?_
  · refine Sm.aload_n hC d_m10_isPlaceInText_11 rfl 0 rfl ?_
    refine Sm.iload_n hC d_m10_isPlaceInText_12 rfl 1 rfl ?_
    refine Sm.iload_n hC d_m10_isPlaceInText_13 rfl 2 rfl ?_
    refine Sm.callVv 10 (As := [.int a1, .int a2]) (st := []) hC hR cw_m10_joinText (tw_i 721 (by decide +kernel)) (tw_i 723 (by decide +kernel)) (tw_i 11 (by decide +kernel)) ⟨_, rfl, rfl⟩ (fun r9 M9 h9 => ok_m10_joinText h9) rfl rfl (RW.of ⟨rfl, rfl, by decide, by decide⟩) (by simp) d_m10_isPlaceInText_14 (fun _ M3 => ?_)
    refine Sm.iload_n hC d_m10_isPlaceInText_17 rfl 3 rfl ?_
    refine Sm.if_lt (tgt := 36) hC d_m10_isPlaceInText_18 (by decide) ?_ ?_
    · refine Sm.sub [] rfl ?_
      exact w_m10_isPlaceInText_36 hC hR M3
    · refine Sm.iload_n hC d_m10_isPlaceInText_21 rfl 3 rfl ?_
      refine Sm.aload_n hC d_m10_isPlaceInText_22 rfl 0 rfl ?_
      refine Sm.getR hC fl_m10_44 rfl d_m10_isPlaceInText_23 (fun v4 => ?_)
      refine Sm.getI hC fl_m10_294 rfl d_m10_isPlaceInText_26 (fun v5 => ?_)
      refine Sm.icmp_ge (tgt := 36) hC d_m10_isPlaceInText_29 (by decide) ?_ ?_
      · refine Sm.sub [] rfl ?_
        exact w_m10_isPlaceInText_36 hC hR M3
      · refine Sm.iconst (v := 1) hC d_m10_isPlaceInText_32 (by decide) ?_
        refine Sm.goto (tgt := 37) hC d_m10_isPlaceInText_33 (by decide) ?_
        refine Sm.sub [] rfl ?_
        exact w_m10_isPlaceInText_37 hC hR (1 : Int32) M3
  · refine Sm.iconst (v := 0) hC d_m10_isPlaceInText_9 (by decide) ?_
    exact Sm.zret hC d_m10_isPlaceInText_10 rfl (Nat.sub_self _)
/-! NewsWire.read(III)I -/
theorem fl_m10_308 : FL "NewsWire" 308 7 0 2 true (.array .int) := ⟨_, _, _, _, rfl, in_c7, ty_c7, nm_c7, by decide, rfl, tw_i 166 (by decide +kernel), rfl, rfl, rfl, rfl⟩
abbrev b_m10_read : ByteArray := prog_1_method_34_code
def y_m10_read : MethodName := ⟨"NewsWire", "read", "(III)I"⟩
def rm_m10_read : Room := { frames := 7, cells := 0, slots := 0, locals := 200 }
theorem cw_m10_read : CW y_m10_read b_m10_read 4 (some .int) 3 := ⟨tw_i 55 (by decide +kernel), tw_i 774 (by decide +kernel), by decide, by decide, by decide +kernel⟩
theorem d_m10_read_0 : decode b_m10_read 0 = .ok (.aload_n 0, 1) := by decide +kernel
theorem d_m10_read_1 : decode b_m10_read 1 = .ok (.iload_n 1, 1) := by decide +kernel
theorem d_m10_read_2 : decode b_m10_read 2 = .ok (.iload_n 2, 1) := by decide +kernel
theorem d_m10_read_3 : decode b_m10_read 3 = .ok (.iload_n 3, 1) := by decide +kernel
theorem d_m10_read_4 : decode b_m10_read 4 = .ok (.invokevirtual 304, 3) := by decide +kernel
theorem d_m10_read_7 : decode b_m10_read 7 = .ok (.ifCond .eq 15, 3) := by decide +kernel
theorem d_m10_read_10 : decode b_m10_read 10 = .ok (.aload_n 0, 1) := by decide +kernel
theorem d_m10_read_11 : decode b_m10_read 11 = .ok (.getfield 44, 3) := by decide +kernel
theorem d_m10_read_14 : decode b_m10_read 14 = .ok (.getfield 308, 3) := by decide +kernel
theorem d_m10_read_17 : decode b_m10_read 17 = .ok (.iload_n 3, 1) := by decide +kernel
theorem d_m10_read_18 : decode b_m10_read 18 = .ok (.iaload, 1) := by decide +kernel
theorem d_m10_read_19 : decode b_m10_read 19 = .ok (.goto 9, 3) := by decide +kernel
theorem d_m10_read_22 : decode b_m10_read 22 = .ok (.aload_n 0, 1) := by decide +kernel
theorem d_m10_read_23 : decode b_m10_read 23 = .ok (.bipush (-3), 2) := by decide +kernel
theorem d_m10_read_25 : decode b_m10_read 25 = .ok (.invokevirtual 76, 3) := by decide +kernel
theorem d_m10_read_28 : decode b_m10_read 28 = .ok (.ireturn, 1) := by decide +kernel
def s_m10_read_28  (t0 : Int32) (M : Mm) : Option (Int32 × Mm) := some (t0, M)
def s_m10_read (r0 : Nat) (a1 : Int32) (a2 : Int32) (a3 : Int32) (M : Mm) : Option (Int32 × Mm) := cl (has M r0 20) (s_m10_isPlaceInText r0 a1 a2 a3 M) (fun v1 M2 => (if v1 = 0 then cl (has M2 r0 20) (s_m10_refuse r0 (-3 : Int32) M2) (fun v3 M4 => s_m10_read_28 v3 M4) else gR M2 r0 20 5 (fun v5 => gR M2 v5 17 0 (fun v6 => aI M2 v6 0 a3 (fun v7 => s_m10_read_28 v7 M2)))))
set_option maxRecDepth 100000 in
set_option maxHeartbeats 4000000 in
theorem w_m10_read_28 {V : Ev} {C : Cx} {n0 : Nat} (hC : Cok V C y_m10_read.cls b_m10_read 4 n0 (some .int) y_m10_read.name) (hR : cR C = rm_m10_read)  : ∀ (t0 : Int32) (M : Mm), Sm V C 4 n0 n0 (qI V C) 28 [] [.int t0] M (s_m10_read_28 t0 M) := by
  intro t0 M
  unfold s_m10_read_28
  exact Sm.iret hC d_m10_read_28 rfl (Nat.sub_self _)
set_option maxRecDepth 100000 in
set_option maxHeartbeats 4000000 in
theorem ok_m10_read {l : Launch} {V : Ev} {M M' : Mm} {r : Int32} {r0 : Nat} {a1 : Int32} {a2 : Int32} {a3 : Int32} (h : s_m10_read r0 a1 a2 a3 M = some (r, M')) : Met l y_m10_read (Cond.code y_m10_read b_m10_read 4 (some .int) :: TW) rm_m10_read (va_Pc [rv V.1 r0, .int a1, .int a2, .int a3] (Wd V M)) (QC V (some (.int r)) M' 0) 0 0 (Af V) := by
  refine met_of (fun x : Int32 => some (.int x)) (lv0 := [(0, rv V.1 r0), (1, .int a1), (2, .int a2), (3, .int a3)]) (by decide) (by simp [lg_sl, cat_rv, cat_i, cat_l, cat_f]) (by simp [lv_args, cat_rv, cat_i, cat_l, cat_f]) (fun C hl hR hC => ?_) h
  subst hl
  generalize mN M = n0 at hC ⊢
  unfold s_m10_read
  refine Sm.aload_n hC d_m10_read_0 rfl 0 rfl ?_
  refine Sm.iload_n hC d_m10_read_1 rfl 1 rfl ?_
  refine Sm.iload_n hC d_m10_read_2 rfl 2 rfl ?_
  refine Sm.iload_n hC d_m10_read_3 rfl 3 rfl ?_
  refine Sm.callVi 10 (As := [.int a1, .int a2, .int a3]) (st := []) hC hR cw_m10_isPlaceInText (tw_i 775 (by decide +kernel)) (tw_i 777 (by decide +kernel)) (tw_i 21 (by decide +kernel)) ⟨_, rfl, rfl⟩ (fun r9 M9 h9 => ok_m10_isPlaceInText h9) rfl rfl (RW.of ⟨rfl, rfl, by decide, by decide⟩) (by simp) d_m10_read_4 (fun v1 M2 => ?_)
  refine Sm.if_eq (tgt := 22) hC d_m10_read_7 (by decide) ?_ ?_
  · refine Sm.aload_n hC d_m10_read_22 rfl 0 rfl ?_
    refine Sm.bipush (v := -3) hC d_m10_read_23 (by decide) ?_
    refine Sm.callVi 10 (As := [.int (-3 : Int32)]) (st := []) hC hR cw_m10_refuse (tw_i 410 (by decide +kernel)) (tw_i 412 (by decide +kernel)) (tw_i 0 (by decide +kernel)) ⟨_, rfl, rfl⟩ (fun r9 M9 h9 => ok_m10_refuse h9) rfl rfl (RW.of ⟨rfl, rfl, by decide, by decide⟩) (by simp) d_m10_read_25 (fun v3 M4 => ?_)
    refine Sm.sub [] rfl ?_
    exact w_m10_read_28 hC hR v3 M4
  · refine Sm.aload_n hC d_m10_read_10 rfl 0 rfl ?_
    refine Sm.getR hC fl_m10_44 rfl d_m10_read_11 (fun v5 => ?_)
    refine Sm.getR hC fl_m10_308 rfl d_m10_read_14 (fun v6 => ?_)
    refine Sm.iload_n hC d_m10_read_17 rfl 3 rfl ?_
    refine Sm.iald hC d_m10_read_18 (fun v7 => ?_)
    refine Sm.goto (tgt := 28) hC d_m10_read_19 (by decide) ?_
    refine Sm.sub [] rfl ?_
    exact w_m10_read_28 hC hR v7 M2
/-! NewsWire.from(III)I -/
theorem fl_m10_309 : FL "NewsWire" 309 7 1 2 true (.array .int) := ⟨_, _, _, _, rfl, in_c7, ty_c7, nm_c7, by decide, rfl, tw_i 168 (by decide +kernel), rfl, rfl, rfl, rfl⟩
abbrev b_m10_from : ByteArray := prog_1_method_35_code
def y_m10_from : MethodName := ⟨"NewsWire", "from", "(III)I"⟩
def rm_m10_from : Room := { frames := 7, cells := 0, slots := 0, locals := 200 }
theorem cw_m10_from : CW y_m10_from b_m10_from 4 (some .int) 3 := ⟨tw_i 55 (by decide +kernel), tw_i 782 (by decide +kernel), by decide, by decide, by decide +kernel⟩
theorem d_m10_from_0 : decode b_m10_from 0 = .ok (.aload_n 0, 1) := by decide +kernel
theorem d_m10_from_1 : decode b_m10_from 1 = .ok (.iload_n 1, 1) := by decide +kernel
theorem d_m10_from_2 : decode b_m10_from 2 = .ok (.iload_n 2, 1) := by decide +kernel
theorem d_m10_from_3 : decode b_m10_from 3 = .ok (.iload_n 3, 1) := by decide +kernel
theorem d_m10_from_4 : decode b_m10_from 4 = .ok (.invokevirtual 304, 3) := by decide +kernel
theorem d_m10_from_7 : decode b_m10_from 7 = .ok (.ifCond .eq 15, 3) := by decide +kernel
theorem d_m10_from_10 : decode b_m10_from 10 = .ok (.aload_n 0, 1) := by decide +kernel
theorem d_m10_from_11 : decode b_m10_from 11 = .ok (.getfield 44, 3) := by decide +kernel
theorem d_m10_from_14 : decode b_m10_from 14 = .ok (.getfield 309, 3) := by decide +kernel
theorem d_m10_from_17 : decode b_m10_from 17 = .ok (.iload_n 3, 1) := by decide +kernel
theorem d_m10_from_18 : decode b_m10_from 18 = .ok (.iaload, 1) := by decide +kernel
theorem d_m10_from_19 : decode b_m10_from 19 = .ok (.goto 9, 3) := by decide +kernel
theorem d_m10_from_22 : decode b_m10_from 22 = .ok (.aload_n 0, 1) := by decide +kernel
theorem d_m10_from_23 : decode b_m10_from 23 = .ok (.bipush (-3), 2) := by decide +kernel
theorem d_m10_from_25 : decode b_m10_from 25 = .ok (.invokevirtual 76, 3) := by decide +kernel
theorem d_m10_from_28 : decode b_m10_from 28 = .ok (.ireturn, 1) := by decide +kernel
def s_m10_from_28  (t0 : Int32) (M : Mm) : Option (Int32 × Mm) := some (t0, M)
def s_m10_from (r0 : Nat) (a1 : Int32) (a2 : Int32) (a3 : Int32) (M : Mm) : Option (Int32 × Mm) := cl (has M r0 20) (s_m10_isPlaceInText r0 a1 a2 a3 M) (fun v1 M2 => (if v1 = 0 then cl (has M2 r0 20) (s_m10_refuse r0 (-3 : Int32) M2) (fun v3 M4 => s_m10_from_28 v3 M4) else gR M2 r0 20 5 (fun v5 => gR M2 v5 17 1 (fun v6 => aI M2 v6 0 a3 (fun v7 => s_m10_from_28 v7 M2)))))
set_option maxRecDepth 100000 in
set_option maxHeartbeats 4000000 in
theorem w_m10_from_28 {V : Ev} {C : Cx} {n0 : Nat} (hC : Cok V C y_m10_from.cls b_m10_from 4 n0 (some .int) y_m10_from.name) (hR : cR C = rm_m10_from)  : ∀ (t0 : Int32) (M : Mm), Sm V C 4 n0 n0 (qI V C) 28 [] [.int t0] M (s_m10_from_28 t0 M) := by
  intro t0 M
  unfold s_m10_from_28
  exact Sm.iret hC d_m10_from_28 rfl (Nat.sub_self _)
set_option maxRecDepth 100000 in
set_option maxHeartbeats 4000000 in
theorem ok_m10_from {l : Launch} {V : Ev} {M M' : Mm} {r : Int32} {r0 : Nat} {a1 : Int32} {a2 : Int32} {a3 : Int32} (h : s_m10_from r0 a1 a2 a3 M = some (r, M')) : Met l y_m10_from (Cond.code y_m10_from b_m10_from 4 (some .int) :: TW) rm_m10_from (va_Pc [rv V.1 r0, .int a1, .int a2, .int a3] (Wd V M)) (QC V (some (.int r)) M' 0) 0 0 (Af V) := by
  refine met_of (fun x : Int32 => some (.int x)) (lv0 := [(0, rv V.1 r0), (1, .int a1), (2, .int a2), (3, .int a3)]) (by decide) (by simp [lg_sl, cat_rv, cat_i, cat_l, cat_f]) (by simp [lv_args, cat_rv, cat_i, cat_l, cat_f]) (fun C hl hR hC => ?_) h
  subst hl
  generalize mN M = n0 at hC ⊢
  unfold s_m10_from
  refine Sm.aload_n hC d_m10_from_0 rfl 0 rfl ?_
  refine Sm.iload_n hC d_m10_from_1 rfl 1 rfl ?_
  refine Sm.iload_n hC d_m10_from_2 rfl 2 rfl ?_
  refine Sm.iload_n hC d_m10_from_3 rfl 3 rfl ?_
  refine Sm.callVi 10 (As := [.int a1, .int a2, .int a3]) (st := []) hC hR cw_m10_isPlaceInText (tw_i 775 (by decide +kernel)) (tw_i 777 (by decide +kernel)) (tw_i 21 (by decide +kernel)) ⟨_, rfl, rfl⟩ (fun r9 M9 h9 => ok_m10_isPlaceInText h9) rfl rfl (RW.of ⟨rfl, rfl, by decide, by decide⟩) (by simp) d_m10_from_4 (fun v1 M2 => ?_)
  refine Sm.if_eq (tgt := 22) hC d_m10_from_7 (by decide) ?_ ?_
  · refine Sm.aload_n hC d_m10_from_22 rfl 0 rfl ?_
    refine Sm.bipush (v := -3) hC d_m10_from_23 (by decide) ?_
    refine Sm.callVi 10 (As := [.int (-3 : Int32)]) (st := []) hC hR cw_m10_refuse (tw_i 410 (by decide +kernel)) (tw_i 412 (by decide +kernel)) (tw_i 0 (by decide +kernel)) ⟨_, rfl, rfl⟩ (fun r9 M9 h9 => ok_m10_refuse h9) rfl rfl (RW.of ⟨rfl, rfl, by decide, by decide⟩) (by simp) d_m10_from_25 (fun v3 M4 => ?_)
    refine Sm.sub [] rfl ?_
    exact w_m10_from_28 hC hR v3 M4
  · refine Sm.aload_n hC d_m10_from_10 rfl 0 rfl ?_
    refine Sm.getR hC fl_m10_44 rfl d_m10_from_11 (fun v5 => ?_)
    refine Sm.getR hC fl_m10_309 rfl d_m10_from_14 (fun v6 => ?_)
    refine Sm.iload_n hC d_m10_from_17 rfl 3 rfl ?_
    refine Sm.iald hC d_m10_from_18 (fun v7 => ?_)
    refine Sm.goto (tgt := 28) hC d_m10_from_19 (by decide) ?_
    refine Sm.sub [] rfl ?_
    exact w_m10_from_28 hC hR v7 M2
/-! NewsWire.edition(I)I -/
theorem fl_m10_320 : FL "NewsWire" 320 2 2 0 false .int := ⟨_, _, _, _, rfl, in_c2, ty_c2, nm_c2, by decide, rfl, tw_i 343 (by decide +kernel), rfl, rfl, rfl, rfl⟩
theorem fl_m10_323 : FL "NewsWire" 323 2 3 0 false .int := ⟨_, _, _, _, rfl, in_c2, ty_c2, nm_c2, by decide, rfl, tw_i 344 (by decide +kernel), rfl, rfl, rfl, rfl⟩
theorem fl_m10_326 : FL "NewsWire" 326 2 4 1 false .long := ⟨_, _, _, _, rfl, in_c2, ty_c2, nm_c2, by decide, rfl, tw_i 345 (by decide +kernel), rfl, rfl, rfl, rfl⟩
abbrev b_m10_edition : ByteArray := prog_1_method_36_code
def y_m10_edition : MethodName := ⟨"NewsWire", "edition", "(I)I"⟩
def rm_m10_edition : Room := { frames := 5, cells := 0, slots := 0, locals := 155 }
theorem cw_m10_edition : CW y_m10_edition b_m10_edition 7 (some .int) 1 := ⟨tw_i 55 (by decide +kernel), tw_i 786 (by decide +kernel), by decide, by decide, by decide +kernel⟩
theorem d_m10_edition_0 : decode b_m10_edition 0 = .ok (.iload_n 1, 1) := by decide +kernel
theorem d_m10_edition_1 : decode b_m10_edition 1 = .ok (.invokestatic 192, 3) := by decide +kernel
theorem d_m10_edition_4 : decode b_m10_edition 4 = .ok (.ifCond .ne 10, 3) := by decide +kernel
theorem d_m10_edition_7 : decode b_m10_edition 7 = .ok (.aload_n 0, 1) := by decide +kernel
theorem d_m10_edition_8 : decode b_m10_edition 8 = .ok (.bipush (-3), 2) := by decide +kernel
theorem d_m10_edition_10 : decode b_m10_edition 10 = .ok (.invokevirtual 76, 3) := by decide +kernel
theorem d_m10_edition_13 : decode b_m10_edition 13 = .ok (.ireturn, 1) := by decide +kernel
theorem d_m10_edition_14 : decode b_m10_edition 14 = .ok (.aload_n 0, 1) := by decide +kernel
theorem d_m10_edition_15 : decode b_m10_edition 15 = .ok (.getfield 23, 3) := by decide +kernel
theorem d_m10_edition_18 : decode b_m10_edition 18 = .ok (.iload_n 1, 1) := by decide +kernel
theorem d_m10_edition_19 : decode b_m10_edition 19 = .ok (.aaload, 1) := by decide +kernel
theorem d_m10_edition_20 : decode b_m10_edition 20 = .ok (.astore_n 2, 1) := by decide +kernel
theorem d_m10_edition_21 : decode b_m10_edition 21 = .ok (.iconst 0, 1) := by decide +kernel
theorem d_m10_edition_22 : decode b_m10_edition 22 = .ok (.istore_n 3, 1) := by decide +kernel
theorem d_m10_edition_23 : decode b_m10_edition 23 = .ok (.lconst 0, 1) := by decide +kernel
theorem d_m10_edition_24 : decode b_m10_edition 24 = .ok (.lstore 4, 2) := by decide +kernel
theorem d_m10_edition_26 : decode b_m10_edition 26 = .ok (.iconst 0, 1) := by decide +kernel
theorem d_m10_edition_27 : decode b_m10_edition 27 = .ok (.istore 6, 2) := by decide +kernel
theorem d_m10_edition_29 : decode b_m10_edition 29 = .ok (.iload 6, 2) := by decide +kernel
theorem d_m10_edition_31 : decode b_m10_edition 31 = .ok (.bipush 8, 2) := by decide +kernel
theorem d_m10_edition_33 : decode b_m10_edition 33 = .ok (.if_icmp .ge 49, 3) := by decide +kernel
theorem d_m10_edition_36 : decode b_m10_edition 36 = .ok (.aload_n 0, 1) := by decide +kernel
theorem d_m10_edition_37 : decode b_m10_edition 37 = .ok (.getfield 44, 3) := by decide +kernel
theorem d_m10_edition_40 : decode b_m10_edition 40 = .ok (.aload_n 0, 1) := by decide +kernel
theorem d_m10_edition_41 : decode b_m10_edition 41 = .ok (.getfield 17, 3) := by decide +kernel
theorem d_m10_edition_44 : decode b_m10_edition 44 = .ok (.iload 6, 2) := by decide +kernel
theorem d_m10_edition_46 : decode b_m10_edition 46 = .ok (.aload_n 2, 1) := by decide +kernel
theorem d_m10_edition_47 : decode b_m10_edition 47 = .ok (.aload_n 0, 1) := by decide +kernel
theorem d_m10_edition_48 : decode b_m10_edition 48 = .ok (.getfield 195, 3) := by decide +kernel
theorem d_m10_edition_51 : decode b_m10_edition 51 = .ok (.invokevirtual 312, 3) := by decide +kernel
theorem d_m10_edition_54 : decode b_m10_edition 54 = .ok (.iload_n 3, 1) := by decide +kernel
theorem d_m10_edition_55 : decode b_m10_edition 55 = .ok (.aload_n 0, 1) := by decide +kernel
theorem d_m10_edition_56 : decode b_m10_edition 56 = .ok (.getfield 44, 3) := by decide +kernel
theorem d_m10_edition_59 : decode b_m10_edition 59 = .ok (.getfield 294, 3) := by decide +kernel
theorem d_m10_edition_62 : decode b_m10_edition 62 = .ok (.iadd, 1) := by decide +kernel
theorem d_m10_edition_63 : decode b_m10_edition 63 = .ok (.istore_n 3, 1) := by decide +kernel
theorem d_m10_edition_64 : decode b_m10_edition 64 = .ok (.lload 4, 2) := by decide +kernel
theorem d_m10_edition_66 : decode b_m10_edition 66 = .ok (.aload_n 0, 1) := by decide +kernel
theorem d_m10_edition_67 : decode b_m10_edition 67 = .ok (.getfield 44, 3) := by decide +kernel
theorem d_m10_edition_70 : decode b_m10_edition 70 = .ok (.invokevirtual 316, 3) := by decide +kernel
theorem d_m10_edition_73 : decode b_m10_edition 73 = .ok (.lor, 1) := by decide +kernel
theorem d_m10_edition_74 : decode b_m10_edition 74 = .ok (.lstore 4, 2) := by decide +kernel
theorem d_m10_edition_76 : decode b_m10_edition 76 = .ok (.iinc 6 1, 3) := by decide +kernel
theorem d_m10_edition_79 : decode b_m10_edition 79 = .ok (.goto (-50), 3) := by decide +kernel
theorem d_m10_edition_82 : decode b_m10_edition 82 = .ok (.aload_n 2, 1) := by decide +kernel
theorem d_m10_edition_83 : decode b_m10_edition 83 = .ok (.aload_n 0, 1) := by decide +kernel
theorem d_m10_edition_84 : decode b_m10_edition 84 = .ok (.getfield 195, 3) := by decide +kernel
theorem d_m10_edition_87 : decode b_m10_edition 87 = .ok (.putfield 320, 3) := by decide +kernel
theorem d_m10_edition_90 : decode b_m10_edition 90 = .ok (.aload_n 2, 1) := by decide +kernel
theorem d_m10_edition_91 : decode b_m10_edition 91 = .ok (.iload_n 3, 1) := by decide +kernel
theorem d_m10_edition_92 : decode b_m10_edition 92 = .ok (.putfield 323, 3) := by decide +kernel
theorem d_m10_edition_95 : decode b_m10_edition 95 = .ok (.aload_n 2, 1) := by decide +kernel
theorem d_m10_edition_96 : decode b_m10_edition 96 = .ok (.lload 4, 2) := by decide +kernel
theorem d_m10_edition_98 : decode b_m10_edition 98 = .ok (.putfield 326, 3) := by decide +kernel
theorem d_m10_edition_101 : decode b_m10_edition 101 = .ok (.iload_n 3, 1) := by decide +kernel
theorem d_m10_edition_102 : decode b_m10_edition 102 = .ok (.ireturn, 1) := by decide +kernel
def s_m10_edition_29  : Nat → Nat → Nat → Int32 → Int64 → Int32 → Mm → Option (Int32 × Mm)
  | 0, _, _, _, _, _, _ => none
  | n + 1, r0, r2, x3, l4, x6, M => (if (8 : Int32) ≤ x6 then gI M r0 20 12 (fun v1 => pI M r2 12 2 v1 (fun M2 => pI M2 r2 12 3 x3 (fun M3 => pL M3 r2 12 4 l4 (fun M4 => some (x3, M4))))) else gR M r0 20 5 (fun v5 => gR M r0 20 1 (fun v6 => gI M r0 20 12 (fun v7 => cl (has M v5 17) (s_m7_join v5 v6 x6 r2 v7 M) (fun _ M8 => gR M8 r0 20 5 (fun v9 => gI M8 v9 17 6 (fun v10 => gR M8 r0 20 5 (fun v11 => cl (has M8 v11 17) (s_m7_setOfBringers v11 M8) (fun v12 M13 => (s_m10_edition_29 n) r0 r2 (x3 + v10) (l4 ||| v12) (x6 + 1) M13)))))))))
def s_m10_edition (r0 : Nat) (a1 : Int32) (M : Mm) : Option (Int32 × Mm) := cl true (s_m10_isPaper a1 M) (fun v1 M2 => (if ¬ v1 = 0 then gR M2 r0 20 2 (fun v3 => aR M2 v3 2 a1 (fun v4 => s_m10_edition_29 FU r0 v4 (0 : Int32) (0 : Int64) (0 : Int32) M2)) else cl (has M2 r0 20) (s_m10_refuse r0 (-3 : Int32) M2) (fun v5 M6 => some (v5, M6))))
set_option maxRecDepth 100000 in
set_option maxHeartbeats 4000000 in
theorem w_m10_edition_29 {V : Ev} {C : Cx} {n0 : Nat} (hC : Cok V C y_m10_edition.cls b_m10_edition 7 n0 (some .int) y_m10_edition.name) (hR : cR C = rm_m10_edition)  : ∀ (n : Nat) (r0 : Nat) (r2 : Nat) (x3 : Int32) (l4 : Int64) (x6 : Int32) (M : Mm), Sm V C 7 n0 n0 (qI V C) 29 [(0, rv V.1 r0), (2, rv V.1 r2), (3, .int x3), (4, .long l4), (6, .int x6)] [] M (s_m10_edition_29 n r0 r2 x3 l4 x6 M) := by
  intro n
  induction n with
  | zero => exact fun r0 r2 x3 l4 x6 M => Sm.none_
  | succ n ih =>
    intro r0 r2 x3 l4 x6 M
    unfold s_m10_edition_29
    refine Sm.iload hC d_m10_edition_29 4 rfl ?_
    refine Sm.bipush (v := 8) hC d_m10_edition_31 (by decide) ?_
    refine Sm.icmp_ge (tgt := 82) hC d_m10_edition_33 (by decide) ?_ ?_
    · refine Sm.aload_n hC d_m10_edition_82 rfl 1 rfl ?_
      refine Sm.aload_n hC d_m10_edition_83 rfl 0 rfl ?_
      refine Sm.getI hC fl_m10_195 rfl d_m10_edition_84 (fun v1 => ?_)
      refine Sm.putI hC fl_m10_320 rfl d_m10_edition_87 (fun M2 => ?_)
      refine Sm.aload_n hC d_m10_edition_90 rfl 1 rfl ?_
      refine Sm.iload_n hC d_m10_edition_91 rfl 2 rfl ?_
      refine Sm.putI hC fl_m10_323 rfl d_m10_edition_92 (fun M3 => ?_)
      refine Sm.aload_n hC d_m10_edition_95 rfl 1 rfl ?_
      refine Sm.lload hC d_m10_edition_96 3 rfl ?_
      refine Sm.putL hC fl_m10_326 rfl d_m10_edition_98 (fun M4 => ?_)
      refine Sm.iload_n hC d_m10_edition_101 rfl 2 rfl ?_
      exact Sm.iret hC d_m10_edition_102 rfl (Nat.sub_self _)
    · refine Sm.aload_n hC d_m10_edition_36 rfl 0 rfl ?_
      refine Sm.getR hC fl_m10_44 rfl d_m10_edition_37 (fun v5 => ?_)
      refine Sm.aload_n hC d_m10_edition_40 rfl 0 rfl ?_
      refine Sm.getR hC fl_m10_17 rfl d_m10_edition_41 (fun v6 => ?_)
      refine Sm.iload hC d_m10_edition_44 4 rfl ?_
      refine Sm.aload_n hC d_m10_edition_46 rfl 1 rfl ?_
      refine Sm.aload_n hC d_m10_edition_47 rfl 0 rfl ?_
      refine Sm.getI hC fl_m10_195 rfl d_m10_edition_48 (fun v7 => ?_)
      refine Sm.callVv 7 (As := [rv V.1 v6, .int x6, rv V.1 r2, .int v7]) (st := []) hC hR cw_m7_join (tw_i 725 (by decide +kernel)) (tw_i 726 (by decide +kernel)) (tw_i 727 (by decide +kernel)) ⟨_, rfl, rfl⟩ (fun r9 M9 h9 => ok_m7_join h9) rfl rfl (RW.of ⟨rfl, rfl, by decide, by decide⟩) (by simp) d_m10_edition_51 (fun _ M8 => ?_)
      refine Sm.iload_n hC d_m10_edition_54 rfl 2 rfl ?_
      refine Sm.aload_n hC d_m10_edition_55 rfl 0 rfl ?_
      refine Sm.getR hC fl_m10_44 rfl d_m10_edition_56 (fun v9 => ?_)
      refine Sm.getI hC fl_m10_294 rfl d_m10_edition_59 (fun v10 => ?_)
      refine Sm.iadd hC d_m10_edition_62 ?_
      refine Sm.istore_n (i := 3) (lv' := [(3, .int (x3 + v10)), (0, rv V.1 r0), (2, rv V.1 r2), (4, .long l4), (6, .int x6)]) hC d_m10_edition_63 rfl (by decide) (by simp [cat_rv, cat_i, cat_l, cat_f]) ?_
      refine Sm.lload hC d_m10_edition_64 3 rfl ?_
      refine Sm.aload_n hC d_m10_edition_66 rfl 1 rfl ?_
      refine Sm.getR hC fl_m10_44 rfl d_m10_edition_67 (fun v11 => ?_)
      refine Sm.callVl 7 (As := []) (st := [.long l4]) hC hR cw_m7_setOfBringers (tw_i 787 (by decide +kernel)) (tw_i 788 (by decide +kernel)) (tw_i 789 (by decide +kernel)) ⟨_, rfl, rfl⟩ (fun r9 M9 h9 => ok_m7_setOfBringers h9) rfl rfl (RW.of ⟨rfl, rfl, by decide, by decide⟩) (by simp) d_m10_edition_70 (fun v12 M13 => ?_)
      refine Sm.lor hC d_m10_edition_73 ?_
      refine Sm.lstore (lv' := [(4, .long (l4 ||| v12)), (3, .int (x3 + v10)), (0, rv V.1 r0), (2, rv V.1 r2), (6, .int x6)]) hC d_m10_edition_74 (by decide) rfl ?_
      refine Sm.iinc (v := x6 + 1) (lv' := [(6, .int (x6 + 1)), (4, .long (l4 ||| v12)), (3, .int (x3 + v10)), (0, rv V.1 r0), (2, rv V.1 r2)]) hC d_m10_edition_76 4 rfl rfl (by decide) rfl ?_
      refine Sm.goto (tgt := 29) hC d_m10_edition_79 (by decide) ?_
      refine Sm.sub [3, 4, 2, 1, 0] rfl ?_
      exact ih r0 r2 (x3 + v10) (l4 ||| v12) (x6 + 1) M13
set_option maxRecDepth 100000 in
set_option maxHeartbeats 4000000 in
theorem ok_m10_edition {l : Launch} {V : Ev} {M M' : Mm} {r : Int32} {r0 : Nat} {a1 : Int32} (h : s_m10_edition r0 a1 M = some (r, M')) : Met l y_m10_edition (Cond.code y_m10_edition b_m10_edition 7 (some .int) :: TW) rm_m10_edition (va_Pc [rv V.1 r0, .int a1] (Wd V M)) (QC V (some (.int r)) M' 0) 0 0 (Af V) := by
  refine met_of (fun x : Int32 => some (.int x)) (lv0 := [(0, rv V.1 r0), (1, .int a1)]) (by decide) (by simp [lg_sl, cat_rv, cat_i, cat_l, cat_f]) (by simp [lv_args, cat_rv, cat_i, cat_l, cat_f]) (fun C hl hR hC => ?_) h
  subst hl
  generalize mN M = n0 at hC ⊢
  unfold s_m10_edition
  refine Sm.iload_n hC d_m10_edition_0 rfl 1 rfl ?_
  refine Sm.callSi (As := [.int a1]) (st := []) hC hR cw_m10_isPaper (tw_i 590 (by decide +kernel)) (tw_i 591 (by decide +kernel)) (fun r9 M9 h9 => ok_m10_isPaper h9) rfl rfl (RW.of ⟨rfl, rfl, by decide, by decide⟩) (by simp) d_m10_edition_1 (fun v1 M2 => ?_)
  refine Sm.if_ne (tgt := 14) hC d_m10_edition_4 (by decide) ?_ ?_
  · refine Sm.aload_n hC d_m10_edition_14 rfl 0 rfl ?_
    refine Sm.getR hC fl_m10_23 rfl d_m10_edition_15 (fun v3 => ?_)
    refine Sm.iload_n hC d_m10_edition_18 rfl 1 rfl ?_
    refine Sm.aald (Cn := n_c2) hC ⟨by decide, by decide⟩ rfl d_m10_edition_19 (fun v4 => ?_)
    refine Sm.astore_n (lv' := [(2, rv V.1 v4), (0, rv V.1 r0), (1, .int a1)]) hC d_m10_edition_20 rfl (by decide) rfl ?_
    refine Sm.iconst (v := 0) hC d_m10_edition_21 (by decide) ?_
    refine Sm.istore_n (i := 3) (lv' := [(3, .int (0 : Int32)), (2, rv V.1 v4), (0, rv V.1 r0), (1, .int a1)]) hC d_m10_edition_22 rfl (by decide) (by simp [cat_rv, cat_i, cat_l, cat_f]) ?_
    refine Sm.lconst (v := 0) hC d_m10_edition_23 (by decide) ?_
    refine Sm.lstore (lv' := [(4, .long (0 : Int64)), (3, .int (0 : Int32)), (2, rv V.1 v4), (0, rv V.1 r0), (1, .int a1)]) hC d_m10_edition_24 (by decide) rfl ?_
    refine Sm.iconst (v := 0) hC d_m10_edition_26 (by decide) ?_
    refine Sm.istore (lv' := [(6, .int (0 : Int32)), (4, .long (0 : Int64)), (3, .int (0 : Int32)), (2, rv V.1 v4), (0, rv V.1 r0), (1, .int a1)]) hC d_m10_edition_27 (by decide) rfl ?_
    refine Sm.sub [4, 3, 2, 1, 0] rfl ?_
    exact w_m10_edition_29 hC hR FU r0 v4 (0 : Int32) (0 : Int64) (0 : Int32) M2
  · refine Sm.aload_n hC d_m10_edition_7 rfl 0 rfl ?_
    refine Sm.bipush (v := -3) hC d_m10_edition_8 (by decide) ?_
    refine Sm.callVi 10 (As := [.int (-3 : Int32)]) (st := []) hC hR cw_m10_refuse (tw_i 410 (by decide +kernel)) (tw_i 412 (by decide +kernel)) (tw_i 0 (by decide +kernel)) ⟨_, rfl, rfl⟩ (fun r9 M9 h9 => ok_m10_refuse h9) rfl rfl (RW.of ⟨rfl, rfl, by decide, by decide⟩) (by simp) d_m10_edition_10 (fun v5 M6 => ?_)
    exact Sm.iret hC d_m10_edition_13 rfl (Nat.sub_self _)
/-! NewsWire.setBehind(LNewsWire$Paper;)J -/
abbrev b_m10_setBehind : ByteArray := prog_1_method_44_code
def y_m10_setBehind : MethodName := ⟨"NewsWire", "setBehind", "(LNewsWire$Paper;)J"⟩
def rm_m10_setBehind : Room := { frames := 1, cells := 0, slots := 0, locals := 60 }
theorem cw_m10_setBehind : CW y_m10_setBehind b_m10_setBehind 7 (some .long) 1 := ⟨tw_i 55 (by decide +kernel), tw_i 798 (by decide +kernel), by decide, by decide, by decide +kernel⟩
theorem d_m10_setBehind_0 : decode b_m10_setBehind 0 = .ok (.lconst 0, 1) := by decide +kernel
theorem d_m10_setBehind_1 : decode b_m10_setBehind 1 = .ok (.lstore_n 2, 1) := by decide +kernel
theorem d_m10_setBehind_2 : decode b_m10_setBehind 2 = .ok (.iconst 0, 1) := by decide +kernel
theorem d_m10_setBehind_3 : decode b_m10_setBehind 3 = .ok (.istore 4, 2) := by decide +kernel
theorem d_m10_setBehind_5 : decode b_m10_setBehind 5 = .ok (.iload 4, 2) := by decide +kernel
theorem d_m10_setBehind_7 : decode b_m10_setBehind 7 = .ok (.aload_n 0, 1) := by decide +kernel
theorem d_m10_setBehind_8 : decode b_m10_setBehind 8 = .ok (.getfield 92, 3) := by decide +kernel
theorem d_m10_setBehind_11 : decode b_m10_setBehind 11 = .ok (.if_icmp .ge 88, 3) := by decide +kernel
theorem d_m10_setBehind_14 : decode b_m10_setBehind 14 = .ok (.aload_n 0, 1) := by decide +kernel
theorem d_m10_setBehind_15 : decode b_m10_setBehind 15 = .ok (.getfield 17, 3) := by decide +kernel
theorem d_m10_setBehind_18 : decode b_m10_setBehind 18 = .ok (.iload 4, 2) := by decide +kernel
theorem d_m10_setBehind_20 : decode b_m10_setBehind 20 = .ok (.aaload, 1) := by decide +kernel
theorem d_m10_setBehind_21 : decode b_m10_setBehind 21 = .ok (.getfield 95, 3) := by decide +kernel
theorem d_m10_setBehind_24 : decode b_m10_setBehind 24 = .ok (.istore 5, 2) := by decide +kernel
theorem d_m10_setBehind_26 : decode b_m10_setBehind 26 = .ok (.iload 5, 2) := by decide +kernel
theorem d_m10_setBehind_28 : decode b_m10_setBehind 28 = .ok (.iconst 4, 1) := by decide +kernel
theorem d_m10_setBehind_29 : decode b_m10_setBehind 29 = .ok (.if_icmp .eq 9, 3) := by decide +kernel
theorem d_m10_setBehind_32 : decode b_m10_setBehind 32 = .ok (.iload 5, 2) := by decide +kernel
theorem d_m10_setBehind_34 : decode b_m10_setBehind 34 = .ok (.iconst 3, 1) := by decide +kernel
theorem d_m10_setBehind_35 : decode b_m10_setBehind 35 = .ok (.if_icmp .ne 21, 3) := by decide +kernel
theorem d_m10_setBehind_38 : decode b_m10_setBehind 38 = .ok (.aload_n 1, 1) := by decide +kernel
theorem d_m10_setBehind_39 : decode b_m10_setBehind 39 = .ok (.getfield 252, 3) := by decide +kernel
theorem d_m10_setBehind_42 : decode b_m10_setBehind 42 = .ok (.iload 4, 2) := by decide +kernel
theorem d_m10_setBehind_44 : decode b_m10_setBehind 44 = .ok (.iaload, 1) := by decide +kernel
theorem d_m10_setBehind_45 : decode b_m10_setBehind 45 = .ok (.aload_n 1, 1) := by decide +kernel
theorem d_m10_setBehind_46 : decode b_m10_setBehind 46 = .ok (.getfield 320, 3) := by decide +kernel
theorem d_m10_setBehind_49 : decode b_m10_setBehind 49 = .ok (.if_icmp .lt 7, 3) := by decide +kernel
theorem d_m10_setBehind_52 : decode b_m10_setBehind 52 = .ok (.iconst 1, 1) := by decide +kernel
theorem d_m10_setBehind_53 : decode b_m10_setBehind 53 = .ok (.goto 4, 3) := by decide +kernel
theorem d_m10_setBehind_56 : decode b_m10_setBehind 56 = .ok (.iconst 0, 1) := by decide +kernel
theorem d_m10_setBehind_57 : decode b_m10_setBehind 57 = .ok (.istore 6, 2) := by decide +kernel
theorem d_m10_setBehind_59 : decode b_m10_setBehind 59 = .ok (.iload 6, 2) := by decide +kernel
theorem d_m10_setBehind_61 : decode b_m10_setBehind 61 = .ok (.ifCond .eq 32, 3) := by decide +kernel
theorem d_m10_setBehind_64 : decode b_m10_setBehind 64 = .ok (.aload_n 1, 1) := by decide +kernel
theorem d_m10_setBehind_65 : decode b_m10_setBehind 65 = .ok (.getfield 326, 3) := by decide +kernel
theorem d_m10_setBehind_68 : decode b_m10_setBehind 68 = .ok (.aload_n 0, 1) := by decide +kernel
theorem d_m10_setBehind_69 : decode b_m10_setBehind 69 = .ok (.getfield 17, 3) := by decide +kernel
theorem d_m10_setBehind_72 : decode b_m10_setBehind 72 = .ok (.iload 4, 2) := by decide +kernel
theorem d_m10_setBehind_74 : decode b_m10_setBehind 74 = .ok (.aaload, 1) := by decide +kernel
theorem d_m10_setBehind_75 : decode b_m10_setBehind 75 = .ok (.getfield 110, 3) := by decide +kernel
theorem d_m10_setBehind_78 : decode b_m10_setBehind 78 = .ok (.lushr, 1) := by decide +kernel
theorem d_m10_setBehind_79 : decode b_m10_setBehind 79 = .ok (.lconst 1, 1) := by decide +kernel
theorem d_m10_setBehind_80 : decode b_m10_setBehind 80 = .ok (.land, 1) := by decide +kernel
theorem d_m10_setBehind_81 : decode b_m10_setBehind 81 = .ok (.lconst 1, 1) := by decide +kernel
theorem d_m10_setBehind_82 : decode b_m10_setBehind 82 = .ok (.lcmp, 1) := by decide +kernel
theorem d_m10_setBehind_83 : decode b_m10_setBehind 83 = .ok (.ifCond .ne 10, 3) := by decide +kernel
theorem d_m10_setBehind_86 : decode b_m10_setBehind 86 = .ok (.lload_n 2, 1) := by decide +kernel
theorem d_m10_setBehind_87 : decode b_m10_setBehind 87 = .ok (.lconst 1, 1) := by decide +kernel
theorem d_m10_setBehind_88 : decode b_m10_setBehind 88 = .ok (.iload 4, 2) := by decide +kernel
theorem d_m10_setBehind_90 : decode b_m10_setBehind 90 = .ok (.lshl, 1) := by decide +kernel
theorem d_m10_setBehind_91 : decode b_m10_setBehind 91 = .ok (.lor, 1) := by decide +kernel
theorem d_m10_setBehind_92 : decode b_m10_setBehind 92 = .ok (.lstore_n 2, 1) := by decide +kernel
theorem d_m10_setBehind_93 : decode b_m10_setBehind 93 = .ok (.iinc 4 1, 3) := by decide +kernel
theorem d_m10_setBehind_96 : decode b_m10_setBehind 96 = .ok (.goto (-91), 3) := by decide +kernel
theorem d_m10_setBehind_99 : decode b_m10_setBehind 99 = .ok (.lload_n 2, 1) := by decide +kernel
theorem d_m10_setBehind_100 : decode b_m10_setBehind 100 = .ok (.lreturn, 1) := by decide +kernel
def s_m10_setBehind_93 (k5 : Nat → Nat → Int64 → Int32 → Mm → Option (Int64 × Mm)) (r0 : Nat) (r1 : Nat) (l2 : Int64) (x4 : Int32) (M : Mm) : Option (Int64 × Mm) := k5 r0 r1 l2 (x4 + 1) M
def s_m10_setBehind_57 (k5 : Nat → Nat → Int64 → Int32 → Mm → Option (Int64 × Mm)) (r0 : Nat) (r1 : Nat) (l2 : Int64) (x4 : Int32) (t0 : Int32) (M : Mm) : Option (Int64 × Mm) := (if t0 = 0 then s_m10_setBehind_93 k5 r0 r1 l2 x4 M else gL M r1 12 4 (fun v1 => gR M r0 20 1 (fun v2 => aR M v2 3 x4 (fun v3 => gI M v3 13 6 (fun v4 => (if ¬ (lg_cmp (((v1.toUInt64 >>> (v4.toInt64.toUInt64 &&& Int64.toUInt64 63)).toInt64) &&& (1 : Int64)) (1 : Int64)) = 0 then s_m10_setBehind_93 k5 r0 r1 l2 x4 M else s_m10_setBehind_93 k5 r0 r1 (l2 ||| ((1 : Int64) <<< (x4.toInt64 &&& 63))) x4 M))))))
def s_m10_setBehind_56 (k5 : Nat → Nat → Int64 → Int32 → Mm → Option (Int64 × Mm)) (r0 : Nat) (r1 : Nat) (l2 : Int64) (x4 : Int32) (M : Mm) : Option (Int64 × Mm) := s_m10_setBehind_57 k5 r0 r1 l2 x4 (0 : Int32) M
def s_m10_setBehind_38 (k5 : Nat → Nat → Int64 → Int32 → Mm → Option (Int64 × Mm)) (r0 : Nat) (r1 : Nat) (l2 : Int64) (x4 : Int32) (M : Mm) : Option (Int64 × Mm) := gR M r1 12 0 (fun v1 => aI M v1 0 x4 (fun v2 => gI M r1 12 2 (fun v3 => (if v2 < v3 then s_m10_setBehind_56 k5 r0 r1 l2 x4 M else s_m10_setBehind_57 k5 r0 r1 l2 x4 (1 : Int32) M))))
def s_m10_setBehind_5  : Nat → Nat → Nat → Int64 → Int32 → Mm → Option (Int64 × Mm)
  | 0, _, _, _, _, _ => none
  | n + 1, r0, r1, l2, x4, M => gI M r0 20 11 (fun v1 => (if v1 ≤ x4 then some (l2, M) else gR M r0 20 1 (fun v2 => aR M v2 3 x4 (fun v3 => gI M v3 13 1 (fun v4 => (if v4 = (4 : Int32) then s_m10_setBehind_38 (s_m10_setBehind_5 n) r0 r1 l2 x4 M else (if ¬ v4 = (3 : Int32) then s_m10_setBehind_56 (s_m10_setBehind_5 n) r0 r1 l2 x4 M else s_m10_setBehind_38 (s_m10_setBehind_5 n) r0 r1 l2 x4 M)))))))
def s_m10_setBehind (r0 : Nat) (r1 : Nat) (M : Mm) : Option (Int64 × Mm) := s_m10_setBehind_5 FU r0 r1 (0 : Int64) (0 : Int32) M
set_option maxRecDepth 100000 in
set_option maxHeartbeats 4000000 in
theorem w_m10_setBehind_93 {V : Ev} {C : Cx} {n0 : Nat} (hC : Cok V C y_m10_setBehind.cls b_m10_setBehind 7 n0 (some .long) y_m10_setBehind.name) (hR : cR C = rm_m10_setBehind) (k5 : Nat → Nat → Int64 → Int32 → Mm → Option (Int64 × Mm)) (hk5 : ∀ (r0 : Nat) (r1 : Nat) (l2 : Int64) (x4 : Int32) (M : Mm), Sm V C 7 n0 n0 (qL V C) 5 [(0, rv V.1 r0), (1, rv V.1 r1), (2, .long l2), (4, .int x4)] [] M (k5 r0 r1 l2 x4 M)) : ∀ (r0 : Nat) (r1 : Nat) (l2 : Int64) (x4 : Int32) (M : Mm), Sm V C 7 n0 n0 (qL V C) 93 [(0, rv V.1 r0), (1, rv V.1 r1), (2, .long l2), (4, .int x4)] [] M (s_m10_setBehind_93 k5 r0 r1 l2 x4 M) := by
  intro r0 r1 l2 x4 M
  unfold s_m10_setBehind_93
  refine Sm.iinc (v := x4 + 1) (lv' := [(4, .int (x4 + 1)), (0, rv V.1 r0), (1, rv V.1 r1), (2, .long l2)]) hC d_m10_setBehind_93 3 rfl rfl (by decide) rfl ?_
  refine Sm.goto (tgt := 5) hC d_m10_setBehind_96 (by decide) ?_
  refine Sm.sub [1, 2, 3, 0] rfl ?_
  exact hk5 r0 r1 l2 (x4 + 1) M
set_option maxRecDepth 100000 in
set_option maxHeartbeats 4000000 in
theorem w_m10_setBehind_57 {V : Ev} {C : Cx} {n0 : Nat} (hC : Cok V C y_m10_setBehind.cls b_m10_setBehind 7 n0 (some .long) y_m10_setBehind.name) (hR : cR C = rm_m10_setBehind) (k5 : Nat → Nat → Int64 → Int32 → Mm → Option (Int64 × Mm)) (hk5 : ∀ (r0 : Nat) (r1 : Nat) (l2 : Int64) (x4 : Int32) (M : Mm), Sm V C 7 n0 n0 (qL V C) 5 [(0, rv V.1 r0), (1, rv V.1 r1), (2, .long l2), (4, .int x4)] [] M (k5 r0 r1 l2 x4 M)) : ∀ (r0 : Nat) (r1 : Nat) (l2 : Int64) (x4 : Int32) (t0 : Int32) (M : Mm), Sm V C 7 n0 n0 (qL V C) 57 [(0, rv V.1 r0), (1, rv V.1 r1), (2, .long l2), (4, .int x4)] [.int t0] M (s_m10_setBehind_57 k5 r0 r1 l2 x4 t0 M) := by
  intro r0 r1 l2 x4 t0 M
  unfold s_m10_setBehind_57
  refine Sm.istore (lv' := [(6, .int t0), (0, rv V.1 r0), (1, rv V.1 r1), (2, .long l2), (4, .int x4)]) hC d_m10_setBehind_57 (by decide) rfl ?_
  refine Sm.iload hC d_m10_setBehind_59 0 rfl ?_
  refine Sm.if_eq (tgt := 93) hC d_m10_setBehind_61 (by decide) ?_ ?_
  · refine Sm.sub [1, 2, 3, 4] rfl ?_
    exact w_m10_setBehind_93 hC hR k5 hk5 r0 r1 l2 x4 M
  · refine Sm.aload_n hC d_m10_setBehind_64 rfl 2 rfl ?_
    refine Sm.getL hC fl_m10_326 rfl d_m10_setBehind_65 (fun v1 => ?_)
    refine Sm.aload_n hC d_m10_setBehind_68 rfl 1 rfl ?_
    refine Sm.getR hC fl_m10_17 rfl d_m10_setBehind_69 (fun v2 => ?_)
    refine Sm.iload hC d_m10_setBehind_72 4 rfl ?_
    refine Sm.aald (Cn := n_c3) hC ⟨by decide, by decide⟩ rfl d_m10_setBehind_74 (fun v3 => ?_)
    refine Sm.getI hC fl_m10_110 rfl d_m10_setBehind_75 (fun v4 => ?_)
    refine Sm.lushr hC d_m10_setBehind_78 ?_
    refine Sm.lconst (v := 1) hC d_m10_setBehind_79 (by decide) ?_
    refine Sm.land hC d_m10_setBehind_80 ?_
    refine Sm.lconst (v := 1) hC d_m10_setBehind_81 (by decide) ?_
    refine Sm.lcmp hC d_m10_setBehind_82 ?_
    refine Sm.if_ne (tgt := 93) hC d_m10_setBehind_83 (by decide) ?_ ?_
    · refine Sm.sub [1, 2, 3, 4] rfl ?_
      exact w_m10_setBehind_93 hC hR k5 hk5 r0 r1 l2 x4 M
    · refine Sm.lload_n hC d_m10_setBehind_86 rfl 3 rfl ?_
      refine Sm.lconst (v := 1) hC d_m10_setBehind_87 (by decide) ?_
      refine Sm.iload hC d_m10_setBehind_88 4 rfl ?_
      refine Sm.lshl hC d_m10_setBehind_90 ?_
      refine Sm.lor hC d_m10_setBehind_91 ?_
      refine Sm.lstore_n (i := 2) (lv' := [(2, .long (l2 ||| ((1 : Int64) <<< (x4.toInt64 &&& 63)))), (6, .int t0), (0, rv V.1 r0), (1, rv V.1 r1), (4, .int x4)]) hC d_m10_setBehind_92 rfl (by decide) (by simp [cat_rv, cat_i, cat_l, cat_f]) ?_
      refine Sm.sub [2, 3, 0, 4] rfl ?_
      exact w_m10_setBehind_93 hC hR k5 hk5 r0 r1 (l2 ||| ((1 : Int64) <<< (x4.toInt64 &&& 63))) x4 M
set_option maxRecDepth 100000 in
set_option maxHeartbeats 4000000 in
theorem w_m10_setBehind_56 {V : Ev} {C : Cx} {n0 : Nat} (hC : Cok V C y_m10_setBehind.cls b_m10_setBehind 7 n0 (some .long) y_m10_setBehind.name) (hR : cR C = rm_m10_setBehind) (k5 : Nat → Nat → Int64 → Int32 → Mm → Option (Int64 × Mm)) (hk5 : ∀ (r0 : Nat) (r1 : Nat) (l2 : Int64) (x4 : Int32) (M : Mm), Sm V C 7 n0 n0 (qL V C) 5 [(0, rv V.1 r0), (1, rv V.1 r1), (2, .long l2), (4, .int x4)] [] M (k5 r0 r1 l2 x4 M)) : ∀ (r0 : Nat) (r1 : Nat) (l2 : Int64) (x4 : Int32) (M : Mm), Sm V C 7 n0 n0 (qL V C) 56 [(0, rv V.1 r0), (1, rv V.1 r1), (2, .long l2), (4, .int x4)] [] M (s_m10_setBehind_56 k5 r0 r1 l2 x4 M) := by
  intro r0 r1 l2 x4 M
  unfold s_m10_setBehind_56
  refine Sm.iconst (v := 0) hC d_m10_setBehind_56 (by decide) ?_
  exact w_m10_setBehind_57 hC hR k5 hk5 r0 r1 l2 x4 (0 : Int32) M
set_option maxRecDepth 100000 in
set_option maxHeartbeats 4000000 in
theorem w_m10_setBehind_38 {V : Ev} {C : Cx} {n0 : Nat} (hC : Cok V C y_m10_setBehind.cls b_m10_setBehind 7 n0 (some .long) y_m10_setBehind.name) (hR : cR C = rm_m10_setBehind) (k5 : Nat → Nat → Int64 → Int32 → Mm → Option (Int64 × Mm)) (hk5 : ∀ (r0 : Nat) (r1 : Nat) (l2 : Int64) (x4 : Int32) (M : Mm), Sm V C 7 n0 n0 (qL V C) 5 [(0, rv V.1 r0), (1, rv V.1 r1), (2, .long l2), (4, .int x4)] [] M (k5 r0 r1 l2 x4 M)) : ∀ (r0 : Nat) (r1 : Nat) (l2 : Int64) (x4 : Int32) (M : Mm), Sm V C 7 n0 n0 (qL V C) 38 [(0, rv V.1 r0), (1, rv V.1 r1), (2, .long l2), (4, .int x4)] [] M (s_m10_setBehind_38 k5 r0 r1 l2 x4 M) := by
  intro r0 r1 l2 x4 M
  unfold s_m10_setBehind_38
  refine Sm.aload_n hC d_m10_setBehind_38 rfl 1 rfl ?_
  refine Sm.getR hC fl_m10_252 rfl d_m10_setBehind_39 (fun v1 => ?_)
  refine Sm.iload hC d_m10_setBehind_42 3 rfl ?_
  refine Sm.iald hC d_m10_setBehind_44 (fun v2 => ?_)
  refine Sm.aload_n hC d_m10_setBehind_45 rfl 1 rfl ?_
  refine Sm.getI hC fl_m10_320 rfl d_m10_setBehind_46 (fun v3 => ?_)
  refine Sm.icmp_lt (tgt := 56) hC d_m10_setBehind_49 (by decide) ?_ ?_
  · exact w_m10_setBehind_56 hC hR k5 hk5 r0 r1 l2 x4 M
  · refine Sm.iconst (v := 1) hC d_m10_setBehind_52 (by decide) ?_
    refine Sm.goto (tgt := 57) hC d_m10_setBehind_53 (by decide) ?_
    exact w_m10_setBehind_57 hC hR k5 hk5 r0 r1 l2 x4 (1 : Int32) M
set_option maxRecDepth 100000 in
set_option maxHeartbeats 4000000 in
theorem w_m10_setBehind_5 {V : Ev} {C : Cx} {n0 : Nat} (hC : Cok V C y_m10_setBehind.cls b_m10_setBehind 7 n0 (some .long) y_m10_setBehind.name) (hR : cR C = rm_m10_setBehind)  : ∀ (n : Nat) (r0 : Nat) (r1 : Nat) (l2 : Int64) (x4 : Int32) (M : Mm), Sm V C 7 n0 n0 (qL V C) 5 [(0, rv V.1 r0), (1, rv V.1 r1), (2, .long l2), (4, .int x4)] [] M (s_m10_setBehind_5 n r0 r1 l2 x4 M) := by
  intro n
  induction n with
  | zero => exact fun r0 r1 l2 x4 M => Sm.none_
  | succ n ih =>
    intro r0 r1 l2 x4 M
    unfold s_m10_setBehind_5
    refine Sm.iload hC d_m10_setBehind_5 3 rfl ?_
    refine Sm.aload_n hC d_m10_setBehind_7 rfl 0 rfl ?_
    refine Sm.getI hC fl_m10_92 rfl d_m10_setBehind_8 (fun v1 => ?_)
    refine Sm.icmp_ge (tgt := 99) hC d_m10_setBehind_11 (by decide) ?_ ?_
    · refine Sm.lload_n hC d_m10_setBehind_99 rfl 2 rfl ?_
      exact Sm.lret hC d_m10_setBehind_100 rfl (Nat.sub_self _)
    · refine Sm.aload_n hC d_m10_setBehind_14 rfl 0 rfl ?_
      refine Sm.getR hC fl_m10_17 rfl d_m10_setBehind_15 (fun v2 => ?_)
      refine Sm.iload hC d_m10_setBehind_18 3 rfl ?_
      refine Sm.aald (Cn := n_c3) hC ⟨by decide, by decide⟩ rfl d_m10_setBehind_20 (fun v3 => ?_)
      refine Sm.getI hC fl_m10_95 rfl d_m10_setBehind_21 (fun v4 => ?_)
      refine Sm.istore (lv' := [(5, .int v4), (0, rv V.1 r0), (1, rv V.1 r1), (2, .long l2), (4, .int x4)]) hC d_m10_setBehind_24 (by decide) rfl ?_
      refine Sm.iload hC d_m10_setBehind_26 0 rfl ?_
      refine Sm.iconst (v := 4) hC d_m10_setBehind_28 (by decide) ?_
      refine Sm.icmp_eq (tgt := 38) hC d_m10_setBehind_29 (by decide) ?_ ?_
      · refine Sm.sub [1, 2, 3, 4] rfl ?_
        exact w_m10_setBehind_38 hC hR (s_m10_setBehind_5 n) ih r0 r1 l2 x4 M
      · refine Sm.iload hC d_m10_setBehind_32 0 rfl ?_
        refine Sm.iconst (v := 3) hC d_m10_setBehind_34 (by decide) ?_
        refine Sm.icmp_ne (tgt := 56) hC d_m10_setBehind_35 (by decide) ?_ ?_
        · refine Sm.sub [1, 2, 3, 4] rfl ?_
          exact w_m10_setBehind_56 hC hR (s_m10_setBehind_5 n) ih r0 r1 l2 x4 M
        · refine Sm.sub [1, 2, 3, 4] rfl ?_
          exact w_m10_setBehind_38 hC hR (s_m10_setBehind_5 n) ih r0 r1 l2 x4 M
set_option maxRecDepth 100000 in
set_option maxHeartbeats 4000000 in
theorem ok_m10_setBehind {l : Launch} {V : Ev} {M M' : Mm} {r : Int64} {r0 : Nat} {r1 : Nat} (h : s_m10_setBehind r0 r1 M = some (r, M')) : Met l y_m10_setBehind (Cond.code y_m10_setBehind b_m10_setBehind 7 (some .long) :: TW) rm_m10_setBehind (va_Pc [rv V.1 r0, rv V.1 r1] (Wd V M)) (QC V (some (.long r)) M' 0) 0 0 (Af V) := by
  refine met_of (fun x : Int64 => some (.long x)) (lv0 := [(0, rv V.1 r0), (1, rv V.1 r1)]) (by decide) (by simp [lg_sl, cat_rv, cat_i, cat_l, cat_f]) (by simp [lv_args, cat_rv, cat_i, cat_l, cat_f]) (fun C hl hR hC => ?_) h
  subst hl
  generalize mN M = n0 at hC ⊢
  unfold s_m10_setBehind
  refine Sm.lconst (v := 0) hC d_m10_setBehind_0 (by decide) ?_
  refine Sm.lstore_n (i := 2) (lv' := [(2, .long (0 : Int64)), (0, rv V.1 r0), (1, rv V.1 r1)]) hC d_m10_setBehind_1 rfl (by decide) (by simp [cat_rv, cat_i, cat_l, cat_f]) ?_
  refine Sm.iconst (v := 0) hC d_m10_setBehind_2 (by decide) ?_
  refine Sm.istore (lv' := [(4, .int (0 : Int32)), (2, .long (0 : Int64)), (0, rv V.1 r0), (1, rv V.1 r1)]) hC d_m10_setBehind_3 (by decide) rfl ?_
  refine Sm.sub [2, 3, 1, 0] rfl ?_
  exact w_m10_setBehind_5 hC hR FU r0 r1 (0 : Int64) (0 : Int32) M
/-! java/lang/Long.bitCount(J)I -/
abbrev b_J_bitCount : ByteArray := prog_14_method_50_code
def y_J_bitCount : MethodName := ⟨"java/lang/Long", "bitCount", "(J)I"⟩
def rm_J_bitCount : Room := { frames := 1, cells := 0, slots := 0, locals := 60 }
theorem cw_J_bitCount : CW y_J_bitCount b_J_bitCount 2 (some .int) 1 := ⟨tw_i 72 (by decide +kernel), tw_i 801 (by decide +kernel), by decide, by decide, by decide +kernel⟩
theorem d_J_bitCount_0 : decode b_J_bitCount 0 = .ok (.lload_n 0, 1) := by decide +kernel
theorem d_J_bitCount_1 : decode b_J_bitCount 1 = .ok (.lload_n 0, 1) := by decide +kernel
theorem d_J_bitCount_2 : decode b_J_bitCount 2 = .ok (.iconst 1, 1) := by decide +kernel
theorem d_J_bitCount_3 : decode b_J_bitCount 3 = .ok (.lushr, 1) := by decide +kernel
theorem d_J_bitCount_4 : decode b_J_bitCount 4 = .ok (.ldc2_w 314, 3) := by decide +kernel
theorem d_J_bitCount_7 : decode b_J_bitCount 7 = .ok (.land, 1) := by decide +kernel
theorem d_J_bitCount_8 : decode b_J_bitCount 8 = .ok (.lsub, 1) := by decide +kernel
theorem d_J_bitCount_9 : decode b_J_bitCount 9 = .ok (.lstore_n 0, 1) := by decide +kernel
theorem d_J_bitCount_10 : decode b_J_bitCount 10 = .ok (.lload_n 0, 1) := by decide +kernel
theorem d_J_bitCount_11 : decode b_J_bitCount 11 = .ok (.ldc2_w 316, 3) := by decide +kernel
theorem d_J_bitCount_14 : decode b_J_bitCount 14 = .ok (.land, 1) := by decide +kernel
theorem d_J_bitCount_15 : decode b_J_bitCount 15 = .ok (.lload_n 0, 1) := by decide +kernel
theorem d_J_bitCount_16 : decode b_J_bitCount 16 = .ok (.iconst 2, 1) := by decide +kernel
theorem d_J_bitCount_17 : decode b_J_bitCount 17 = .ok (.lushr, 1) := by decide +kernel
theorem d_J_bitCount_18 : decode b_J_bitCount 18 = .ok (.ldc2_w 316, 3) := by decide +kernel
theorem d_J_bitCount_21 : decode b_J_bitCount 21 = .ok (.land, 1) := by decide +kernel
theorem d_J_bitCount_22 : decode b_J_bitCount 22 = .ok (.ladd, 1) := by decide +kernel
theorem d_J_bitCount_23 : decode b_J_bitCount 23 = .ok (.lstore_n 0, 1) := by decide +kernel
theorem d_J_bitCount_24 : decode b_J_bitCount 24 = .ok (.lload_n 0, 1) := by decide +kernel
theorem d_J_bitCount_25 : decode b_J_bitCount 25 = .ok (.lload_n 0, 1) := by decide +kernel
theorem d_J_bitCount_26 : decode b_J_bitCount 26 = .ok (.iconst 4, 1) := by decide +kernel
theorem d_J_bitCount_27 : decode b_J_bitCount 27 = .ok (.lushr, 1) := by decide +kernel
theorem d_J_bitCount_28 : decode b_J_bitCount 28 = .ok (.ladd, 1) := by decide +kernel
theorem d_J_bitCount_29 : decode b_J_bitCount 29 = .ok (.ldc2_w 318, 3) := by decide +kernel
theorem d_J_bitCount_32 : decode b_J_bitCount 32 = .ok (.land, 1) := by decide +kernel
theorem d_J_bitCount_33 : decode b_J_bitCount 33 = .ok (.lstore_n 0, 1) := by decide +kernel
theorem d_J_bitCount_34 : decode b_J_bitCount 34 = .ok (.lload_n 0, 1) := by decide +kernel
theorem d_J_bitCount_35 : decode b_J_bitCount 35 = .ok (.lload_n 0, 1) := by decide +kernel
theorem d_J_bitCount_36 : decode b_J_bitCount 36 = .ok (.bipush 8, 2) := by decide +kernel
theorem d_J_bitCount_38 : decode b_J_bitCount 38 = .ok (.lushr, 1) := by decide +kernel
theorem d_J_bitCount_39 : decode b_J_bitCount 39 = .ok (.ladd, 1) := by decide +kernel
theorem d_J_bitCount_40 : decode b_J_bitCount 40 = .ok (.lstore_n 0, 1) := by decide +kernel
theorem d_J_bitCount_41 : decode b_J_bitCount 41 = .ok (.lload_n 0, 1) := by decide +kernel
theorem d_J_bitCount_42 : decode b_J_bitCount 42 = .ok (.lload_n 0, 1) := by decide +kernel
theorem d_J_bitCount_43 : decode b_J_bitCount 43 = .ok (.bipush 16, 2) := by decide +kernel
theorem d_J_bitCount_45 : decode b_J_bitCount 45 = .ok (.lushr, 1) := by decide +kernel
theorem d_J_bitCount_46 : decode b_J_bitCount 46 = .ok (.ladd, 1) := by decide +kernel
theorem d_J_bitCount_47 : decode b_J_bitCount 47 = .ok (.lstore_n 0, 1) := by decide +kernel
theorem d_J_bitCount_48 : decode b_J_bitCount 48 = .ok (.lload_n 0, 1) := by decide +kernel
theorem d_J_bitCount_49 : decode b_J_bitCount 49 = .ok (.lload_n 0, 1) := by decide +kernel
theorem d_J_bitCount_50 : decode b_J_bitCount 50 = .ok (.bipush 32, 2) := by decide +kernel
theorem d_J_bitCount_52 : decode b_J_bitCount 52 = .ok (.lushr, 1) := by decide +kernel
theorem d_J_bitCount_53 : decode b_J_bitCount 53 = .ok (.ladd, 1) := by decide +kernel
theorem d_J_bitCount_54 : decode b_J_bitCount 54 = .ok (.lstore_n 0, 1) := by decide +kernel
theorem d_J_bitCount_55 : decode b_J_bitCount 55 = .ok (.lload_n 0, 1) := by decide +kernel
theorem d_J_bitCount_56 : decode b_J_bitCount 56 = .ok (.l2i, 1) := by decide +kernel
theorem d_J_bitCount_57 : decode b_J_bitCount 57 = .ok (.bipush 127, 2) := by decide +kernel
theorem d_J_bitCount_59 : decode b_J_bitCount 59 = .ok (.iand, 1) := by decide +kernel
theorem d_J_bitCount_60 : decode b_J_bitCount 60 = .ok (.ireturn, 1) := by decide +kernel
def s_J_bitCount (b0 : Int64) (M : Mm) : Option (Int32 × Mm) := some ((((((((((b0 - (((b0.toUInt64 >>> ((1 : Int32).toInt64.toUInt64 &&& Int64.toUInt64 63)).toInt64) &&& (6148914691236517205 : Int64))) &&& (3689348814741910323 : Int64)) + ((((b0 - (((b0.toUInt64 >>> ((1 : Int32).toInt64.toUInt64 &&& Int64.toUInt64 63)).toInt64) &&& (6148914691236517205 : Int64))).toUInt64 >>> ((2 : Int32).toInt64.toUInt64 &&& Int64.toUInt64 63)).toInt64) &&& (3689348814741910323 : Int64))) + (((((b0 - (((b0.toUInt64 >>> ((1 : Int32).toInt64.toUInt64 &&& Int64.toUInt64 63)).toInt64) &&& (6148914691236517205 : Int64))) &&& (3689348814741910323 : Int64)) + ((((b0 - (((b0.toUInt64 >>> ((1 : Int32).toInt64.toUInt64 &&& Int64.toUInt64 63)).toInt64) &&& (6148914691236517205 : Int64))).toUInt64 >>> ((2 : Int32).toInt64.toUInt64 &&& Int64.toUInt64 63)).toInt64) &&& (3689348814741910323 : Int64))).toUInt64 >>> ((4 : Int32).toInt64.toUInt64 &&& Int64.toUInt64 63)).toInt64)) &&& (1085102592571150095 : Int64)) + (((((((b0 - (((b0.toUInt64 >>> ((1 : Int32).toInt64.toUInt64 &&& Int64.toUInt64 63)).toInt64) &&& (6148914691236517205 : Int64))) &&& (3689348814741910323 : Int64)) + ((((b0 - (((b0.toUInt64 >>> ((1 : Int32).toInt64.toUInt64 &&& Int64.toUInt64 63)).toInt64) &&& (6148914691236517205 : Int64))).toUInt64 >>> ((2 : Int32).toInt64.toUInt64 &&& Int64.toUInt64 63)).toInt64) &&& (3689348814741910323 : Int64))) + (((((b0 - (((b0.toUInt64 >>> ((1 : Int32).toInt64.toUInt64 &&& Int64.toUInt64 63)).toInt64) &&& (6148914691236517205 : Int64))) &&& (3689348814741910323 : Int64)) + ((((b0 - (((b0.toUInt64 >>> ((1 : Int32).toInt64.toUInt64 &&& Int64.toUInt64 63)).toInt64) &&& (6148914691236517205 : Int64))).toUInt64 >>> ((2 : Int32).toInt64.toUInt64 &&& Int64.toUInt64 63)).toInt64) &&& (3689348814741910323 : Int64))).toUInt64 >>> ((4 : Int32).toInt64.toUInt64 &&& Int64.toUInt64 63)).toInt64)) &&& (1085102592571150095 : Int64)).toUInt64 >>> ((8 : Int32).toInt64.toUInt64 &&& Int64.toUInt64 63)).toInt64)) + ((((((((b0 - (((b0.toUInt64 >>> ((1 : Int32).toInt64.toUInt64 &&& Int64.toUInt64 63)).toInt64) &&& (6148914691236517205 : Int64))) &&& (3689348814741910323 : Int64)) + ((((b0 - (((b0.toUInt64 >>> ((1 : Int32).toInt64.toUInt64 &&& Int64.toUInt64 63)).toInt64) &&& (6148914691236517205 : Int64))).toUInt64 >>> ((2 : Int32).toInt64.toUInt64 &&& Int64.toUInt64 63)).toInt64) &&& (3689348814741910323 : Int64))) + (((((b0 - (((b0.toUInt64 >>> ((1 : Int32).toInt64.toUInt64 &&& Int64.toUInt64 63)).toInt64) &&& (6148914691236517205 : Int64))) &&& (3689348814741910323 : Int64)) + ((((b0 - (((b0.toUInt64 >>> ((1 : Int32).toInt64.toUInt64 &&& Int64.toUInt64 63)).toInt64) &&& (6148914691236517205 : Int64))).toUInt64 >>> ((2 : Int32).toInt64.toUInt64 &&& Int64.toUInt64 63)).toInt64) &&& (3689348814741910323 : Int64))).toUInt64 >>> ((4 : Int32).toInt64.toUInt64 &&& Int64.toUInt64 63)).toInt64)) &&& (1085102592571150095 : Int64)) + (((((((b0 - (((b0.toUInt64 >>> ((1 : Int32).toInt64.toUInt64 &&& Int64.toUInt64 63)).toInt64) &&& (6148914691236517205 : Int64))) &&& (3689348814741910323 : Int64)) + ((((b0 - (((b0.toUInt64 >>> ((1 : Int32).toInt64.toUInt64 &&& Int64.toUInt64 63)).toInt64) &&& (6148914691236517205 : Int64))).toUInt64 >>> ((2 : Int32).toInt64.toUInt64 &&& Int64.toUInt64 63)).toInt64) &&& (3689348814741910323 : Int64))) + (((((b0 - (((b0.toUInt64 >>> ((1 : Int32).toInt64.toUInt64 &&& Int64.toUInt64 63)).toInt64) &&& (6148914691236517205 : Int64))) &&& (3689348814741910323 : Int64)) + ((((b0 - (((b0.toUInt64 >>> ((1 : Int32).toInt64.toUInt64 &&& Int64.toUInt64 63)).toInt64) &&& (6148914691236517205 : Int64))).toUInt64 >>> ((2 : Int32).toInt64.toUInt64 &&& Int64.toUInt64 63)).toInt64) &&& (3689348814741910323 : Int64))).toUInt64 >>> ((4 : Int32).toInt64.toUInt64 &&& Int64.toUInt64 63)).toInt64)) &&& (1085102592571150095 : Int64)).toUInt64 >>> ((8 : Int32).toInt64.toUInt64 &&& Int64.toUInt64 63)).toInt64)).toUInt64 >>> ((16 : Int32).toInt64.toUInt64 &&& Int64.toUInt64 63)).toInt64)) + (((((((((b0 - (((b0.toUInt64 >>> ((1 : Int32).toInt64.toUInt64 &&& Int64.toUInt64 63)).toInt64) &&& (6148914691236517205 : Int64))) &&& (3689348814741910323 : Int64)) + ((((b0 - (((b0.toUInt64 >>> ((1 : Int32).toInt64.toUInt64 &&& Int64.toUInt64 63)).toInt64) &&& (6148914691236517205 : Int64))).toUInt64 >>> ((2 : Int32).toInt64.toUInt64 &&& Int64.toUInt64 63)).toInt64) &&& (3689348814741910323 : Int64))) + (((((b0 - (((b0.toUInt64 >>> ((1 : Int32).toInt64.toUInt64 &&& Int64.toUInt64 63)).toInt64) &&& (6148914691236517205 : Int64))) &&& (3689348814741910323 : Int64)) + ((((b0 - (((b0.toUInt64 >>> ((1 : Int32).toInt64.toUInt64 &&& Int64.toUInt64 63)).toInt64) &&& (6148914691236517205 : Int64))).toUInt64 >>> ((2 : Int32).toInt64.toUInt64 &&& Int64.toUInt64 63)).toInt64) &&& (3689348814741910323 : Int64))).toUInt64 >>> ((4 : Int32).toInt64.toUInt64 &&& Int64.toUInt64 63)).toInt64)) &&& (1085102592571150095 : Int64)) + (((((((b0 - (((b0.toUInt64 >>> ((1 : Int32).toInt64.toUInt64 &&& Int64.toUInt64 63)).toInt64) &&& (6148914691236517205 : Int64))) &&& (3689348814741910323 : Int64)) + ((((b0 - (((b0.toUInt64 >>> ((1 : Int32).toInt64.toUInt64 &&& Int64.toUInt64 63)).toInt64) &&& (6148914691236517205 : Int64))).toUInt64 >>> ((2 : Int32).toInt64.toUInt64 &&& Int64.toUInt64 63)).toInt64) &&& (3689348814741910323 : Int64))) + (((((b0 - (((b0.toUInt64 >>> ((1 : Int32).toInt64.toUInt64 &&& Int64.toUInt64 63)).toInt64) &&& (6148914691236517205 : Int64))) &&& (3689348814741910323 : Int64)) + ((((b0 - (((b0.toUInt64 >>> ((1 : Int32).toInt64.toUInt64 &&& Int64.toUInt64 63)).toInt64) &&& (6148914691236517205 : Int64))).toUInt64 >>> ((2 : Int32).toInt64.toUInt64 &&& Int64.toUInt64 63)).toInt64) &&& (3689348814741910323 : Int64))).toUInt64 >>> ((4 : Int32).toInt64.toUInt64 &&& Int64.toUInt64 63)).toInt64)) &&& (1085102592571150095 : Int64)).toUInt64 >>> ((8 : Int32).toInt64.toUInt64 &&& Int64.toUInt64 63)).toInt64)) + ((((((((b0 - (((b0.toUInt64 >>> ((1 : Int32).toInt64.toUInt64 &&& Int64.toUInt64 63)).toInt64) &&& (6148914691236517205 : Int64))) &&& (3689348814741910323 : Int64)) + ((((b0 - (((b0.toUInt64 >>> ((1 : Int32).toInt64.toUInt64 &&& Int64.toUInt64 63)).toInt64) &&& (6148914691236517205 : Int64))).toUInt64 >>> ((2 : Int32).toInt64.toUInt64 &&& Int64.toUInt64 63)).toInt64) &&& (3689348814741910323 : Int64))) + (((((b0 - (((b0.toUInt64 >>> ((1 : Int32).toInt64.toUInt64 &&& Int64.toUInt64 63)).toInt64) &&& (6148914691236517205 : Int64))) &&& (3689348814741910323 : Int64)) + ((((b0 - (((b0.toUInt64 >>> ((1 : Int32).toInt64.toUInt64 &&& Int64.toUInt64 63)).toInt64) &&& (6148914691236517205 : Int64))).toUInt64 >>> ((2 : Int32).toInt64.toUInt64 &&& Int64.toUInt64 63)).toInt64) &&& (3689348814741910323 : Int64))).toUInt64 >>> ((4 : Int32).toInt64.toUInt64 &&& Int64.toUInt64 63)).toInt64)) &&& (1085102592571150095 : Int64)) + (((((((b0 - (((b0.toUInt64 >>> ((1 : Int32).toInt64.toUInt64 &&& Int64.toUInt64 63)).toInt64) &&& (6148914691236517205 : Int64))) &&& (3689348814741910323 : Int64)) + ((((b0 - (((b0.toUInt64 >>> ((1 : Int32).toInt64.toUInt64 &&& Int64.toUInt64 63)).toInt64) &&& (6148914691236517205 : Int64))).toUInt64 >>> ((2 : Int32).toInt64.toUInt64 &&& Int64.toUInt64 63)).toInt64) &&& (3689348814741910323 : Int64))) + (((((b0 - (((b0.toUInt64 >>> ((1 : Int32).toInt64.toUInt64 &&& Int64.toUInt64 63)).toInt64) &&& (6148914691236517205 : Int64))) &&& (3689348814741910323 : Int64)) + ((((b0 - (((b0.toUInt64 >>> ((1 : Int32).toInt64.toUInt64 &&& Int64.toUInt64 63)).toInt64) &&& (6148914691236517205 : Int64))).toUInt64 >>> ((2 : Int32).toInt64.toUInt64 &&& Int64.toUInt64 63)).toInt64) &&& (3689348814741910323 : Int64))).toUInt64 >>> ((4 : Int32).toInt64.toUInt64 &&& Int64.toUInt64 63)).toInt64)) &&& (1085102592571150095 : Int64)).toUInt64 >>> ((8 : Int32).toInt64.toUInt64 &&& Int64.toUInt64 63)).toInt64)).toUInt64 >>> ((16 : Int32).toInt64.toUInt64 &&& Int64.toUInt64 63)).toInt64)).toUInt64 >>> ((32 : Int32).toInt64.toUInt64 &&& Int64.toUInt64 63)).toInt64)).toInt32) &&& (127 : Int32), M)
set_option maxRecDepth 100000 in
set_option maxHeartbeats 4000000 in
theorem ok_J_bitCount {l : Launch} {V : Ev} {M M' : Mm} {r : Int32} {b0 : Int64} (h : s_J_bitCount b0 M = some (r, M')) : Met l y_J_bitCount (Cond.code y_J_bitCount b_J_bitCount 2 (some .int) :: TW) rm_J_bitCount (va_Pc [.long b0] (Wd V M)) (QC V (some (.int r)) M' 0) 0 0 (Af V) := by
  refine met_of (fun x : Int32 => some (.int x)) (lv0 := [(0, .long b0)]) (by decide) (by simp [lg_sl, cat_rv, cat_i, cat_l, cat_f]) (by simp [lv_args, cat_rv, cat_i, cat_l, cat_f]) (fun C hl hR hC => ?_) h
  subst hl
  generalize mN M = n0 at hC ⊢
  unfold s_J_bitCount
  refine Sm.lload_n hC d_J_bitCount_0 rfl 0 rfl ?_
  refine Sm.lload_n hC d_J_bitCount_1 rfl 0 rfl ?_
  refine Sm.iconst (v := 1) hC d_J_bitCount_2 (by decide) ?_
  refine Sm.lushr hC d_J_bitCount_3 ?_
  refine Sm.ldc2 (v := 6148914691236517205) hC d_J_bitCount_4 (tw_i 802 (by decide +kernel)) ?_
  refine Sm.land hC d_J_bitCount_7 ?_
  refine Sm.lsub hC d_J_bitCount_8 ?_
  refine Sm.lstore_n (lv' := [(0, .long (b0 - (((b0.toUInt64 >>> ((1 : Int32).toInt64.toUInt64 &&& Int64.toUInt64 63)).toInt64) &&& (6148914691236517205 : Int64))))]) hC d_J_bitCount_9 rfl (by decide) rfl ?_
  refine Sm.lload_n hC d_J_bitCount_10 rfl 0 rfl ?_
  refine Sm.ldc2 (v := 3689348814741910323) hC d_J_bitCount_11 (tw_i 803 (by decide +kernel)) ?_
  refine Sm.land hC d_J_bitCount_14 ?_
  refine Sm.lload_n hC d_J_bitCount_15 rfl 0 rfl ?_
  refine Sm.iconst (v := 2) hC d_J_bitCount_16 (by decide) ?_
  refine Sm.lushr hC d_J_bitCount_17 ?_
  refine Sm.ldc2 (v := 3689348814741910323) hC d_J_bitCount_18 (tw_i 803 (by decide +kernel)) ?_
  refine Sm.land hC d_J_bitCount_21 ?_
  refine Sm.ladd hC d_J_bitCount_22 ?_
  refine Sm.lstore_n (lv' := [(0, .long (((b0 - (((b0.toUInt64 >>> ((1 : Int32).toInt64.toUInt64 &&& Int64.toUInt64 63)).toInt64) &&& (6148914691236517205 : Int64))) &&& (3689348814741910323 : Int64)) + ((((b0 - (((b0.toUInt64 >>> ((1 : Int32).toInt64.toUInt64 &&& Int64.toUInt64 63)).toInt64) &&& (6148914691236517205 : Int64))).toUInt64 >>> ((2 : Int32).toInt64.toUInt64 &&& Int64.toUInt64 63)).toInt64) &&& (3689348814741910323 : Int64))))]) hC d_J_bitCount_23 rfl (by decide) rfl ?_
  refine Sm.lload_n hC d_J_bitCount_24 rfl 0 rfl ?_
  refine Sm.lload_n hC d_J_bitCount_25 rfl 0 rfl ?_
  refine Sm.iconst (v := 4) hC d_J_bitCount_26 (by decide) ?_
  refine Sm.lushr hC d_J_bitCount_27 ?_
  refine Sm.ladd hC d_J_bitCount_28 ?_
  refine Sm.ldc2 (v := 1085102592571150095) hC d_J_bitCount_29 (tw_i 804 (by decide +kernel)) ?_
  refine Sm.land hC d_J_bitCount_32 ?_
  refine Sm.lstore_n (lv' := [(0, .long (((((b0 - (((b0.toUInt64 >>> ((1 : Int32).toInt64.toUInt64 &&& Int64.toUInt64 63)).toInt64) &&& (6148914691236517205 : Int64))) &&& (3689348814741910323 : Int64)) + ((((b0 - (((b0.toUInt64 >>> ((1 : Int32).toInt64.toUInt64 &&& Int64.toUInt64 63)).toInt64) &&& (6148914691236517205 : Int64))).toUInt64 >>> ((2 : Int32).toInt64.toUInt64 &&& Int64.toUInt64 63)).toInt64) &&& (3689348814741910323 : Int64))) + (((((b0 - (((b0.toUInt64 >>> ((1 : Int32).toInt64.toUInt64 &&& Int64.toUInt64 63)).toInt64) &&& (6148914691236517205 : Int64))) &&& (3689348814741910323 : Int64)) + ((((b0 - (((b0.toUInt64 >>> ((1 : Int32).toInt64.toUInt64 &&& Int64.toUInt64 63)).toInt64) &&& (6148914691236517205 : Int64))).toUInt64 >>> ((2 : Int32).toInt64.toUInt64 &&& Int64.toUInt64 63)).toInt64) &&& (3689348814741910323 : Int64))).toUInt64 >>> ((4 : Int32).toInt64.toUInt64 &&& Int64.toUInt64 63)).toInt64)) &&& (1085102592571150095 : Int64)))]) hC d_J_bitCount_33 rfl (by decide) rfl ?_
  refine Sm.lload_n hC d_J_bitCount_34 rfl 0 rfl ?_
  refine Sm.lload_n hC d_J_bitCount_35 rfl 0 rfl ?_
  refine Sm.bipush (v := 8) hC d_J_bitCount_36 (by decide) ?_
  refine Sm.lushr hC d_J_bitCount_38 ?_
  refine Sm.ladd hC d_J_bitCount_39 ?_
  refine Sm.lstore_n (lv' := [(0, .long ((((((b0 - (((b0.toUInt64 >>> ((1 : Int32).toInt64.toUInt64 &&& Int64.toUInt64 63)).toInt64) &&& (6148914691236517205 : Int64))) &&& (3689348814741910323 : Int64)) + ((((b0 - (((b0.toUInt64 >>> ((1 : Int32).toInt64.toUInt64 &&& Int64.toUInt64 63)).toInt64) &&& (6148914691236517205 : Int64))).toUInt64 >>> ((2 : Int32).toInt64.toUInt64 &&& Int64.toUInt64 63)).toInt64) &&& (3689348814741910323 : Int64))) + (((((b0 - (((b0.toUInt64 >>> ((1 : Int32).toInt64.toUInt64 &&& Int64.toUInt64 63)).toInt64) &&& (6148914691236517205 : Int64))) &&& (3689348814741910323 : Int64)) + ((((b0 - (((b0.toUInt64 >>> ((1 : Int32).toInt64.toUInt64 &&& Int64.toUInt64 63)).toInt64) &&& (6148914691236517205 : Int64))).toUInt64 >>> ((2 : Int32).toInt64.toUInt64 &&& Int64.toUInt64 63)).toInt64) &&& (3689348814741910323 : Int64))).toUInt64 >>> ((4 : Int32).toInt64.toUInt64 &&& Int64.toUInt64 63)).toInt64)) &&& (1085102592571150095 : Int64)) + (((((((b0 - (((b0.toUInt64 >>> ((1 : Int32).toInt64.toUInt64 &&& Int64.toUInt64 63)).toInt64) &&& (6148914691236517205 : Int64))) &&& (3689348814741910323 : Int64)) + ((((b0 - (((b0.toUInt64 >>> ((1 : Int32).toInt64.toUInt64 &&& Int64.toUInt64 63)).toInt64) &&& (6148914691236517205 : Int64))).toUInt64 >>> ((2 : Int32).toInt64.toUInt64 &&& Int64.toUInt64 63)).toInt64) &&& (3689348814741910323 : Int64))) + (((((b0 - (((b0.toUInt64 >>> ((1 : Int32).toInt64.toUInt64 &&& Int64.toUInt64 63)).toInt64) &&& (6148914691236517205 : Int64))) &&& (3689348814741910323 : Int64)) + ((((b0 - (((b0.toUInt64 >>> ((1 : Int32).toInt64.toUInt64 &&& Int64.toUInt64 63)).toInt64) &&& (6148914691236517205 : Int64))).toUInt64 >>> ((2 : Int32).toInt64.toUInt64 &&& Int64.toUInt64 63)).toInt64) &&& (3689348814741910323 : Int64))).toUInt64 >>> ((4 : Int32).toInt64.toUInt64 &&& Int64.toUInt64 63)).toInt64)) &&& (1085102592571150095 : Int64)).toUInt64 >>> ((8 : Int32).toInt64.toUInt64 &&& Int64.toUInt64 63)).toInt64)))]) hC d_J_bitCount_40 rfl (by decide) rfl ?_
  refine Sm.lload_n hC d_J_bitCount_41 rfl 0 rfl ?_
  refine Sm.lload_n hC d_J_bitCount_42 rfl 0 rfl ?_
  refine Sm.bipush (v := 16) hC d_J_bitCount_43 (by decide) ?_
  refine Sm.lushr hC d_J_bitCount_45 ?_
  refine Sm.ladd hC d_J_bitCount_46 ?_
  refine Sm.lstore_n (lv' := [(0, .long (((((((b0 - (((b0.toUInt64 >>> ((1 : Int32).toInt64.toUInt64 &&& Int64.toUInt64 63)).toInt64) &&& (6148914691236517205 : Int64))) &&& (3689348814741910323 : Int64)) + ((((b0 - (((b0.toUInt64 >>> ((1 : Int32).toInt64.toUInt64 &&& Int64.toUInt64 63)).toInt64) &&& (6148914691236517205 : Int64))).toUInt64 >>> ((2 : Int32).toInt64.toUInt64 &&& Int64.toUInt64 63)).toInt64) &&& (3689348814741910323 : Int64))) + (((((b0 - (((b0.toUInt64 >>> ((1 : Int32).toInt64.toUInt64 &&& Int64.toUInt64 63)).toInt64) &&& (6148914691236517205 : Int64))) &&& (3689348814741910323 : Int64)) + ((((b0 - (((b0.toUInt64 >>> ((1 : Int32).toInt64.toUInt64 &&& Int64.toUInt64 63)).toInt64) &&& (6148914691236517205 : Int64))).toUInt64 >>> ((2 : Int32).toInt64.toUInt64 &&& Int64.toUInt64 63)).toInt64) &&& (3689348814741910323 : Int64))).toUInt64 >>> ((4 : Int32).toInt64.toUInt64 &&& Int64.toUInt64 63)).toInt64)) &&& (1085102592571150095 : Int64)) + (((((((b0 - (((b0.toUInt64 >>> ((1 : Int32).toInt64.toUInt64 &&& Int64.toUInt64 63)).toInt64) &&& (6148914691236517205 : Int64))) &&& (3689348814741910323 : Int64)) + ((((b0 - (((b0.toUInt64 >>> ((1 : Int32).toInt64.toUInt64 &&& Int64.toUInt64 63)).toInt64) &&& (6148914691236517205 : Int64))).toUInt64 >>> ((2 : Int32).toInt64.toUInt64 &&& Int64.toUInt64 63)).toInt64) &&& (3689348814741910323 : Int64))) + (((((b0 - (((b0.toUInt64 >>> ((1 : Int32).toInt64.toUInt64 &&& Int64.toUInt64 63)).toInt64) &&& (6148914691236517205 : Int64))) &&& (3689348814741910323 : Int64)) + ((((b0 - (((b0.toUInt64 >>> ((1 : Int32).toInt64.toUInt64 &&& Int64.toUInt64 63)).toInt64) &&& (6148914691236517205 : Int64))).toUInt64 >>> ((2 : Int32).toInt64.toUInt64 &&& Int64.toUInt64 63)).toInt64) &&& (3689348814741910323 : Int64))).toUInt64 >>> ((4 : Int32).toInt64.toUInt64 &&& Int64.toUInt64 63)).toInt64)) &&& (1085102592571150095 : Int64)).toUInt64 >>> ((8 : Int32).toInt64.toUInt64 &&& Int64.toUInt64 63)).toInt64)) + ((((((((b0 - (((b0.toUInt64 >>> ((1 : Int32).toInt64.toUInt64 &&& Int64.toUInt64 63)).toInt64) &&& (6148914691236517205 : Int64))) &&& (3689348814741910323 : Int64)) + ((((b0 - (((b0.toUInt64 >>> ((1 : Int32).toInt64.toUInt64 &&& Int64.toUInt64 63)).toInt64) &&& (6148914691236517205 : Int64))).toUInt64 >>> ((2 : Int32).toInt64.toUInt64 &&& Int64.toUInt64 63)).toInt64) &&& (3689348814741910323 : Int64))) + (((((b0 - (((b0.toUInt64 >>> ((1 : Int32).toInt64.toUInt64 &&& Int64.toUInt64 63)).toInt64) &&& (6148914691236517205 : Int64))) &&& (3689348814741910323 : Int64)) + ((((b0 - (((b0.toUInt64 >>> ((1 : Int32).toInt64.toUInt64 &&& Int64.toUInt64 63)).toInt64) &&& (6148914691236517205 : Int64))).toUInt64 >>> ((2 : Int32).toInt64.toUInt64 &&& Int64.toUInt64 63)).toInt64) &&& (3689348814741910323 : Int64))).toUInt64 >>> ((4 : Int32).toInt64.toUInt64 &&& Int64.toUInt64 63)).toInt64)) &&& (1085102592571150095 : Int64)) + (((((((b0 - (((b0.toUInt64 >>> ((1 : Int32).toInt64.toUInt64 &&& Int64.toUInt64 63)).toInt64) &&& (6148914691236517205 : Int64))) &&& (3689348814741910323 : Int64)) + ((((b0 - (((b0.toUInt64 >>> ((1 : Int32).toInt64.toUInt64 &&& Int64.toUInt64 63)).toInt64) &&& (6148914691236517205 : Int64))).toUInt64 >>> ((2 : Int32).toInt64.toUInt64 &&& Int64.toUInt64 63)).toInt64) &&& (3689348814741910323 : Int64))) + (((((b0 - (((b0.toUInt64 >>> ((1 : Int32).toInt64.toUInt64 &&& Int64.toUInt64 63)).toInt64) &&& (6148914691236517205 : Int64))) &&& (3689348814741910323 : Int64)) + ((((b0 - (((b0.toUInt64 >>> ((1 : Int32).toInt64.toUInt64 &&& Int64.toUInt64 63)).toInt64) &&& (6148914691236517205 : Int64))).toUInt64 >>> ((2 : Int32).toInt64.toUInt64 &&& Int64.toUInt64 63)).toInt64) &&& (3689348814741910323 : Int64))).toUInt64 >>> ((4 : Int32).toInt64.toUInt64 &&& Int64.toUInt64 63)).toInt64)) &&& (1085102592571150095 : Int64)).toUInt64 >>> ((8 : Int32).toInt64.toUInt64 &&& Int64.toUInt64 63)).toInt64)).toUInt64 >>> ((16 : Int32).toInt64.toUInt64 &&& Int64.toUInt64 63)).toInt64)))]) hC d_J_bitCount_47 rfl (by decide) rfl ?_
  refine Sm.lload_n hC d_J_bitCount_48 rfl 0 rfl ?_
  refine Sm.lload_n hC d_J_bitCount_49 rfl 0 rfl ?_
  refine Sm.bipush (v := 32) hC d_J_bitCount_50 (by decide) ?_
  refine Sm.lushr hC d_J_bitCount_52 ?_
  refine Sm.ladd hC d_J_bitCount_53 ?_
  refine Sm.lstore_n (lv' := [(0, .long ((((((((b0 - (((b0.toUInt64 >>> ((1 : Int32).toInt64.toUInt64 &&& Int64.toUInt64 63)).toInt64) &&& (6148914691236517205 : Int64))) &&& (3689348814741910323 : Int64)) + ((((b0 - (((b0.toUInt64 >>> ((1 : Int32).toInt64.toUInt64 &&& Int64.toUInt64 63)).toInt64) &&& (6148914691236517205 : Int64))).toUInt64 >>> ((2 : Int32).toInt64.toUInt64 &&& Int64.toUInt64 63)).toInt64) &&& (3689348814741910323 : Int64))) + (((((b0 - (((b0.toUInt64 >>> ((1 : Int32).toInt64.toUInt64 &&& Int64.toUInt64 63)).toInt64) &&& (6148914691236517205 : Int64))) &&& (3689348814741910323 : Int64)) + ((((b0 - (((b0.toUInt64 >>> ((1 : Int32).toInt64.toUInt64 &&& Int64.toUInt64 63)).toInt64) &&& (6148914691236517205 : Int64))).toUInt64 >>> ((2 : Int32).toInt64.toUInt64 &&& Int64.toUInt64 63)).toInt64) &&& (3689348814741910323 : Int64))).toUInt64 >>> ((4 : Int32).toInt64.toUInt64 &&& Int64.toUInt64 63)).toInt64)) &&& (1085102592571150095 : Int64)) + (((((((b0 - (((b0.toUInt64 >>> ((1 : Int32).toInt64.toUInt64 &&& Int64.toUInt64 63)).toInt64) &&& (6148914691236517205 : Int64))) &&& (3689348814741910323 : Int64)) + ((((b0 - (((b0.toUInt64 >>> ((1 : Int32).toInt64.toUInt64 &&& Int64.toUInt64 63)).toInt64) &&& (6148914691236517205 : Int64))).toUInt64 >>> ((2 : Int32).toInt64.toUInt64 &&& Int64.toUInt64 63)).toInt64) &&& (3689348814741910323 : Int64))) + (((((b0 - (((b0.toUInt64 >>> ((1 : Int32).toInt64.toUInt64 &&& Int64.toUInt64 63)).toInt64) &&& (6148914691236517205 : Int64))) &&& (3689348814741910323 : Int64)) + ((((b0 - (((b0.toUInt64 >>> ((1 : Int32).toInt64.toUInt64 &&& Int64.toUInt64 63)).toInt64) &&& (6148914691236517205 : Int64))).toUInt64 >>> ((2 : Int32).toInt64.toUInt64 &&& Int64.toUInt64 63)).toInt64) &&& (3689348814741910323 : Int64))).toUInt64 >>> ((4 : Int32).toInt64.toUInt64 &&& Int64.toUInt64 63)).toInt64)) &&& (1085102592571150095 : Int64)).toUInt64 >>> ((8 : Int32).toInt64.toUInt64 &&& Int64.toUInt64 63)).toInt64)) + ((((((((b0 - (((b0.toUInt64 >>> ((1 : Int32).toInt64.toUInt64 &&& Int64.toUInt64 63)).toInt64) &&& (6148914691236517205 : Int64))) &&& (3689348814741910323 : Int64)) + ((((b0 - (((b0.toUInt64 >>> ((1 : Int32).toInt64.toUInt64 &&& Int64.toUInt64 63)).toInt64) &&& (6148914691236517205 : Int64))).toUInt64 >>> ((2 : Int32).toInt64.toUInt64 &&& Int64.toUInt64 63)).toInt64) &&& (3689348814741910323 : Int64))) + (((((b0 - (((b0.toUInt64 >>> ((1 : Int32).toInt64.toUInt64 &&& Int64.toUInt64 63)).toInt64) &&& (6148914691236517205 : Int64))) &&& (3689348814741910323 : Int64)) + ((((b0 - (((b0.toUInt64 >>> ((1 : Int32).toInt64.toUInt64 &&& Int64.toUInt64 63)).toInt64) &&& (6148914691236517205 : Int64))).toUInt64 >>> ((2 : Int32).toInt64.toUInt64 &&& Int64.toUInt64 63)).toInt64) &&& (3689348814741910323 : Int64))).toUInt64 >>> ((4 : Int32).toInt64.toUInt64 &&& Int64.toUInt64 63)).toInt64)) &&& (1085102592571150095 : Int64)) + (((((((b0 - (((b0.toUInt64 >>> ((1 : Int32).toInt64.toUInt64 &&& Int64.toUInt64 63)).toInt64) &&& (6148914691236517205 : Int64))) &&& (3689348814741910323 : Int64)) + ((((b0 - (((b0.toUInt64 >>> ((1 : Int32).toInt64.toUInt64 &&& Int64.toUInt64 63)).toInt64) &&& (6148914691236517205 : Int64))).toUInt64 >>> ((2 : Int32).toInt64.toUInt64 &&& Int64.toUInt64 63)).toInt64) &&& (3689348814741910323 : Int64))) + (((((b0 - (((b0.toUInt64 >>> ((1 : Int32).toInt64.toUInt64 &&& Int64.toUInt64 63)).toInt64) &&& (6148914691236517205 : Int64))) &&& (3689348814741910323 : Int64)) + ((((b0 - (((b0.toUInt64 >>> ((1 : Int32).toInt64.toUInt64 &&& Int64.toUInt64 63)).toInt64) &&& (6148914691236517205 : Int64))).toUInt64 >>> ((2 : Int32).toInt64.toUInt64 &&& Int64.toUInt64 63)).toInt64) &&& (3689348814741910323 : Int64))).toUInt64 >>> ((4 : Int32).toInt64.toUInt64 &&& Int64.toUInt64 63)).toInt64)) &&& (1085102592571150095 : Int64)).toUInt64 >>> ((8 : Int32).toInt64.toUInt64 &&& Int64.toUInt64 63)).toInt64)).toUInt64 >>> ((16 : Int32).toInt64.toUInt64 &&& Int64.toUInt64 63)).toInt64)) + (((((((((b0 - (((b0.toUInt64 >>> ((1 : Int32).toInt64.toUInt64 &&& Int64.toUInt64 63)).toInt64) &&& (6148914691236517205 : Int64))) &&& (3689348814741910323 : Int64)) + ((((b0 - (((b0.toUInt64 >>> ((1 : Int32).toInt64.toUInt64 &&& Int64.toUInt64 63)).toInt64) &&& (6148914691236517205 : Int64))).toUInt64 >>> ((2 : Int32).toInt64.toUInt64 &&& Int64.toUInt64 63)).toInt64) &&& (3689348814741910323 : Int64))) + (((((b0 - (((b0.toUInt64 >>> ((1 : Int32).toInt64.toUInt64 &&& Int64.toUInt64 63)).toInt64) &&& (6148914691236517205 : Int64))) &&& (3689348814741910323 : Int64)) + ((((b0 - (((b0.toUInt64 >>> ((1 : Int32).toInt64.toUInt64 &&& Int64.toUInt64 63)).toInt64) &&& (6148914691236517205 : Int64))).toUInt64 >>> ((2 : Int32).toInt64.toUInt64 &&& Int64.toUInt64 63)).toInt64) &&& (3689348814741910323 : Int64))).toUInt64 >>> ((4 : Int32).toInt64.toUInt64 &&& Int64.toUInt64 63)).toInt64)) &&& (1085102592571150095 : Int64)) + (((((((b0 - (((b0.toUInt64 >>> ((1 : Int32).toInt64.toUInt64 &&& Int64.toUInt64 63)).toInt64) &&& (6148914691236517205 : Int64))) &&& (3689348814741910323 : Int64)) + ((((b0 - (((b0.toUInt64 >>> ((1 : Int32).toInt64.toUInt64 &&& Int64.toUInt64 63)).toInt64) &&& (6148914691236517205 : Int64))).toUInt64 >>> ((2 : Int32).toInt64.toUInt64 &&& Int64.toUInt64 63)).toInt64) &&& (3689348814741910323 : Int64))) + (((((b0 - (((b0.toUInt64 >>> ((1 : Int32).toInt64.toUInt64 &&& Int64.toUInt64 63)).toInt64) &&& (6148914691236517205 : Int64))) &&& (3689348814741910323 : Int64)) + ((((b0 - (((b0.toUInt64 >>> ((1 : Int32).toInt64.toUInt64 &&& Int64.toUInt64 63)).toInt64) &&& (6148914691236517205 : Int64))).toUInt64 >>> ((2 : Int32).toInt64.toUInt64 &&& Int64.toUInt64 63)).toInt64) &&& (3689348814741910323 : Int64))).toUInt64 >>> ((4 : Int32).toInt64.toUInt64 &&& Int64.toUInt64 63)).toInt64)) &&& (1085102592571150095 : Int64)).toUInt64 >>> ((8 : Int32).toInt64.toUInt64 &&& Int64.toUInt64 63)).toInt64)) + ((((((((b0 - (((b0.toUInt64 >>> ((1 : Int32).toInt64.toUInt64 &&& Int64.toUInt64 63)).toInt64) &&& (6148914691236517205 : Int64))) &&& (3689348814741910323 : Int64)) + ((((b0 - (((b0.toUInt64 >>> ((1 : Int32).toInt64.toUInt64 &&& Int64.toUInt64 63)).toInt64) &&& (6148914691236517205 : Int64))).toUInt64 >>> ((2 : Int32).toInt64.toUInt64 &&& Int64.toUInt64 63)).toInt64) &&& (3689348814741910323 : Int64))) + (((((b0 - (((b0.toUInt64 >>> ((1 : Int32).toInt64.toUInt64 &&& Int64.toUInt64 63)).toInt64) &&& (6148914691236517205 : Int64))) &&& (3689348814741910323 : Int64)) + ((((b0 - (((b0.toUInt64 >>> ((1 : Int32).toInt64.toUInt64 &&& Int64.toUInt64 63)).toInt64) &&& (6148914691236517205 : Int64))).toUInt64 >>> ((2 : Int32).toInt64.toUInt64 &&& Int64.toUInt64 63)).toInt64) &&& (3689348814741910323 : Int64))).toUInt64 >>> ((4 : Int32).toInt64.toUInt64 &&& Int64.toUInt64 63)).toInt64)) &&& (1085102592571150095 : Int64)) + (((((((b0 - (((b0.toUInt64 >>> ((1 : Int32).toInt64.toUInt64 &&& Int64.toUInt64 63)).toInt64) &&& (6148914691236517205 : Int64))) &&& (3689348814741910323 : Int64)) + ((((b0 - (((b0.toUInt64 >>> ((1 : Int32).toInt64.toUInt64 &&& Int64.toUInt64 63)).toInt64) &&& (6148914691236517205 : Int64))).toUInt64 >>> ((2 : Int32).toInt64.toUInt64 &&& Int64.toUInt64 63)).toInt64) &&& (3689348814741910323 : Int64))) + (((((b0 - (((b0.toUInt64 >>> ((1 : Int32).toInt64.toUInt64 &&& Int64.toUInt64 63)).toInt64) &&& (6148914691236517205 : Int64))) &&& (3689348814741910323 : Int64)) + ((((b0 - (((b0.toUInt64 >>> ((1 : Int32).toInt64.toUInt64 &&& Int64.toUInt64 63)).toInt64) &&& (6148914691236517205 : Int64))).toUInt64 >>> ((2 : Int32).toInt64.toUInt64 &&& Int64.toUInt64 63)).toInt64) &&& (3689348814741910323 : Int64))).toUInt64 >>> ((4 : Int32).toInt64.toUInt64 &&& Int64.toUInt64 63)).toInt64)) &&& (1085102592571150095 : Int64)).toUInt64 >>> ((8 : Int32).toInt64.toUInt64 &&& Int64.toUInt64 63)).toInt64)).toUInt64 >>> ((16 : Int32).toInt64.toUInt64 &&& Int64.toUInt64 63)).toInt64)).toUInt64 >>> ((32 : Int32).toInt64.toUInt64 &&& Int64.toUInt64 63)).toInt64)))]) hC d_J_bitCount_54 rfl (by decide) rfl ?_
  refine Sm.lload_n hC d_J_bitCount_55 rfl 0 rfl ?_
  refine Sm.l2i hC d_J_bitCount_56 ?_
  refine Sm.bipush (v := 127) hC d_J_bitCount_57 (by decide) ?_
  refine Sm.iand hC d_J_bitCount_59 ?_
  exact Sm.iret hC d_J_bitCount_60 rfl (Nat.sub_self _)
/-! NewsWire.leastOf(J)I -/
abbrev b_m10_leastOf : ByteArray := prog_1_method_45_code
def y_m10_leastOf : MethodName := ⟨"NewsWire", "leastOf", "(J)I"⟩
def rm_m10_leastOf : Room := { frames := 1, cells := 0, slots := 0, locals := 60 }
theorem cw_m10_leastOf : CW y_m10_leastOf b_m10_leastOf 3 (some .int) 1 := ⟨tw_i 55 (by decide +kernel), tw_i 807 (by decide +kernel), by decide, by decide, by decide +kernel⟩
theorem d_m10_leastOf_0 : decode b_m10_leastOf 0 = .ok (.iconst 0, 1) := by decide +kernel
theorem d_m10_leastOf_1 : decode b_m10_leastOf 1 = .ok (.istore_n 2, 1) := by decide +kernel
theorem d_m10_leastOf_2 : decode b_m10_leastOf 2 = .ok (.iload_n 2, 1) := by decide +kernel
theorem d_m10_leastOf_3 : decode b_m10_leastOf 3 = .ok (.bipush 40, 2) := by decide +kernel
theorem d_m10_leastOf_5 : decode b_m10_leastOf 5 = .ok (.if_icmp .ge 21, 3) := by decide +kernel
theorem d_m10_leastOf_8 : decode b_m10_leastOf 8 = .ok (.lload_n 0, 1) := by decide +kernel
theorem d_m10_leastOf_9 : decode b_m10_leastOf 9 = .ok (.iload_n 2, 1) := by decide +kernel
theorem d_m10_leastOf_10 : decode b_m10_leastOf 10 = .ok (.lushr, 1) := by decide +kernel
theorem d_m10_leastOf_11 : decode b_m10_leastOf 11 = .ok (.lconst 1, 1) := by decide +kernel
theorem d_m10_leastOf_12 : decode b_m10_leastOf 12 = .ok (.land, 1) := by decide +kernel
theorem d_m10_leastOf_13 : decode b_m10_leastOf 13 = .ok (.lconst 1, 1) := by decide +kernel
theorem d_m10_leastOf_14 : decode b_m10_leastOf 14 = .ok (.lcmp, 1) := by decide +kernel
theorem d_m10_leastOf_15 : decode b_m10_leastOf 15 = .ok (.ifCond .ne 5, 3) := by decide +kernel
theorem d_m10_leastOf_18 : decode b_m10_leastOf 18 = .ok (.iload_n 2, 1) := by decide +kernel
theorem d_m10_leastOf_19 : decode b_m10_leastOf 19 = .ok (.ireturn, 1) := by decide +kernel
theorem d_m10_leastOf_20 : decode b_m10_leastOf 20 = .ok (.iinc 2 1, 3) := by decide +kernel
theorem d_m10_leastOf_23 : decode b_m10_leastOf 23 = .ok (.goto (-21), 3) := by decide +kernel
theorem d_m10_leastOf_26 : decode b_m10_leastOf 26 = .ok (.iconst (-1), 1) := by decide +kernel
theorem d_m10_leastOf_27 : decode b_m10_leastOf 27 = .ok (.ireturn, 1) := by decide +kernel
def s_m10_leastOf_2  : Nat → Int64 → Int32 → Mm → Option (Int32 × Mm)
  | 0, _, _, _ => none
  | n + 1, l0, x2, M => (if (40 : Int32) ≤ x2 then some ((-1 : Int32), M) else (if ¬ (lg_cmp (((l0.toUInt64 >>> (x2.toInt64.toUInt64 &&& Int64.toUInt64 63)).toInt64) &&& (1 : Int64)) (1 : Int64)) = 0 then (s_m10_leastOf_2 n) l0 (x2 + 1) M else some (x2, M)))
def s_m10_leastOf (b0 : Int64) (M : Mm) : Option (Int32 × Mm) := s_m10_leastOf_2 FU b0 (0 : Int32) M
set_option maxRecDepth 100000 in
set_option maxHeartbeats 4000000 in
theorem w_m10_leastOf_2 {V : Ev} {C : Cx} {n0 : Nat} (hC : Cok V C y_m10_leastOf.cls b_m10_leastOf 3 n0 (some .int) y_m10_leastOf.name) (hR : cR C = rm_m10_leastOf)  : ∀ (n : Nat) (l0 : Int64) (x2 : Int32) (M : Mm), Sm V C 3 n0 n0 (qI V C) 2 [(0, .long l0), (2, .int x2)] [] M (s_m10_leastOf_2 n l0 x2 M) := by
  intro n
  induction n with
  | zero => exact fun l0 x2 M => Sm.none_
  | succ n ih =>
    intro l0 x2 M
    unfold s_m10_leastOf_2
    refine Sm.iload_n hC d_m10_leastOf_2 rfl 1 rfl ?_
    refine Sm.bipush (v := 40) hC d_m10_leastOf_3 (by decide) ?_
    refine Sm.icmp_ge (tgt := 26) hC d_m10_leastOf_5 (by decide) ?_ ?_
    · refine Sm.iconst (v := -1) hC d_m10_leastOf_26 (by decide) ?_
      exact Sm.iret hC d_m10_leastOf_27 rfl (Nat.sub_self _)
    · refine Sm.lload_n hC d_m10_leastOf_8 rfl 0 rfl ?_
      refine Sm.iload_n hC d_m10_leastOf_9 rfl 1 rfl ?_
      refine Sm.lushr hC d_m10_leastOf_10 ?_
      refine Sm.lconst (v := 1) hC d_m10_leastOf_11 (by decide) ?_
      refine Sm.land hC d_m10_leastOf_12 ?_
      refine Sm.lconst (v := 1) hC d_m10_leastOf_13 (by decide) ?_
      refine Sm.lcmp hC d_m10_leastOf_14 ?_
      refine Sm.if_ne (tgt := 20) hC d_m10_leastOf_15 (by decide) ?_ ?_
      · refine Sm.iinc (v := x2 + 1) (lv' := [(2, .int (x2 + 1)), (0, .long l0)]) hC d_m10_leastOf_20 1 rfl rfl (by decide) rfl ?_
        refine Sm.goto (tgt := 2) hC d_m10_leastOf_23 (by decide) ?_
        refine Sm.sub [1, 0] rfl ?_
        exact ih l0 (x2 + 1) M
      · refine Sm.iload_n hC d_m10_leastOf_18 rfl 1 rfl ?_
        exact Sm.iret hC d_m10_leastOf_19 rfl (Nat.sub_self _)
set_option maxRecDepth 100000 in
set_option maxHeartbeats 4000000 in
theorem ok_m10_leastOf {l : Launch} {V : Ev} {M M' : Mm} {r : Int32} {b0 : Int64} (h : s_m10_leastOf b0 M = some (r, M')) : Met l y_m10_leastOf (Cond.code y_m10_leastOf b_m10_leastOf 3 (some .int) :: TW) rm_m10_leastOf (va_Pc [.long b0] (Wd V M)) (QC V (some (.int r)) M' 0) 0 0 (Af V) := by
  refine met_of (fun x : Int32 => some (.int x)) (lv0 := [(0, .long b0)]) (by decide) (by simp [lg_sl, cat_rv, cat_i, cat_l, cat_f]) (by simp [lv_args, cat_rv, cat_i, cat_l, cat_f]) (fun C hl hR hC => ?_) h
  subst hl
  generalize mN M = n0 at hC ⊢
  unfold s_m10_leastOf
  refine Sm.iconst (v := 0) hC d_m10_leastOf_0 (by decide) ?_
  refine Sm.istore_n (lv' := [(2, .int (0 : Int32)), (0, .long b0)]) hC d_m10_leastOf_1 rfl (by decide) rfl ?_
  refine Sm.sub [1, 0] rfl ?_
  exact w_m10_leastOf_2 hC hR FU b0 (0 : Int32) M
/-! NewsWire.printed(II)I -/
abbrev b_m10_printed : ByteArray := prog_1_method_37_code
def y_m10_printed : MethodName := ⟨"NewsWire", "printed", "(II)I"⟩
def rm_m10_printed : Room := { frames := 2, cells := 0, slots := 0, locals := 86 }
theorem cw_m10_printed : CW y_m10_printed b_m10_printed 4 (some .int) 2 := ⟨tw_i 55 (by decide +kernel), tw_i 794 (by decide +kernel), by decide, by decide, by decide +kernel⟩
theorem d_m10_printed_0 : decode b_m10_printed 0 = .ok (.iload_n 1, 1) := by decide +kernel
theorem d_m10_printed_1 : decode b_m10_printed 1 = .ok (.invokestatic 192, 3) := by decide +kernel
theorem d_m10_printed_4 : decode b_m10_printed 4 = .ok (.ifCond .ne 10, 3) := by decide +kernel
theorem d_m10_printed_7 : decode b_m10_printed 7 = .ok (.aload_n 0, 1) := by decide +kernel
theorem d_m10_printed_8 : decode b_m10_printed 8 = .ok (.bipush (-3), 2) := by decide +kernel
theorem d_m10_printed_10 : decode b_m10_printed 10 = .ok (.invokevirtual 76, 3) := by decide +kernel
theorem d_m10_printed_13 : decode b_m10_printed 13 = .ok (.ireturn, 1) := by decide +kernel
theorem d_m10_printed_14 : decode b_m10_printed 14 = .ok (.aload_n 0, 1) := by decide +kernel
theorem d_m10_printed_15 : decode b_m10_printed 15 = .ok (.getfield 23, 3) := by decide +kernel
theorem d_m10_printed_18 : decode b_m10_printed 18 = .ok (.iload_n 1, 1) := by decide +kernel
theorem d_m10_printed_19 : decode b_m10_printed 19 = .ok (.aaload, 1) := by decide +kernel
theorem d_m10_printed_20 : decode b_m10_printed 20 = .ok (.astore_n 3, 1) := by decide +kernel
theorem d_m10_printed_21 : decode b_m10_printed 21 = .ok (.aload_n 3, 1) := by decide +kernel
theorem d_m10_printed_22 : decode b_m10_printed 22 = .ok (.getfield 320, 3) := by decide +kernel
theorem d_m10_printed_25 : decode b_m10_printed 25 = .ok (.iconst (-1), 1) := by decide +kernel
theorem d_m10_printed_26 : decode b_m10_printed 26 = .ok (.if_icmp .ne 10, 3) := by decide +kernel
theorem d_m10_printed_29 : decode b_m10_printed 29 = .ok (.aload_n 0, 1) := by decide +kernel
theorem d_m10_printed_30 : decode b_m10_printed 30 = .ok (.bipush (-2), 2) := by decide +kernel
theorem d_m10_printed_32 : decode b_m10_printed 32 = .ok (.invokevirtual 76, 3) := by decide +kernel
theorem d_m10_printed_35 : decode b_m10_printed 35 = .ok (.ireturn, 1) := by decide +kernel
theorem d_m10_printed_36 : decode b_m10_printed 36 = .ok (.iload_n 2, 1) := by decide +kernel
theorem d_m10_printed_37 : decode b_m10_printed 37 = .ok (.tableswitch 59 0 3 #[31, 36, 41, 50], 31) := by decide +kernel
theorem d_m10_printed_68 : decode b_m10_printed 68 = .ok (.aload_n 3, 1) := by decide +kernel
theorem d_m10_printed_69 : decode b_m10_printed 69 = .ok (.getfield 320, 3) := by decide +kernel
theorem d_m10_printed_72 : decode b_m10_printed 72 = .ok (.ireturn, 1) := by decide +kernel
theorem d_m10_printed_73 : decode b_m10_printed 73 = .ok (.aload_n 3, 1) := by decide +kernel
theorem d_m10_printed_74 : decode b_m10_printed 74 = .ok (.getfield 323, 3) := by decide +kernel
theorem d_m10_printed_77 : decode b_m10_printed 77 = .ok (.ireturn, 1) := by decide +kernel
theorem d_m10_printed_78 : decode b_m10_printed 78 = .ok (.aload_n 0, 1) := by decide +kernel
theorem d_m10_printed_79 : decode b_m10_printed 79 = .ok (.aload_n 3, 1) := by decide +kernel
theorem d_m10_printed_80 : decode b_m10_printed 80 = .ok (.invokevirtual 330, 3) := by decide +kernel
theorem d_m10_printed_83 : decode b_m10_printed 83 = .ok (.invokestatic 334, 3) := by decide +kernel
theorem d_m10_printed_86 : decode b_m10_printed 86 = .ok (.ireturn, 1) := by decide +kernel
theorem d_m10_printed_87 : decode b_m10_printed 87 = .ok (.aload_n 0, 1) := by decide +kernel
theorem d_m10_printed_88 : decode b_m10_printed 88 = .ok (.aload_n 3, 1) := by decide +kernel
theorem d_m10_printed_89 : decode b_m10_printed 89 = .ok (.invokevirtual 330, 3) := by decide +kernel
theorem d_m10_printed_92 : decode b_m10_printed 92 = .ok (.invokestatic 340, 3) := by decide +kernel
theorem d_m10_printed_95 : decode b_m10_printed 95 = .ok (.ireturn, 1) := by decide +kernel
theorem d_m10_printed_96 : decode b_m10_printed 96 = .ok (.aload_n 0, 1) := by decide +kernel
theorem d_m10_printed_97 : decode b_m10_printed 97 = .ok (.bipush (-7), 2) := by decide +kernel
theorem d_m10_printed_99 : decode b_m10_printed 99 = .ok (.invokevirtual 76, 3) := by decide +kernel
theorem d_m10_printed_102 : decode b_m10_printed 102 = .ok (.ireturn, 1) := by decide +kernel
def s_m10_printed (r0 : Nat) (a1 : Int32) (a2 : Int32) (M : Mm) : Option (Int32 × Mm) := cl true (s_m10_isPaper a1 M) (fun v1 M2 => (if ¬ v1 = 0 then gR M2 r0 20 2 (fun v3 => aR M2 v3 2 a1 (fun v4 => gI M2 v4 12 2 (fun v5 => (if ¬ v5 = (-1 : Int32) then (if a2 = 0 then gI M2 v4 12 2 (fun v6 => some (v6, M2)) else if a2 = 1 then gI M2 v4 12 3 (fun v7 => some (v7, M2)) else if a2 = 2 then cl (has M2 r0 20) (s_m10_setBehind r0 v4 M2) (fun v8 M9 => cl true (s_J_bitCount v8 M9) (fun v10 M11 => some (v10, M11))) else if a2 = 3 then cl (has M2 r0 20) (s_m10_setBehind r0 v4 M2) (fun v12 M13 => cl true (s_m10_leastOf v12 M13) (fun v14 M15 => some (v14, M15))) else cl (has M2 r0 20) (s_m10_refuse r0 (-7 : Int32) M2) (fun v16 M17 => some (v16, M17))) else cl (has M2 r0 20) (s_m10_refuse r0 (-2 : Int32) M2) (fun v18 M19 => some (v18, M19)))))) else cl (has M2 r0 20) (s_m10_refuse r0 (-3 : Int32) M2) (fun v20 M21 => some (v20, M21))))
set_option maxRecDepth 100000 in
set_option maxHeartbeats 4000000 in
theorem ok_m10_printed {l : Launch} {V : Ev} {M M' : Mm} {r : Int32} {r0 : Nat} {a1 : Int32} {a2 : Int32} (h : s_m10_printed r0 a1 a2 M = some (r, M')) : Met l y_m10_printed (Cond.code y_m10_printed b_m10_printed 4 (some .int) :: TW) rm_m10_printed (va_Pc [rv V.1 r0, .int a1, .int a2] (Wd V M)) (QC V (some (.int r)) M' 0) 0 0 (Af V) := by
  refine met_of (fun x : Int32 => some (.int x)) (lv0 := [(0, rv V.1 r0), (1, .int a1), (2, .int a2)]) (by decide) (by simp [lg_sl, cat_rv, cat_i, cat_l, cat_f]) (by simp [lv_args, cat_rv, cat_i, cat_l, cat_f]) (fun C hl hR hC => ?_) h
  subst hl
  generalize mN M = n0 at hC ⊢
  unfold s_m10_printed
  refine Sm.iload_n hC d_m10_printed_0 rfl 1 rfl ?_
  refine Sm.callSi (As := [.int a1]) (st := []) hC hR cw_m10_isPaper (tw_i 590 (by decide +kernel)) (tw_i 591 (by decide +kernel)) (fun r9 M9 h9 => ok_m10_isPaper h9) rfl rfl (RW.of ⟨rfl, rfl, by decide, by decide⟩) (by simp) d_m10_printed_1 (fun v1 M2 => ?_)
  refine Sm.if_ne (tgt := 14) hC d_m10_printed_4 (by decide) ?_ ?_
  · refine Sm.aload_n hC d_m10_printed_14 rfl 0 rfl ?_
    refine Sm.getR hC fl_m10_23 rfl d_m10_printed_15 (fun v3 => ?_)
    refine Sm.iload_n hC d_m10_printed_18 rfl 1 rfl ?_
    refine Sm.aald (Cn := n_c2) hC ⟨by decide, by decide⟩ rfl d_m10_printed_19 (fun v4 => ?_)
    refine Sm.astore_n (lv' := [(3, rv V.1 v4), (0, rv V.1 r0), (1, .int a1), (2, .int a2)]) hC d_m10_printed_20 rfl (by decide) rfl ?_
    refine Sm.aload_n hC d_m10_printed_21 rfl 0 rfl ?_
    refine Sm.getI hC fl_m10_320 rfl d_m10_printed_22 (fun v5 => ?_)
    refine Sm.iconst (v := -1) hC d_m10_printed_25 (by decide) ?_
    refine Sm.icmp_ne (tgt := 36) hC d_m10_printed_26 (by decide) ?_ ?_
    · refine Sm.iload_n hC d_m10_printed_36 rfl 3 rfl ?_
      refine Sm.if_ (fun h9 => ?_) (fun h37_0 => ?_)
      · refine Sm.tswIn (tgt := 68) hC d_m10_printed_37 (by rw [h9]; decide) (by rw [h9]; decide) (by rw [h9] <;> rfl) (by decide) ?_
        refine Sm.aload_n hC d_m10_printed_68 rfl 0 rfl ?_
        refine Sm.getI hC fl_m10_320 rfl d_m10_printed_69 (fun v6 => ?_)
        exact Sm.iret hC d_m10_printed_72 rfl (Nat.sub_self _)
      refine Sm.if_ (fun h9 => ?_) (fun h37_1 => ?_)
      · refine Sm.tswIn (tgt := 73) hC d_m10_printed_37 (by rw [h9]; decide) (by rw [h9]; decide) (by rw [h9] <;> rfl) (by decide) ?_
        refine Sm.aload_n hC d_m10_printed_73 rfl 0 rfl ?_
        refine Sm.getI hC fl_m10_323 rfl d_m10_printed_74 (fun v7 => ?_)
        exact Sm.iret hC d_m10_printed_77 rfl (Nat.sub_self _)
      refine Sm.if_ (fun h9 => ?_) (fun h37_2 => ?_)
      · refine Sm.tswIn (tgt := 78) hC d_m10_printed_37 (by rw [h9]; decide) (by rw [h9]; decide) (by rw [h9] <;> rfl) (by decide) ?_
        refine Sm.aload_n hC d_m10_printed_78 rfl 1 rfl ?_
        refine Sm.aload_n hC d_m10_printed_79 rfl 0 rfl ?_
        refine Sm.callVl 10 (As := [rv V.1 v4]) (st := []) hC hR cw_m10_setBehind (tw_i 795 (by decide +kernel)) (tw_i 797 (by decide +kernel)) (tw_i 22 (by decide +kernel)) ⟨_, rfl, rfl⟩ (fun r9 M9 h9 => ok_m10_setBehind h9) rfl rfl (RW.of ⟨rfl, rfl, by decide, by decide⟩) (by simp) d_m10_printed_80 (fun v8 M9 => ?_)
        refine Sm.callSi (As := [.long v8]) (st := []) hC hR cw_J_bitCount (tw_i 799 (by decide +kernel)) (tw_i 800 (by decide +kernel)) (fun r9 M9 h9 => ok_J_bitCount h9) rfl rfl (RW.of ⟨rfl, rfl, by decide, by decide⟩) (by simp) d_m10_printed_83 (fun v10 M11 => ?_)
        exact Sm.iret hC d_m10_printed_86 rfl (Nat.sub_self _)
      refine Sm.if_ (fun h9 => ?_) (fun h37_3 => ?_)
      · refine Sm.tswIn (tgt := 87) hC d_m10_printed_37 (by rw [h9]; decide) (by rw [h9]; decide) (by rw [h9] <;> rfl) (by decide) ?_
        refine Sm.aload_n hC d_m10_printed_87 rfl 1 rfl ?_
        refine Sm.aload_n hC d_m10_printed_88 rfl 0 rfl ?_
        refine Sm.callVl 10 (As := [rv V.1 v4]) (st := []) hC hR cw_m10_setBehind (tw_i 795 (by decide +kernel)) (tw_i 797 (by decide +kernel)) (tw_i 22 (by decide +kernel)) ⟨_, rfl, rfl⟩ (fun r9 M9 h9 => ok_m10_setBehind h9) rfl rfl (RW.of ⟨rfl, rfl, by decide, by decide⟩) (by simp) d_m10_printed_89 (fun v12 M13 => ?_)
        refine Sm.callSi (As := [.long v12]) (st := []) hC hR cw_m10_leastOf (tw_i 805 (by decide +kernel)) (tw_i 806 (by decide +kernel)) (fun r9 M9 h9 => ok_m10_leastOf h9) rfl rfl (RW.of ⟨rfl, rfl, by decide, by decide⟩) (by simp) d_m10_printed_92 (fun v14 M15 => ?_)
        exact Sm.iret hC d_m10_printed_95 rfl (Nat.sub_self _)
      refine Sm.tswOut (tgt := 96) hC d_m10_printed_37 (out_of (n := 4) (by decide) (fun i hi => by
          match i, hi with
          | 0, _ => exact h37_0
          | 1, _ => exact h37_1
          | 2, _ => exact h37_2
          | 3, _ => exact h37_3)) (by decide) ?_
      refine Sm.aload_n hC d_m10_printed_96 rfl 1 rfl ?_
      refine Sm.bipush (v := -7) hC d_m10_printed_97 (by decide) ?_
      refine Sm.callVi 10 (As := [.int (-7 : Int32)]) (st := []) hC hR cw_m10_refuse (tw_i 410 (by decide +kernel)) (tw_i 412 (by decide +kernel)) (tw_i 0 (by decide +kernel)) ⟨_, rfl, rfl⟩ (fun r9 M9 h9 => ok_m10_refuse h9) rfl rfl (RW.of ⟨rfl, rfl, by decide, by decide⟩) (by simp) d_m10_printed_99 (fun v16 M17 => ?_)
      exact Sm.iret hC d_m10_printed_102 rfl (Nat.sub_self _)
    · refine Sm.aload_n hC d_m10_printed_29 rfl 1 rfl ?_
      refine Sm.bipush (v := -2) hC d_m10_printed_30 (by decide) ?_
      refine Sm.callVi 10 (As := [.int (-2 : Int32)]) (st := []) hC hR cw_m10_refuse (tw_i 410 (by decide +kernel)) (tw_i 412 (by decide +kernel)) (tw_i 0 (by decide +kernel)) ⟨_, rfl, rfl⟩ (fun r9 M9 h9 => ok_m10_refuse h9) rfl rfl (RW.of ⟨rfl, rfl, by decide, by decide⟩) (by simp) d_m10_printed_32 (fun v18 M19 => ?_)
      exact Sm.iret hC d_m10_printed_35 rfl (Nat.sub_self _)
  · refine Sm.aload_n hC d_m10_printed_7 rfl 0 rfl ?_
    refine Sm.bipush (v := -3) hC d_m10_printed_8 (by decide) ?_
    refine Sm.callVi 10 (As := [.int (-3 : Int32)]) (st := []) hC hR cw_m10_refuse (tw_i 410 (by decide +kernel)) (tw_i 412 (by decide +kernel)) (tw_i 0 (by decide +kernel)) ⟨_, rfl, rfl⟩ (fun r9 M9 h9 => ok_m10_refuse h9) rfl rfl (RW.of ⟨rfl, rfl, by decide, by decide⟩) (by simp) d_m10_printed_10 (fun v20 M21 => ?_)
    exact Sm.iret hC d_m10_printed_13 rfl (Nat.sub_self _)
/-! NewsWire.worth(II)I -/
theorem fl_m10_51 : FL "NewsWire" 51 10 6 2 true (.object "NewsWire$Choice") := ⟨_, _, _, _, rfl, in_c10, ty_c10, nm_c10, by decide, rfl, tw_i 363 (by decide +kernel), rfl, rfl, rfl, rfl⟩
theorem fl_m10_352 : FL "NewsWire" 352 0 3 0 false .int := ⟨_, _, _, _, rfl, in_c0, ty_c0, nm_c0, by decide, rfl, tw_i 213 (by decide +kernel), rfl, rfl, rfl, rfl⟩
theorem fl_m10_355 : FL "NewsWire" 355 10 15 0 false .int := ⟨_, _, _, _, rfl, in_c10, ty_c10, nm_c10, by decide, rfl, tw_i 372 (by decide +kernel), rfl, rfl, rfl, rfl⟩
theorem fl_m10_358 : FL "NewsWire" 358 0 2 0 false .int := ⟨_, _, _, _, rfl, in_c0, ty_c0, nm_c0, by decide, rfl, tw_i 211 (by decide +kernel), rfl, rfl, rfl, rfl⟩
abbrev b_m10_worth : ByteArray := prog_1_method_38_code
def y_m10_worth : MethodName := ⟨"NewsWire", "worth", "(II)I"⟩
def rm_m10_worth : Room := { frames := 5, cells := 0, slots := 0, locals := 155 }
theorem cw_m10_worth : CW y_m10_worth b_m10_worth 7 (some .int) 2 := ⟨tw_i 55 (by decide +kernel), tw_i 811 (by decide +kernel), by decide, by decide, by decide +kernel⟩
theorem d_m10_worth_0 : decode b_m10_worth 0 = .ok (.aload_n 0, 1) := by decide +kernel
theorem d_m10_worth_1 : decode b_m10_worth 1 = .ok (.iload_n 1, 1) := by decide +kernel
theorem d_m10_worth_2 : decode b_m10_worth 2 = .ok (.invokevirtual 209, 3) := by decide +kernel
theorem d_m10_worth_5 : decode b_m10_worth 5 = .ok (.ifCond .ne 10, 3) := by decide +kernel
theorem d_m10_worth_8 : decode b_m10_worth 8 = .ok (.aload_n 0, 1) := by decide +kernel
theorem d_m10_worth_9 : decode b_m10_worth 9 = .ok (.bipush (-3), 2) := by decide +kernel
theorem d_m10_worth_11 : decode b_m10_worth 11 = .ok (.invokevirtual 76, 3) := by decide +kernel
theorem d_m10_worth_14 : decode b_m10_worth 14 = .ok (.ireturn, 1) := by decide +kernel
theorem d_m10_worth_15 : decode b_m10_worth 15 = .ok (.iload_n 2, 1) := by decide +kernel
theorem d_m10_worth_16 : decode b_m10_worth 16 = .ok (.ifCond .ge 10, 3) := by decide +kernel
theorem d_m10_worth_19 : decode b_m10_worth 19 = .ok (.aload_n 0, 1) := by decide +kernel
theorem d_m10_worth_20 : decode b_m10_worth 20 = .ok (.bipush (-4), 2) := by decide +kernel
theorem d_m10_worth_22 : decode b_m10_worth 22 = .ok (.invokevirtual 76, 3) := by decide +kernel
theorem d_m10_worth_25 : decode b_m10_worth 25 = .ok (.ireturn, 1) := by decide +kernel
theorem d_m10_worth_26 : decode b_m10_worth 26 = .ok (.iload_n 2, 1) := by decide +kernel
theorem d_m10_worth_27 : decode b_m10_worth 27 = .ok (.sipush 1000, 3) := by decide +kernel
theorem d_m10_worth_30 : decode b_m10_worth 30 = .ok (.if_icmp .le 10, 3) := by decide +kernel
theorem d_m10_worth_33 : decode b_m10_worth 33 = .ok (.aload_n 0, 1) := by decide +kernel
theorem d_m10_worth_34 : decode b_m10_worth 34 = .ok (.bipush (-7), 2) := by decide +kernel
theorem d_m10_worth_36 : decode b_m10_worth 36 = .ok (.invokevirtual 76, 3) := by decide +kernel
theorem d_m10_worth_39 : decode b_m10_worth 39 = .ok (.ireturn, 1) := by decide +kernel
theorem d_m10_worth_40 : decode b_m10_worth 40 = .ok (.aload_n 0, 1) := by decide +kernel
theorem d_m10_worth_41 : decode b_m10_worth 41 = .ok (.getfield 11, 3) := by decide +kernel
theorem d_m10_worth_44 : decode b_m10_worth 44 = .ok (.iload_n 1, 1) := by decide +kernel
theorem d_m10_worth_45 : decode b_m10_worth 45 = .ok (.aaload, 1) := by decide +kernel
theorem d_m10_worth_46 : decode b_m10_worth 46 = .ok (.astore_n 3, 1) := by decide +kernel
theorem d_m10_worth_47 : decode b_m10_worth 47 = .ok (.aload_n 0, 1) := by decide +kernel
theorem d_m10_worth_48 : decode b_m10_worth 48 = .ok (.getfield 51, 3) := by decide +kernel
theorem d_m10_worth_51 : decode b_m10_worth 51 = .ok (.invokevirtual 343, 3) := by decide +kernel
theorem d_m10_worth_54 : decode b_m10_worth 54 = .ok (.iconst 0, 1) := by decide +kernel
theorem d_m10_worth_55 : decode b_m10_worth 55 = .ok (.istore 4, 2) := by decide +kernel
theorem d_m10_worth_57 : decode b_m10_worth 57 = .ok (.iload 4, 2) := by decide +kernel
theorem d_m10_worth_59 : decode b_m10_worth 59 = .ok (.aload_n 3, 1) := by decide +kernel
theorem d_m10_worth_60 : decode b_m10_worth 60 = .ok (.getfield 216, 3) := by decide +kernel
theorem d_m10_worth_63 : decode b_m10_worth 63 = .ok (.if_icmp .ge 71, 3) := by decide +kernel
theorem d_m10_worth_66 : decode b_m10_worth 66 = .ok (.aload_n 0, 1) := by decide +kernel
theorem d_m10_worth_67 : decode b_m10_worth 67 = .ok (.getfield 17, 3) := by decide +kernel
theorem d_m10_worth_70 : decode b_m10_worth 70 = .ok (.aload_n 3, 1) := by decide +kernel
theorem d_m10_worth_71 : decode b_m10_worth 71 = .ok (.getfield 272, 3) := by decide +kernel
theorem d_m10_worth_74 : decode b_m10_worth 74 = .ok (.iload 4, 2) := by decide +kernel
theorem d_m10_worth_76 : decode b_m10_worth 76 = .ok (.iaload, 1) := by decide +kernel
theorem d_m10_worth_77 : decode b_m10_worth 77 = .ok (.aaload, 1) := by decide +kernel
theorem d_m10_worth_78 : decode b_m10_worth 78 = .ok (.astore 5, 2) := by decide +kernel
theorem d_m10_worth_80 : decode b_m10_worth 80 = .ok (.aload 5, 2) := by decide +kernel
theorem d_m10_worth_82 : decode b_m10_worth 82 = .ok (.getfield 120, 3) := by decide +kernel
theorem d_m10_worth_85 : decode b_m10_worth 85 = .ok (.aload_n 3, 1) := by decide +kernel
theorem d_m10_worth_86 : decode b_m10_worth 86 = .ok (.getfield 243, 3) := by decide +kernel
theorem d_m10_worth_89 : decode b_m10_worth 89 = .ok (.aload_n 3, 1) := by decide +kernel
theorem d_m10_worth_90 : decode b_m10_worth 90 = .ok (.getfield 272, 3) := by decide +kernel
theorem d_m10_worth_93 : decode b_m10_worth 93 = .ok (.iload 4, 2) := by decide +kernel
theorem d_m10_worth_95 : decode b_m10_worth 95 = .ok (.iaload, 1) := by decide +kernel
theorem d_m10_worth_96 : decode b_m10_worth 96 = .ok (.iaload, 1) := by decide +kernel
theorem d_m10_worth_97 : decode b_m10_worth 97 = .ok (.isub, 1) := by decide +kernel
theorem d_m10_worth_98 : decode b_m10_worth 98 = .ok (.istore 6, 2) := by decide +kernel
theorem d_m10_worth_100 : decode b_m10_worth 100 = .ok (.aload_n 0, 1) := by decide +kernel
theorem d_m10_worth_101 : decode b_m10_worth 101 = .ok (.getfield 51, 3) := by decide +kernel
theorem d_m10_worth_104 : decode b_m10_worth 104 = .ok (.iconst 1, 1) := by decide +kernel
theorem d_m10_worth_105 : decode b_m10_worth 105 = .ok (.iload 4, 2) := by decide +kernel
theorem d_m10_worth_107 : decode b_m10_worth 107 = .ok (.ishl, 1) := by decide +kernel
theorem d_m10_worth_108 : decode b_m10_worth 108 = .ok (.iload 6, 2) := by decide +kernel
theorem d_m10_worth_110 : decode b_m10_worth 110 = .ok (.aload_n 0, 1) := by decide +kernel
theorem d_m10_worth_111 : decode b_m10_worth 111 = .ok (.getfield 30, 3) := by decide +kernel
theorem d_m10_worth_114 : decode b_m10_worth 114 = .ok (.aload 5, 2) := by decide +kernel
theorem d_m10_worth_116 : decode b_m10_worth 116 = .ok (.aload_n 0, 1) := by decide +kernel
theorem d_m10_worth_117 : decode b_m10_worth 117 = .ok (.getfield 195, 3) := by decide +kernel
theorem d_m10_worth_120 : decode b_m10_worth 120 = .ok (.invokevirtual 202, 3) := by decide +kernel
theorem d_m10_worth_123 : decode b_m10_worth 123 = .ok (.iconst 1, 1) := by decide +kernel
theorem d_m10_worth_124 : decode b_m10_worth 124 = .ok (.iadd, 1) := by decide +kernel
theorem d_m10_worth_125 : decode b_m10_worth 125 = .ok (.invokevirtual 346, 3) := by decide +kernel
theorem d_m10_worth_128 : decode b_m10_worth 128 = .ok (.iinc 4 1, 3) := by decide +kernel
theorem d_m10_worth_131 : decode b_m10_worth 131 = .ok (.goto (-74), 3) := by decide +kernel
theorem d_m10_worth_134 : decode b_m10_worth 134 = .ok (.aload_n 0, 1) := by decide +kernel
theorem d_m10_worth_135 : decode b_m10_worth 135 = .ok (.getfield 51, 3) := by decide +kernel
theorem d_m10_worth_138 : decode b_m10_worth 138 = .ok (.aload_n 3, 1) := by decide +kernel
theorem d_m10_worth_139 : decode b_m10_worth 139 = .ok (.getfield 258, 3) := by decide +kernel
theorem d_m10_worth_142 : decode b_m10_worth 142 = .ok (.iload_n 2, 1) := by decide +kernel
theorem d_m10_worth_143 : decode b_m10_worth 143 = .ok (.imul, 1) := by decide +kernel
theorem d_m10_worth_144 : decode b_m10_worth 144 = .ok (.invokevirtual 349, 3) := by decide +kernel
theorem d_m10_worth_147 : decode b_m10_worth 147 = .ok (.aload_n 0, 1) := by decide +kernel
theorem d_m10_worth_148 : decode b_m10_worth 148 = .ok (.aload_n 0, 1) := by decide +kernel
theorem d_m10_worth_149 : decode b_m10_worth 149 = .ok (.getfield 51, 3) := by decide +kernel
theorem d_m10_worth_152 : decode b_m10_worth 152 = .ok (.getfield 352, 3) := by decide +kernel
theorem d_m10_worth_155 : decode b_m10_worth 155 = .ok (.putfield 355, 3) := by decide +kernel
theorem d_m10_worth_158 : decode b_m10_worth 158 = .ok (.aload_n 0, 1) := by decide +kernel
theorem d_m10_worth_159 : decode b_m10_worth 159 = .ok (.getfield 51, 3) := by decide +kernel
theorem d_m10_worth_162 : decode b_m10_worth 162 = .ok (.getfield 358, 3) := by decide +kernel
theorem d_m10_worth_165 : decode b_m10_worth 165 = .ok (.ireturn, 1) := by decide +kernel
def s_m10_worth_57  : Nat → Nat → Int32 → Nat → Int32 → Mm → Option (Int32 × Mm)
  | 0, _, _, _, _, _ => none
  | n + 1, r0, x2, r3, x4, M => gI M r3 19 3 (fun v1 => (if v1 ≤ x4 then gR M r0 20 6 (fun v2 => gI M r3 19 6 (fun v3 => cl (has M v2 10) (s_m0_pick v2 (v3 * x2) M) (fun _ M4 => gR M4 r0 20 6 (fun v5 => gI M4 v5 10 3 (fun v6 => pI M4 r0 20 15 v6 (fun M7 => gR M7 r0 20 6 (fun v8 => gI M7 v8 10 2 (fun v9 => some (v9, M7))))))))) else gR M r0 20 1 (fun v10 => gR M r3 19 0 (fun v11 => aI M v11 0 x4 (fun v12 => aR M v10 3 v12 (fun v13 => gI M v13 13 5 (fun v14 => gR M r3 19 1 (fun v15 => gR M r3 19 0 (fun v16 => aI M v16 0 x4 (fun v17 => aI M v15 0 v17 (fun v18 => gR M r0 20 6 (fun v19 => gR M r0 20 3 (fun v20 => gI M r0 20 12 (fun v21 => cl (has M v20 16) (s_m6_rankOf v20 v13 v21 M) (fun v22 M23 => cl (has M23 v19 10) (s_m0_offer v19 ((1 : Int32) <<< (x4 &&& 31)) (v14 - v18) (v22 + (1 : Int32)) M23) (fun _ M24 => (s_m10_worth_57 n) r0 x2 r3 (x4 + 1) M24))))))))))))))))
def s_m10_worth (r0 : Nat) (a1 : Int32) (a2 : Int32) (M : Mm) : Option (Int32 × Mm) := cl (has M r0 20) (s_m10_isWire r0 a1 M) (fun v1 M2 => (if ¬ v1 = 0 then (if 0 ≤ a2 then (if a2 ≤ (1000 : Int32) then gR M2 r0 20 0 (fun v3 => aR M2 v3 5 a1 (fun v4 => gR M2 r0 20 6 (fun v5 => cl (has M2 v5 10) (s_m0_clear v5 M2) (fun _ M6 => s_m10_worth_57 FU r0 a2 v4 (0 : Int32) M6)))) else cl (has M2 r0 20) (s_m10_refuse r0 (-7 : Int32) M2) (fun v7 M8 => some (v7, M8))) else cl (has M2 r0 20) (s_m10_refuse r0 (-4 : Int32) M2) (fun v9 M10 => some (v9, M10))) else cl (has M2 r0 20) (s_m10_refuse r0 (-3 : Int32) M2) (fun v11 M12 => some (v11, M12))))
set_option maxRecDepth 100000 in
set_option maxHeartbeats 4000000 in
theorem w_m10_worth_57 {V : Ev} {C : Cx} {n0 : Nat} (hC : Cok V C y_m10_worth.cls b_m10_worth 7 n0 (some .int) y_m10_worth.name) (hR : cR C = rm_m10_worth)  : ∀ (n : Nat) (r0 : Nat) (x2 : Int32) (r3 : Nat) (x4 : Int32) (M : Mm), Sm V C 7 n0 n0 (qI V C) 57 [(0, rv V.1 r0), (2, .int x2), (3, rv V.1 r3), (4, .int x4)] [] M (s_m10_worth_57 n r0 x2 r3 x4 M) := by
  intro n
  induction n with
  | zero => exact fun r0 x2 r3 x4 M => Sm.none_
  | succ n ih =>
    intro r0 x2 r3 x4 M
    unfold s_m10_worth_57
    refine Sm.iload hC d_m10_worth_57 3 rfl ?_
    refine Sm.aload_n hC d_m10_worth_59 rfl 2 rfl ?_
    refine Sm.getI hC fl_m10_216 rfl d_m10_worth_60 (fun v1 => ?_)
    refine Sm.icmp_ge (tgt := 134) hC d_m10_worth_63 (by decide) ?_ ?_
    · refine Sm.aload_n hC d_m10_worth_134 rfl 0 rfl ?_
      refine Sm.getR hC fl_m10_51 rfl d_m10_worth_135 (fun v2 => ?_)
      refine Sm.aload_n hC d_m10_worth_138 rfl 2 rfl ?_
      refine Sm.getI hC fl_m10_258 rfl d_m10_worth_139 (fun v3 => ?_)
      refine Sm.iload_n hC d_m10_worth_142 rfl 1 rfl ?_
      refine Sm.imul hC d_m10_worth_143 ?_
      refine Sm.callVv 0 (As := [.int (v3 * x2)]) (st := []) hC hR cw_m0_pick (tw_i 820 (by decide +kernel)) (tw_i 821 (by decide +kernel)) (tw_i 822 (by decide +kernel)) ⟨_, rfl, rfl⟩ (fun r9 M9 h9 => ok_m0_pick h9) rfl rfl (RW.of ⟨rfl, rfl, by decide, by decide⟩) (by simp) d_m10_worth_144 (fun _ M4 => ?_)
      refine Sm.aload_n hC d_m10_worth_147 rfl 0 rfl ?_
      refine Sm.aload_n hC d_m10_worth_148 rfl 0 rfl ?_
      refine Sm.getR hC fl_m10_51 rfl d_m10_worth_149 (fun v5 => ?_)
      refine Sm.getI hC fl_m10_352 rfl d_m10_worth_152 (fun v6 => ?_)
      refine Sm.putI hC fl_m10_355 rfl d_m10_worth_155 (fun M7 => ?_)
      refine Sm.aload_n hC d_m10_worth_158 rfl 0 rfl ?_
      refine Sm.getR hC fl_m10_51 rfl d_m10_worth_159 (fun v8 => ?_)
      refine Sm.getI hC fl_m10_358 rfl d_m10_worth_162 (fun v9 => ?_)
      exact Sm.iret hC d_m10_worth_165 rfl (Nat.sub_self _)
    · refine Sm.aload_n hC d_m10_worth_66 rfl 0 rfl ?_
      refine Sm.getR hC fl_m10_17 rfl d_m10_worth_67 (fun v10 => ?_)
      refine Sm.aload_n hC d_m10_worth_70 rfl 2 rfl ?_
      refine Sm.getR hC fl_m10_272 rfl d_m10_worth_71 (fun v11 => ?_)
      refine Sm.iload hC d_m10_worth_74 3 rfl ?_
      refine Sm.iald hC d_m10_worth_76 (fun v12 => ?_)
      refine Sm.aald (Cn := n_c3) hC ⟨by decide, by decide⟩ rfl d_m10_worth_77 (fun v13 => ?_)
      refine Sm.astore (lv' := [(5, rv V.1 v13), (0, rv V.1 r0), (2, .int x2), (3, rv V.1 r3), (4, .int x4)]) hC d_m10_worth_78 (by decide) rfl ?_
      refine Sm.aload hC d_m10_worth_80 0 rfl ?_
      refine Sm.getI hC fl_m10_120 rfl d_m10_worth_82 (fun v14 => ?_)
      refine Sm.aload_n hC d_m10_worth_85 rfl 3 rfl ?_
      refine Sm.getR hC fl_m10_243 rfl d_m10_worth_86 (fun v15 => ?_)
      refine Sm.aload_n hC d_m10_worth_89 rfl 3 rfl ?_
      refine Sm.getR hC fl_m10_272 rfl d_m10_worth_90 (fun v16 => ?_)
      refine Sm.iload hC d_m10_worth_93 4 rfl ?_
      refine Sm.iald hC d_m10_worth_95 (fun v17 => ?_)
      refine Sm.iald hC d_m10_worth_96 (fun v18 => ?_)
      refine Sm.isub hC d_m10_worth_97 ?_
      refine Sm.istore (lv' := [(6, .int (v14 - v18)), (5, rv V.1 v13), (0, rv V.1 r0), (2, .int x2), (3, rv V.1 r3), (4, .int x4)]) hC d_m10_worth_98 (by decide) (by simp [cat_rv, cat_i, cat_l, cat_f]) ?_
      refine Sm.aload_n hC d_m10_worth_100 rfl 2 rfl ?_
      refine Sm.getR hC fl_m10_51 rfl d_m10_worth_101 (fun v19 => ?_)
      refine Sm.iconst (v := 1) hC d_m10_worth_104 (by decide) ?_
      refine Sm.iload hC d_m10_worth_105 5 rfl ?_
      refine Sm.ishl hC d_m10_worth_107 ?_
      refine Sm.iload hC d_m10_worth_108 0 rfl ?_
      refine Sm.aload_n hC d_m10_worth_110 rfl 2 rfl ?_
      refine Sm.getR hC fl_m10_30 rfl d_m10_worth_111 (fun v20 => ?_)
      refine Sm.aload hC d_m10_worth_114 1 rfl ?_
      refine Sm.aload_n hC d_m10_worth_116 rfl 2 rfl ?_
      refine Sm.getI hC fl_m10_195 rfl d_m10_worth_117 (fun v21 => ?_)
      refine Sm.callVi 6 (As := [rv V.1 v13, .int v21]) (st := [.int (v14 - v18), .int ((1 : Int32) <<< (x4 &&& 31)), rv V.1 v19]) hC hR cw_m6_rankOf (tw_i 608 (by decide +kernel)) (tw_i 609 (by decide +kernel)) (tw_i 610 (by decide +kernel)) ⟨_, rfl, rfl⟩ (fun r9 M9 h9 => ok_m6_rankOf h9) rfl rfl (RW.of ⟨rfl, rfl, by decide, by decide⟩) (by simp) d_m10_worth_120 (fun v22 M23 => ?_)
      refine Sm.iconst (v := 1) hC d_m10_worth_123 (by decide) ?_
      refine Sm.iadd hC d_m10_worth_124 ?_
      refine Sm.callVv 0 (As := [.int ((1 : Int32) <<< (x4 &&& 31)), .int (v14 - v18), .int (v22 + (1 : Int32))]) (st := []) hC hR cw_m0_offer (tw_i 816 (by decide +kernel)) (tw_i 817 (by decide +kernel)) (tw_i 818 (by decide +kernel)) ⟨_, rfl, rfl⟩ (fun r9 M9 h9 => ok_m0_offer h9) rfl rfl (RW.of ⟨rfl, rfl, by decide, by decide⟩) (by simp) d_m10_worth_125 (fun _ M24 => ?_)
      refine Sm.iinc (v := x4 + 1) (lv' := [(4, .int (x4 + 1)), (6, .int (v14 - v18)), (5, rv V.1 v13), (0, rv V.1 r0), (2, .int x2), (3, rv V.1 r3)]) hC d_m10_worth_128 5 rfl rfl (by decide) (by simp [cat_rv]) ?_
      refine Sm.goto (tgt := 57) hC d_m10_worth_131 (by decide) ?_
      refine Sm.sub [3, 4, 5, 0] rfl ?_
      exact ih r0 x2 r3 (x4 + 1) M24
set_option maxRecDepth 100000 in
set_option maxHeartbeats 4000000 in
theorem ok_m10_worth {l : Launch} {V : Ev} {M M' : Mm} {r : Int32} {r0 : Nat} {a1 : Int32} {a2 : Int32} (h : s_m10_worth r0 a1 a2 M = some (r, M')) : Met l y_m10_worth (Cond.code y_m10_worth b_m10_worth 7 (some .int) :: TW) rm_m10_worth (va_Pc [rv V.1 r0, .int a1, .int a2] (Wd V M)) (QC V (some (.int r)) M' 0) 0 0 (Af V) := by
  refine met_of (fun x : Int32 => some (.int x)) (lv0 := [(0, rv V.1 r0), (1, .int a1), (2, .int a2)]) (by decide) (by simp [lg_sl, cat_rv, cat_i, cat_l, cat_f]) (by simp [lv_args, cat_rv, cat_i, cat_l, cat_f]) (fun C hl hR hC => ?_) h
  subst hl
  generalize mN M = n0 at hC ⊢
  unfold s_m10_worth
  refine Sm.aload_n hC d_m10_worth_0 rfl 0 rfl ?_
  refine Sm.iload_n hC d_m10_worth_1 rfl 1 rfl ?_
  refine Sm.callVi 10 (As := [.int a1]) (st := []) hC hR cw_m10_isWire (tw_i 629 (by decide +kernel)) (tw_i 631 (by decide +kernel)) (tw_i 5 (by decide +kernel)) ⟨_, rfl, rfl⟩ (fun r9 M9 h9 => ok_m10_isWire h9) rfl rfl (RW.of ⟨rfl, rfl, by decide, by decide⟩) (by simp) d_m10_worth_2 (fun v1 M2 => ?_)
  refine Sm.if_ne (tgt := 15) hC d_m10_worth_5 (by decide) ?_ ?_
  · refine Sm.iload_n hC d_m10_worth_15 rfl 2 rfl ?_
    refine Sm.if_ge (tgt := 26) hC d_m10_worth_16 (by decide) ?_ ?_
    · refine Sm.iload_n hC d_m10_worth_26 rfl 2 rfl ?_
      refine Sm.sipush (v := 1000) hC d_m10_worth_27 (by decide) ?_
      refine Sm.icmp_le (tgt := 40) hC d_m10_worth_30 (by decide) ?_ ?_
      · refine Sm.aload_n hC d_m10_worth_40 rfl 0 rfl ?_
        refine Sm.getR hC fl_m10_11 rfl d_m10_worth_41 (fun v3 => ?_)
        refine Sm.iload_n hC d_m10_worth_44 rfl 1 rfl ?_
        refine Sm.aald (Cn := n_c9) hC ⟨by decide, by decide⟩ rfl d_m10_worth_45 (fun v4 => ?_)
        refine Sm.astore_n (lv' := [(3, rv V.1 v4), (0, rv V.1 r0), (1, .int a1), (2, .int a2)]) hC d_m10_worth_46 rfl (by decide) rfl ?_
        refine Sm.aload_n hC d_m10_worth_47 rfl 1 rfl ?_
        refine Sm.getR hC fl_m10_51 rfl d_m10_worth_48 (fun v5 => ?_)
        refine Sm.callVv 0 (As := []) (st := []) hC hR cw_m0_clear (tw_i 812 (by decide +kernel)) (tw_i 813 (by decide +kernel)) (tw_i 814 (by decide +kernel)) ⟨_, rfl, rfl⟩ (fun r9 M9 h9 => ok_m0_clear h9) rfl rfl (RW.of ⟨rfl, rfl, by decide, by decide⟩) (by simp) d_m10_worth_51 (fun _ M6 => ?_)
        refine Sm.iconst (v := 0) hC d_m10_worth_54 (by decide) ?_
        refine Sm.istore (lv' := [(4, .int (0 : Int32)), (3, rv V.1 v4), (0, rv V.1 r0), (1, .int a1), (2, .int a2)]) hC d_m10_worth_55 (by decide) (by simp [cat_rv, cat_i, cat_l, cat_f]) ?_
        refine Sm.sub [2, 4, 1, 0] rfl ?_
        exact w_m10_worth_57 hC hR FU r0 a2 v4 (0 : Int32) M6
      · refine Sm.aload_n hC d_m10_worth_33 rfl 0 rfl ?_
        refine Sm.bipush (v := -7) hC d_m10_worth_34 (by decide) ?_
        refine Sm.callVi 10 (As := [.int (-7 : Int32)]) (st := []) hC hR cw_m10_refuse (tw_i 410 (by decide +kernel)) (tw_i 412 (by decide +kernel)) (tw_i 0 (by decide +kernel)) ⟨_, rfl, rfl⟩ (fun r9 M9 h9 => ok_m10_refuse h9) rfl rfl (RW.of ⟨rfl, rfl, by decide, by decide⟩) (by simp) d_m10_worth_36 (fun v7 M8 => ?_)
        exact Sm.iret hC d_m10_worth_39 rfl (Nat.sub_self _)
    · refine Sm.aload_n hC d_m10_worth_19 rfl 0 rfl ?_
      refine Sm.bipush (v := -4) hC d_m10_worth_20 (by decide) ?_
      refine Sm.callVi 10 (As := [.int (-4 : Int32)]) (st := []) hC hR cw_m10_refuse (tw_i 410 (by decide +kernel)) (tw_i 412 (by decide +kernel)) (tw_i 0 (by decide +kernel)) ⟨_, rfl, rfl⟩ (fun r9 M9 h9 => ok_m10_refuse h9) rfl rfl (RW.of ⟨rfl, rfl, by decide, by decide⟩) (by simp) d_m10_worth_22 (fun v9 M10 => ?_)
      exact Sm.iret hC d_m10_worth_25 rfl (Nat.sub_self _)
  · refine Sm.aload_n hC d_m10_worth_8 rfl 0 rfl ?_
    refine Sm.bipush (v := -3) hC d_m10_worth_9 (by decide) ?_
    refine Sm.callVi 10 (As := [.int (-3 : Int32)]) (st := []) hC hR cw_m10_refuse (tw_i 410 (by decide +kernel)) (tw_i 412 (by decide +kernel)) (tw_i 0 (by decide +kernel)) ⟨_, rfl, rfl⟩ (fun r9 M9 h9 => ok_m10_refuse h9) rfl rfl (RW.of ⟨rfl, rfl, by decide, by decide⟩) (by simp) d_m10_worth_11 (fun v11 M12 => ?_)
    exact Sm.iret hC d_m10_worth_14 rfl (Nat.sub_self _)
/-! NewsWire.plan()I -/
abbrev b_m10_plan : ByteArray := prog_1_method_39_code
def y_m10_plan : MethodName := ⟨"NewsWire", "plan", "()I"⟩
def rm_m10_plan : Room := { frames := 1, cells := 0, slots := 0, locals := 60 }
theorem cw_m10_plan : CW y_m10_plan b_m10_plan 1 (some .int) 0 := ⟨tw_i 55 (by decide +kernel), tw_i 827 (by decide +kernel), by decide, by decide, by decide +kernel⟩
theorem d_m10_plan_0 : decode b_m10_plan 0 = .ok (.aload_n 0, 1) := by decide +kernel
theorem d_m10_plan_1 : decode b_m10_plan 1 = .ok (.getfield 355, 3) := by decide +kernel
theorem d_m10_plan_4 : decode b_m10_plan 4 = .ok (.ireturn, 1) := by decide +kernel
def s_m10_plan (r0 : Nat) (M : Mm) : Option (Int32 × Mm) := gI M r0 20 15 (fun v1 => some (v1, M))
set_option maxRecDepth 100000 in
set_option maxHeartbeats 4000000 in
theorem ok_m10_plan {l : Launch} {V : Ev} {M M' : Mm} {r : Int32} {r0 : Nat} (h : s_m10_plan r0 M = some (r, M')) : Met l y_m10_plan (Cond.code y_m10_plan b_m10_plan 1 (some .int) :: TW) rm_m10_plan (va_Pc [rv V.1 r0] (Wd V M)) (QC V (some (.int r)) M' 0) 0 0 (Af V) := by
  refine met_of (fun x : Int32 => some (.int x)) (lv0 := [(0, rv V.1 r0)]) (by decide) (by simp [lg_sl, cat_rv, cat_i, cat_l, cat_f]) (by simp [lv_args, cat_rv, cat_i, cat_l, cat_f]) (fun C hl hR hC => ?_) h
  subst hl
  generalize mN M = n0 at hC ⊢
  unfold s_m10_plan
  refine Sm.aload_n hC d_m10_plan_0 rfl 0 rfl ?_
  refine Sm.getI hC fl_m10_355 rfl d_m10_plan_1 (fun v1 => ?_)
  exact Sm.iret hC d_m10_plan_4 rfl (Nat.sub_self _)
