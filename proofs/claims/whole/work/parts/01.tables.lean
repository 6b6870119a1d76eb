-- ===== PART A: goes FIRST, ahead of the names: the tables' words, and 'selects' of the private methods out of them =====
/-- a private method of a class that the tables say can be made, by its rows of tables_1 -/
def lw_okq (q : MethodName × Nat) : Prop := (q.1.cls ≠ "java/lang/invoke/MethodHandle" ∧ q.1.cls ≠ "java/lang/invoke/VarHandle") ∧ Cond.instantiable q.1.cls q.2 ∈ tables_1 ∧ Cond.privateMethod q.1 ∈ tables_1 ∧ Cond.instanceMethod q.1 ∈ tables_1
theorem lw_p0 : lw_okq (⟨"NewsWire", "refuse", "(I)I"⟩, 16) := ⟨⟨by decide +kernel, by decide +kernel⟩, List.mem_of_getElem? (i := 20) (by decide +kernel), List.mem_of_getElem? (i := 357) (by decide +kernel), List.mem_of_getElem? (i := 358) (by decide +kernel)⟩
theorem lw_p1 : lw_okq (⟨"NewsWire", "refusalOfPiece", "(IIII)I"⟩, 16) := ⟨⟨by decide +kernel, by decide +kernel⟩, List.mem_of_getElem? (i := 20) (by decide +kernel), List.mem_of_getElem? (i := 369) (by decide +kernel), List.mem_of_getElem? (i := 370) (by decide +kernel)⟩
theorem lw_p2 : lw_okq (⟨"NewsWire", "isPiece", "(I)Z"⟩, 16) := ⟨⟨by decide +kernel, by decide +kernel⟩, List.mem_of_getElem? (i := 20) (by decide +kernel), List.mem_of_getElem? (i := 383) (by decide +kernel), List.mem_of_getElem? (i := 384) (by decide +kernel)⟩
theorem lw_p3 : lw_okq (⟨"NewsWire$Rule", "compares", "(II)Z"⟩, 8) := ⟨⟨by decide +kernel, by decide +kernel⟩, List.mem_of_getElem? (i := 41) (by decide +kernel), List.mem_of_getElem? (i := 547) (by decide +kernel), List.mem_of_getElem? (i := 548) (by decide +kernel)⟩
theorem lw_p4 : lw_okq (⟨"NewsWire$Rules", "numberOfLatest", "(ILNewsWire$Piece;III)I"⟩, 2) := ⟨⟨by decide +kernel, by decide +kernel⟩, List.mem_of_getElem? (i := 34) (by decide +kernel), List.mem_of_getElem? (i := 559) (by decide +kernel), List.mem_of_getElem? (i := 560) (by decide +kernel)⟩
theorem lw_p5 : lw_okq (⟨"NewsWire", "isWire", "(I)Z"⟩, 16) := ⟨⟨by decide +kernel, by decide +kernel⟩, List.mem_of_getElem? (i := 20) (by decide +kernel), List.mem_of_getElem? (i := 576) (by decide +kernel), List.mem_of_getElem? (i := 577) (by decide +kernel)⟩
theorem lw_p6 : lw_okq (⟨"NewsWire", "isAnyWaiting", "()Z"⟩, 16) := ⟨⟨by decide +kernel, by decide +kernel⟩, List.mem_of_getElem? (i := 20) (by decide +kernel), List.mem_of_getElem? (i := 604) (by decide +kernel), List.mem_of_getElem? (i := 605) (by decide +kernel)⟩
theorem lw_p7 : lw_okq (⟨"NewsWire", "sendOneTick", "(I)V"⟩, 16) := ⟨⟨by decide +kernel, by decide +kernel⟩, List.mem_of_getElem? (i := 20) (by decide +kernel), List.mem_of_getElem? (i := 608) (by decide +kernel), List.mem_of_getElem? (i := 609) (by decide +kernel)⟩
theorem lw_p8 : lw_okq (⟨"NewsWire", "placeOfGreatest", "(LNewsWire$Wire;)I"⟩, 16) := ⟨⟨by decide +kernel, by decide +kernel⟩, List.mem_of_getElem? (i := 20) (by decide +kernel), List.mem_of_getElem? (i := 612) (by decide +kernel), List.mem_of_getElem? (i := 613) (by decide +kernel)⟩
theorem lw_p9 : lw_okq (⟨"NewsWire", "hearWord", "(LNewsWire$Wire;I)V"⟩, 16) := ⟨⟨by decide +kernel, by decide +kernel⟩, List.mem_of_getElem? (i := 20) (by decide +kernel), List.mem_of_getElem? (i := 616) (by decide +kernel), List.mem_of_getElem? (i := 617) (by decide +kernel)⟩
theorem lw_p10 : lw_okq (⟨"NewsWire", "isText", "(II)Z"⟩, 16) := ⟨⟨by decide +kernel, by decide +kernel⟩, List.mem_of_getElem? (i := 20) (by decide +kernel), List.mem_of_getElem? (i := 664) (by decide +kernel), List.mem_of_getElem? (i := 665) (by decide +kernel)⟩
theorem lw_p11 : lw_okq (⟨"NewsWire", "joinText", "(II)V"⟩, 16) := ⟨⟨by decide +kernel, by decide +kernel⟩, List.mem_of_getElem? (i := 20) (by decide +kernel), List.mem_of_getElem? (i := 668) (by decide +kernel), List.mem_of_getElem? (i := 669) (by decide +kernel)⟩
theorem lw_p12 : lw_okq (⟨"NewsWire$StoryText", "findThere", "(ILNewsWire$Paper;I)V"⟩, 10) := ⟨⟨by decide +kernel, by decide +kernel⟩, List.mem_of_getElem? (i := 105) (by decide +kernel), List.mem_of_getElem? (i := 676) (by decide +kernel), List.mem_of_getElem? (i := 677) (by decide +kernel)⟩
theorem lw_p13 : lw_okq (⟨"NewsWire$StoryText", "latestLead", "()I"⟩, 10) := ⟨⟨by decide +kernel, by decide +kernel⟩, List.mem_of_getElem? (i := 105) (by decide +kernel), List.mem_of_getElem? (i := 685) (by decide +kernel), List.mem_of_getElem? (i := 686) (by decide +kernel)⟩
theorem lw_p14 : lw_okq (⟨"NewsWire$StoryText", "isThere", "(I)Z"⟩, 10) := ⟨⟨by decide +kernel, by decide +kernel⟩, List.mem_of_getElem? (i := 105) (by decide +kernel), List.mem_of_getElem? (i := 689) (by decide +kernel), List.mem_of_getElem? (i := 690) (by decide +kernel)⟩
theorem lw_p15 : lw_okq (⟨"NewsWire$StoryText", "appendPiece", "(I)V"⟩, 10) := ⟨⟨by decide +kernel, by decide +kernel⟩, List.mem_of_getElem? (i := 105) (by decide +kernel), List.mem_of_getElem? (i := 693) (by decide +kernel), List.mem_of_getElem? (i := 694) (by decide +kernel)⟩
def lw_privs_1 : List (MethodName × Nat) := [(⟨"NewsWire", "refuse", "(I)I"⟩, 16), (⟨"NewsWire", "refusalOfPiece", "(IIII)I"⟩, 16), (⟨"NewsWire", "isPiece", "(I)Z"⟩, 16), (⟨"NewsWire$Rule", "compares", "(II)Z"⟩, 8), (⟨"NewsWire$Rules", "numberOfLatest", "(ILNewsWire$Piece;III)I"⟩, 2), (⟨"NewsWire", "isWire", "(I)Z"⟩, 16), (⟨"NewsWire", "isAnyWaiting", "()Z"⟩, 16), (⟨"NewsWire", "sendOneTick", "(I)V"⟩, 16), (⟨"NewsWire", "placeOfGreatest", "(LNewsWire$Wire;)I"⟩, 16), (⟨"NewsWire", "hearWord", "(LNewsWire$Wire;I)V"⟩, 16), (⟨"NewsWire", "isText", "(II)Z"⟩, 16), (⟨"NewsWire", "joinText", "(II)V"⟩, 16), (⟨"NewsWire$StoryText", "findThere", "(ILNewsWire$Paper;I)V"⟩, 10), (⟨"NewsWire$StoryText", "latestLead", "()I"⟩, 10), (⟨"NewsWire$StoryText", "isThere", "(I)Z"⟩, 10), (⟨"NewsWire$StoryText", "appendPiece", "(I)V"⟩, 10)]
theorem lw_r1 : ∀ q ∈ lw_privs_1, lw_okq q := List.forall_mem_cons.mpr ⟨lw_p0, List.forall_mem_cons.mpr ⟨lw_p1, List.forall_mem_cons.mpr ⟨lw_p2, List.forall_mem_cons.mpr ⟨lw_p3, List.forall_mem_cons.mpr ⟨lw_p4, List.forall_mem_cons.mpr ⟨lw_p5, List.forall_mem_cons.mpr ⟨lw_p6, List.forall_mem_cons.mpr ⟨lw_p7, List.forall_mem_cons.mpr ⟨lw_p8, List.forall_mem_cons.mpr ⟨lw_p9, List.forall_mem_cons.mpr ⟨lw_p10, List.forall_mem_cons.mpr ⟨lw_p11, List.forall_mem_cons.mpr ⟨lw_p12, List.forall_mem_cons.mpr ⟨lw_p13, List.forall_mem_cons.mpr ⟨lw_p14, List.forall_mem_cons.mpr ⟨lw_p15, fun _ h => absurd h List.not_mem_nil⟩⟩⟩⟩⟩⟩⟩⟩⟩⟩⟩⟩⟩⟩⟩⟩
theorem lw_p16 : lw_okq (⟨"NewsWire$StoryText", "mend", "(I)V"⟩, 10) := ⟨⟨by decide +kernel, by decide +kernel⟩, List.mem_of_getElem? (i := 105) (by decide +kernel), List.mem_of_getElem? (i := 697) (by decide +kernel), List.mem_of_getElem? (i := 698) (by decide +kernel)⟩
theorem lw_p17 : lw_okq (⟨"NewsWire$StoryText", "appendInserts", "(II)V"⟩, 10) := ⟨⟨by decide +kernel, by decide +kernel⟩, List.mem_of_getElem? (i := 105) (by decide +kernel), List.mem_of_getElem? (i := 701) (by decide +kernel), List.mem_of_getElem? (i := 702) (by decide +kernel)⟩
theorem lw_p18 : lw_okq (⟨"NewsWire$StoryText", "appendWord", "(II)V"⟩, 10) := ⟨⟨by decide +kernel, by decide +kernel⟩, List.mem_of_getElem? (i := 105) (by decide +kernel), List.mem_of_getElem? (i := 705) (by decide +kernel), List.mem_of_getElem? (i := 706) (by decide +kernel)⟩
theorem lw_p19 : lw_okq (⟨"NewsWire$StoryText", "latestOfPart", "(I)I"⟩, 10) := ⟨⟨by decide +kernel, by decide +kernel⟩, List.mem_of_getElem? (i := 105) (by decide +kernel), List.mem_of_getElem? (i := 709) (by decide +kernel), List.mem_of_getElem? (i := 710) (by decide +kernel)⟩
theorem lw_p20 : lw_okq (⟨"NewsWire$StoryText", "isPartBehind", "(I)Z"⟩, 10) := ⟨⟨by decide +kernel, by decide +kernel⟩, List.mem_of_getElem? (i := 105) (by decide +kernel), List.mem_of_getElem? (i := 714) (by decide +kernel), List.mem_of_getElem? (i := 715) (by decide +kernel)⟩
theorem lw_p21 : lw_okq (⟨"NewsWire", "isPlaceInText", "(III)Z"⟩, 16) := ⟨⟨by decide +kernel, by decide +kernel⟩, List.mem_of_getElem? (i := 20) (by decide +kernel), List.mem_of_getElem? (i := 722) (by decide +kernel), List.mem_of_getElem? (i := 723) (by decide +kernel)⟩
theorem lw_p22 : lw_okq (⟨"NewsWire", "setBehind", "(LNewsWire$Paper;)J"⟩, 16) := ⟨⟨by decide +kernel, by decide +kernel⟩, List.mem_of_getElem? (i := 20) (by decide +kernel), List.mem_of_getElem? (i := 742) (by decide +kernel), List.mem_of_getElem? (i := 743) (by decide +kernel)⟩
theorem lw_p23 : lw_okq (⟨"NewsWireModel", "refused", "(I)I"⟩, 58) := ⟨⟨by decide +kernel, by decide +kernel⟩, List.mem_of_getElem? (i := 807) (by decide +kernel), List.mem_of_getElem? (i := 995) (by decide +kernel), List.mem_of_getElem? (i := 996) (by decide +kernel)⟩
theorem lw_p24 : lw_okq (⟨"NewsWireModel", "isPiece", "(I)Z"⟩, 58) := ⟨⟨by decide +kernel, by decide +kernel⟩, List.mem_of_getElem? (i := 807) (by decide +kernel), List.mem_of_getElem? (i := 1007) (by decide +kernel), List.mem_of_getElem? (i := 1008) (by decide +kernel)⟩
theorem lw_p25 : lw_okq (⟨"NewsWireModel", "isOfPiece", "(III)Z"⟩, 58) := ⟨⟨by decide +kernel, by decide +kernel⟩, List.mem_of_getElem? (i := 807) (by decide +kernel), List.mem_of_getElem? (i := 1012) (by decide +kernel), List.mem_of_getElem? (i := 1013) (by decide +kernel)⟩
theorem lw_p26 : lw_okq (⟨"NewsWireModel", "readRule", "()V"⟩, 58) := ⟨⟨by decide +kernel, by decide +kernel⟩, List.mem_of_getElem? (i := 807) (by decide +kernel), List.mem_of_getElem? (i := 1036) (by decide +kernel), List.mem_of_getElem? (i := 1037) (by decide +kernel)⟩
theorem lw_p27 : lw_okq (⟨"NewsWireModel", "keyHere", "()I"⟩, 58) := ⟨⟨by decide +kernel, by decide +kernel⟩, List.mem_of_getElem? (i := 807) (by decide +kernel), List.mem_of_getElem? (i := 1040) (by decide +kernel), List.mem_of_getElem? (i := 1041) (by decide +kernel)⟩
theorem lw_p28 : lw_okq (⟨"NewsWireModel", "here", "()I"⟩, 58) := ⟨⟨by decide +kernel, by decide +kernel⟩, List.mem_of_getElem? (i := 807) (by decide +kernel), List.mem_of_getElem? (i := 1044) (by decide +kernel), List.mem_of_getElem? (i := 1045) (by decide +kernel)⟩
theorem lw_p29 : lw_okq (⟨"NewsWireModel", "letters", "(J)V"⟩, 58) := ⟨⟨by decide +kernel, by decide +kernel⟩, List.mem_of_getElem? (i := 807) (by decide +kernel), List.mem_of_getElem? (i := 1052) (by decide +kernel), List.mem_of_getElem? (i := 1053) (by decide +kernel)⟩
theorem lw_p30 : lw_okq (⟨"NewsWireModel", "one", "(I)V"⟩, 58) := ⟨⟨by decide +kernel, by decide +kernel⟩, List.mem_of_getElem? (i := 807) (by decide +kernel), List.mem_of_getElem? (i := 1057) (by decide +kernel), List.mem_of_getElem? (i := 1058) (by decide +kernel)⟩
theorem lw_p31 : lw_okq (⟨"NewsWireModel", "numberHere", "()I"⟩, 58) := ⟨⟨by decide +kernel, by decide +kernel⟩, List.mem_of_getElem? (i := 807) (by decide +kernel), List.mem_of_getElem? (i := 1061) (by decide +kernel), List.mem_of_getElem? (i := 1062) (by decide +kernel)⟩
def lw_privs_2 : List (MethodName × Nat) := [(⟨"NewsWire$StoryText", "mend", "(I)V"⟩, 10), (⟨"NewsWire$StoryText", "appendInserts", "(II)V"⟩, 10), (⟨"NewsWire$StoryText", "appendWord", "(II)V"⟩, 10), (⟨"NewsWire$StoryText", "latestOfPart", "(I)I"⟩, 10), (⟨"NewsWire$StoryText", "isPartBehind", "(I)Z"⟩, 10), (⟨"NewsWire", "isPlaceInText", "(III)Z"⟩, 16), (⟨"NewsWire", "setBehind", "(LNewsWire$Paper;)J"⟩, 16), (⟨"NewsWireModel", "refused", "(I)I"⟩, 58), (⟨"NewsWireModel", "isPiece", "(I)Z"⟩, 58), (⟨"NewsWireModel", "isOfPiece", "(III)Z"⟩, 58), (⟨"NewsWireModel", "readRule", "()V"⟩, 58), (⟨"NewsWireModel", "keyHere", "()I"⟩, 58), (⟨"NewsWireModel", "here", "()I"⟩, 58), (⟨"NewsWireModel", "letters", "(J)V"⟩, 58), (⟨"NewsWireModel", "one", "(I)V"⟩, 58), (⟨"NewsWireModel", "numberHere", "()I"⟩, 58)]
theorem lw_r2 : ∀ q ∈ lw_privs_2, lw_okq q := List.forall_mem_cons.mpr ⟨lw_p16, List.forall_mem_cons.mpr ⟨lw_p17, List.forall_mem_cons.mpr ⟨lw_p18, List.forall_mem_cons.mpr ⟨lw_p19, List.forall_mem_cons.mpr ⟨lw_p20, List.forall_mem_cons.mpr ⟨lw_p21, List.forall_mem_cons.mpr ⟨lw_p22, List.forall_mem_cons.mpr ⟨lw_p23, List.forall_mem_cons.mpr ⟨lw_p24, List.forall_mem_cons.mpr ⟨lw_p25, List.forall_mem_cons.mpr ⟨lw_p26, List.forall_mem_cons.mpr ⟨lw_p27, List.forall_mem_cons.mpr ⟨lw_p28, List.forall_mem_cons.mpr ⟨lw_p29, List.forall_mem_cons.mpr ⟨lw_p30, List.forall_mem_cons.mpr ⟨lw_p31, fun _ h => absurd h List.not_mem_nil⟩⟩⟩⟩⟩⟩⟩⟩⟩⟩⟩⟩⟩⟩⟩⟩
theorem lw_p32 : lw_okq (⟨"NewsWireModel", "testHere", "()V"⟩, 58) := ⟨⟨by decide +kernel, by decide +kernel⟩, List.mem_of_getElem? (i := 807) (by decide +kernel), List.mem_of_getElem? (i := 1065) (by decide +kernel), List.mem_of_getElem? (i := 1066) (by decide +kernel)⟩
theorem lw_p33 : lw_okq (⟨"NewsWireModel", "fieldHere", "()I"⟩, 58) := ⟨⟨by decide +kernel, by decide +kernel⟩, List.mem_of_getElem? (i := 807) (by decide +kernel), List.mem_of_getElem? (i := 1069) (by decide +kernel), List.mem_of_getElem? (i := 1070) (by decide +kernel)⟩
theorem lw_p34 : lw_okq (⟨"NewsWireModel", "holdsFor", "(III)Z"⟩, 58) := ⟨⟨by decide +kernel, by decide +kernel⟩, List.mem_of_getElem? (i := 807) (by decide +kernel), List.mem_of_getElem? (i := 1077) (by decide +kernel), List.mem_of_getElem? (i := 1078) (by decide +kernel)⟩
theorem lw_p35 : lw_okq (⟨"NewsWireModel", "valueOf", "(III)I"⟩, 58) := ⟨⟨by decide +kernel, by decide +kernel⟩, List.mem_of_getElem? (i := 807) (by decide +kernel), List.mem_of_getElem? (i := 1081) (by decide +kernel), List.mem_of_getElem? (i := 1082) (by decide +kernel)⟩
theorem lw_p36 : lw_okq (⟨"NewsWireModel", "rankOf", "(I)I"⟩, 58) := ⟨⟨by decide +kernel, by decide +kernel⟩, List.mem_of_getElem? (i := 807) (by decide +kernel), List.mem_of_getElem? (i := 1089) (by decide +kernel), List.mem_of_getElem? (i := 1090) (by decide +kernel)⟩
theorem lw_p37 : lw_okq (⟨"NewsWireModel", "isBarred", "(II)Z"⟩, 58) := ⟨⟨by decide +kernel, by decide +kernel⟩, List.mem_of_getElem? (i := 807) (by decide +kernel), List.mem_of_getElem? (i := 1100) (by decide +kernel), List.mem_of_getElem? (i := 1101) (by decide +kernel)⟩
theorem lw_p38 : lw_okq (⟨"NewsWireModel", "isWire", "(I)Z"⟩, 58) := ⟨⟨by decide +kernel, by decide +kernel⟩, List.mem_of_getElem? (i := 807) (by decide +kernel), List.mem_of_getElem? (i := 1108) (by decide +kernel), List.mem_of_getElem? (i := 1109) (by decide +kernel)⟩
theorem lw_p39 : lw_okq (⟨"NewsWireModel", "waiting", "(I)I"⟩, 58) := ⟨⟨by decide +kernel, by decide +kernel⟩, List.mem_of_getElem? (i := 807) (by decide +kernel), List.mem_of_getElem? (i := 1112) (by decide +kernel), List.mem_of_getElem? (i := 1113) (by decide +kernel)⟩
theorem lw_p40 : lw_okq (⟨"NewsWireModel", "isGarbled", "(II)Z"⟩, 58) := ⟨⟨by decide +kernel, by decide +kernel⟩, List.mem_of_getElem? (i := 807) (by decide +kernel), List.mem_of_getElem? (i := 1120) (by decide +kernel), List.mem_of_getElem? (i := 1121) (by decide +kernel)⟩
theorem lw_p41 : lw_okq (⟨"NewsWireModel", "nextOn", "(I)I"⟩, 58) := ⟨⟨by decide +kernel, by decide +kernel⟩, List.mem_of_getElem? (i := 807) (by decide +kernel), List.mem_of_getElem? (i := 1128) (by decide +kernel), List.mem_of_getElem? (i := 1129) (by decide +kernel)⟩
theorem lw_p42 : lw_okq (⟨"NewsWireModel", "hear", "(II)V"⟩, 58) := ⟨⟨by decide +kernel, by decide +kernel⟩, List.mem_of_getElem? (i := 807) (by decide +kernel), List.mem_of_getElem? (i := 1132) (by decide +kernel), List.mem_of_getElem? (i := 1133) (by decide +kernel)⟩
theorem lw_p43 : lw_okq (⟨"NewsWireModel", "costOf", "(II)I"⟩, 58) := ⟨⟨by decide +kernel, by decide +kernel⟩, List.mem_of_getElem? (i := 807) (by decide +kernel), List.mem_of_getElem? (i := 1136) (by decide +kernel), List.mem_of_getElem? (i := 1137) (by decide +kernel)⟩
theorem lw_p44 : lw_okq (⟨"NewsWireModel", "forget", "()V"⟩, 58) := ⟨⟨by decide +kernel, by decide +kernel⟩, List.mem_of_getElem? (i := 807) (by decide +kernel), List.mem_of_getElem? (i := 1140) (by decide +kernel), List.mem_of_getElem? (i := 1141) (by decide +kernel)⟩
theorem lw_p45 : lw_okq (⟨"NewsWireModel", "isText", "(II)Z"⟩, 58) := ⟨⟨by decide +kernel, by decide +kernel⟩, List.mem_of_getElem? (i := 807) (by decide +kernel), List.mem_of_getElem? (i := 1164) (by decide +kernel), List.mem_of_getElem? (i := 1165) (by decide +kernel)⟩
theorem lw_p46 : lw_okq (⟨"NewsWireModel", "make", "(II)V"⟩, 58) := ⟨⟨by decide +kernel, by decide +kernel⟩, List.mem_of_getElem? (i := 807) (by decide +kernel), List.mem_of_getElem? (i := 1168) (by decide +kernel), List.mem_of_getElem? (i := 1169) (by decide +kernel)⟩
theorem lw_p47 : lw_okq (⟨"NewsWireModel", "layAll", "(III)V"⟩, 58) := ⟨⟨by decide +kernel, by decide +kernel⟩, List.mem_of_getElem? (i := 807) (by decide +kernel), List.mem_of_getElem? (i := 1172) (by decide +kernel), List.mem_of_getElem? (i := 1173) (by decide +kernel)⟩
def lw_privs_3 : List (MethodName × Nat) := [(⟨"NewsWireModel", "testHere", "()V"⟩, 58), (⟨"NewsWireModel", "fieldHere", "()I"⟩, 58), (⟨"NewsWireModel", "holdsFor", "(III)Z"⟩, 58), (⟨"NewsWireModel", "valueOf", "(III)I"⟩, 58), (⟨"NewsWireModel", "rankOf", "(I)I"⟩, 58), (⟨"NewsWireModel", "isBarred", "(II)Z"⟩, 58), (⟨"NewsWireModel", "isWire", "(I)Z"⟩, 58), (⟨"NewsWireModel", "waiting", "(I)I"⟩, 58), (⟨"NewsWireModel", "isGarbled", "(II)Z"⟩, 58), (⟨"NewsWireModel", "nextOn", "(I)I"⟩, 58), (⟨"NewsWireModel", "hear", "(II)V"⟩, 58), (⟨"NewsWireModel", "costOf", "(II)I"⟩, 58), (⟨"NewsWireModel", "forget", "()V"⟩, 58), (⟨"NewsWireModel", "isText", "(II)Z"⟩, 58), (⟨"NewsWireModel", "make", "(II)V"⟩, 58), (⟨"NewsWireModel", "layAll", "(III)V"⟩, 58)]
theorem lw_r3 : ∀ q ∈ lw_privs_3, lw_okq q := List.forall_mem_cons.mpr ⟨lw_p32, List.forall_mem_cons.mpr ⟨lw_p33, List.forall_mem_cons.mpr ⟨lw_p34, List.forall_mem_cons.mpr ⟨lw_p35, List.forall_mem_cons.mpr ⟨lw_p36, List.forall_mem_cons.mpr ⟨lw_p37, List.forall_mem_cons.mpr ⟨lw_p38, List.forall_mem_cons.mpr ⟨lw_p39, List.forall_mem_cons.mpr ⟨lw_p40, List.forall_mem_cons.mpr ⟨lw_p41, List.forall_mem_cons.mpr ⟨lw_p42, List.forall_mem_cons.mpr ⟨lw_p43, List.forall_mem_cons.mpr ⟨lw_p44, List.forall_mem_cons.mpr ⟨lw_p45, List.forall_mem_cons.mpr ⟨lw_p46, List.forall_mem_cons.mpr ⟨lw_p47, fun _ h => absurd h List.not_mem_nil⟩⟩⟩⟩⟩⟩⟩⟩⟩⟩⟩⟩⟩⟩⟩⟩
theorem lw_p48 : lw_okq (⟨"NewsWireModel", "latest", "(IIII)I"⟩, 58) := ⟨⟨by decide +kernel, by decide +kernel⟩, List.mem_of_getElem? (i := 807) (by decide +kernel), List.mem_of_getElem? (i := 1176) (by decide +kernel), List.mem_of_getElem? (i := 1177) (by decide +kernel)⟩
theorem lw_p49 : lw_okq (⟨"NewsWireModel", "isThere", "(III)Z"⟩, 58) := ⟨⟨by decide +kernel, by decide +kernel⟩, List.mem_of_getElem? (i := 807) (by decide +kernel), List.mem_of_getElem? (i := 1180) (by decide +kernel), List.mem_of_getElem? (i := 1181) (by decide +kernel)⟩
theorem lw_p50 : lw_okq (⟨"NewsWireModel", "has", "(III)Z"⟩, 58) := ⟨⟨by decide +kernel, by decide +kernel⟩, List.mem_of_getElem? (i := 807) (by decide +kernel), List.mem_of_getElem? (i := 1184) (by decide +kernel), List.mem_of_getElem? (i := 1185) (by decide +kernel)⟩
theorem lw_p51 : lw_okq (⟨"NewsWireModel", "lay", "(III)V"⟩, 58) := ⟨⟨by decide +kernel, by decide +kernel⟩, List.mem_of_getElem? (i := 807) (by decide +kernel), List.mem_of_getElem? (i := 1188) (by decide +kernel), List.mem_of_getElem? (i := 1189) (by decide +kernel)⟩
theorem lw_p52 : lw_okq (⟨"NewsWireModel", "put", "(II)V"⟩, 58) := ⟨⟨by decide +kernel, by decide +kernel⟩, List.mem_of_getElem? (i := 807) (by decide +kernel), List.mem_of_getElem? (i := 1192) (by decide +kernel), List.mem_of_getElem? (i := 1193) (by decide +kernel)⟩
theorem lw_p53 : lw_okq (⟨"NewsWireModel", "isBehind", "(II)Z"⟩, 58) := ⟨⟨by decide +kernel, by decide +kernel⟩, List.mem_of_getElem? (i := 807) (by decide +kernel), List.mem_of_getElem? (i := 1212) (by decide +kernel), List.mem_of_getElem? (i := 1213) (by decide +kernel)⟩
def lw_privs_4 : List (MethodName × Nat) := [(⟨"NewsWireModel", "latest", "(IIII)I"⟩, 58), (⟨"NewsWireModel", "isThere", "(III)Z"⟩, 58), (⟨"NewsWireModel", "has", "(III)Z"⟩, 58), (⟨"NewsWireModel", "lay", "(III)V"⟩, 58), (⟨"NewsWireModel", "put", "(II)V"⟩, 58), (⟨"NewsWireModel", "isBehind", "(II)Z"⟩, 58)]
theorem lw_r4 : ∀ q ∈ lw_privs_4, lw_okq q := List.forall_mem_cons.mpr ⟨lw_p48, List.forall_mem_cons.mpr ⟨lw_p49, List.forall_mem_cons.mpr ⟨lw_p50, List.forall_mem_cons.mpr ⟨lw_p51, List.forall_mem_cons.mpr ⟨lw_p52, List.forall_mem_cons.mpr ⟨lw_p53, fun _ h => absurd h List.not_mem_nil⟩⟩⟩⟩⟩⟩
def lw_privs : List (MethodName × Nat) := lw_privs_1 ++ (lw_privs_2 ++ (lw_privs_3 ++ (lw_privs_4)))
def lw_tbl : List Cond := k2_sels lw_privs ++ tables_1
theorem lw_privs_ok : ∀ q ∈ lw_privs, lw_okq q := by
  show ∀ q ∈ lw_privs_1 ++ (lw_privs_2 ++ (lw_privs_3 ++ (lw_privs_4))), lw_okq q
  exact List.forall_mem_append.mpr ⟨lw_r1, List.forall_mem_append.mpr ⟨lw_r2, List.forall_mem_append.mpr ⟨lw_r3, lw_r4⟩⟩⟩

/-- the words of the tables that any state behind keeps -/
def TW : List Cond := lw_tbl.filter goodWord
def tw_ok (w : Cond) (i : Nat) : Bool := match lw_tbl[i]? with
  | some v => decide (v = w) && goodWord w
  | none => false
theorem tw_i {w : Cond} (i : Nat) (h : tw_ok w i = true) : w ∈ TW := by
  unfold tw_ok at h
  split at h
  · rename_i v hv
    simp only [Bool.and_eq_true, decide_eq_true_eq] at h
    obtain ⟨rfl, h2⟩ := h
    exact List.mem_filter.mpr ⟨List.mem_of_getElem? hv, h2⟩
  · cases h
theorem tw_good : ∀ w ∈ TW, w ∈ lw_tbl ∧ goodWord w = true := fun _ h => List.mem_filter.mp h

def n_c0 : String := "NewsWire$Choice"
def f_c0 : u_T := fun k => match k with
  | 0 => ("NewsWire$Choice", "sums", "[I", true)
  | 1 => ("NewsWire$Choice", "sets", "[I", true)
  | 2 => ("NewsWire$Choice", "bestSum", "I", false)
  | _ => ("NewsWire$Choice", "bestSet", "I", false)
def y_c0 : Nat → FieldType := fun k => match k with
  | 0 => .array .int
  | 1 => .array .int
  | 2 => .int
  | _ => .int
theorem nm_c0 : ∀ a, a < 4 → ∀ b, b < 4 → a ≠ b → (f_c0 a).2.1 ≠ (f_c0 b).2.1 := by decide +kernel
theorem ty_c0 : ∀ k, k < 4 → parseFieldDescriptor (f_c0 k).2.2.1 = some (y_c0 k) := by decide +kernel
theorem in_c0 : ∀ w ∈ u_ws n_c0 f_c0 4, w ∈ TW := by
  have h : ((u_ws n_c0 f_c0 4).all fun w => decide (w ∈ lw_tbl) && goodWord w) = true := by decide +kernel
  intro w hw
  have h1 := List.all_eq_true.mp h w hw
  simp only [Bool.and_eq_true, decide_eq_true_eq] at h1
  exact List.mem_filter.mpr h1
def n_c1 : String := "NewsWire$Garbles"
def f_c1 : u_T := fun k => match k with
  | 0 => ("NewsWire$Garbles", "wires", "[I", true)
  | 1 => ("NewsWire$Garbles", "ticks", "[I", true)
  | _ => ("NewsWire$Garbles", "count", "I", false)
def y_c1 : Nat → FieldType := fun k => match k with
  | 0 => .array .int
  | 1 => .array .int
  | _ => .int
theorem nm_c1 : ∀ a, a < 3 → ∀ b, b < 3 → a ≠ b → (f_c1 a).2.1 ≠ (f_c1 b).2.1 := by decide +kernel
theorem ty_c1 : ∀ k, k < 3 → parseFieldDescriptor (f_c1 k).2.2.1 = some (y_c1 k) := by decide +kernel
theorem in_c1 : ∀ w ∈ u_ws n_c1 f_c1 3, w ∈ TW := by
  have h : ((u_ws n_c1 f_c1 3).all fun w => decide (w ∈ lw_tbl) && goodWord w) = true := by decide +kernel
  intro w hw
  have h1 := List.all_eq_true.mp h w hw
  simp only [Bool.and_eq_true, decide_eq_true_eq] at h1
  exact List.mem_filter.mpr h1
def n_c2 : String := "NewsWire$Paper"
def f_c2 : u_T := fun k => match k with
  | 0 => ("NewsWire$Paper", "hasSince", "[I", true)
  | 1 => ("NewsWire$Paper", "charged", "I", false)
  | 2 => ("NewsWire$Paper", "editionTick", "I", false)
  | 3 => ("NewsWire$Paper", "editionWords", "I", false)
  | _ => ("NewsWire$Paper", "editionBringers", "J", false)
def y_c2 : Nat → FieldType := fun k => match k with
  | 0 => .array .int
  | 1 => .int
  | 2 => .int
  | 3 => .int
  | _ => .long
theorem nm_c2 : ∀ a, a < 5 → ∀ b, b < 5 → a ≠ b → (f_c2 a).2.1 ≠ (f_c2 b).2.1 := by decide +kernel
theorem ty_c2 : ∀ k, k < 5 → parseFieldDescriptor (f_c2 k).2.2.1 = some (y_c2 k) := by decide +kernel
theorem in_c2 : ∀ w ∈ u_ws n_c2 f_c2 5, w ∈ TW := by
  have h : ((u_ws n_c2 f_c2 5).all fun w => decide (w ∈ lw_tbl) && goodWord w) = true := by decide +kernel
  intro w hw
  have h1 := List.all_eq_true.mp h w hw
  simp only [Bool.and_eq_true, decide_eq_true_eq] at h1
  exact List.mem_filter.mpr h1
def n_c3 : String := "NewsWire$Piece"
def f_c3 : u_T := fun k => match k with
  | 0 => ("NewsWire$Piece", "words", "[I", true)
  | 1 => ("NewsWire$Piece", "kind", "I", false)
  | 2 => ("NewsWire$Piece", "story", "I", false)
  | 3 => ("NewsWire$Piece", "bureau", "I", false)
  | 4 => ("NewsWire$Piece", "rank", "I", false)
  | 5 => ("NewsWire$Piece", "size", "I", false)
  | 6 => ("NewsWire$Piece", "x", "I", false)
  | _ => ("NewsWire$Piece", "y", "I", false)
def y_c3 : Nat → FieldType := fun k => match k with
  | 0 => .array .int
  | 1 => .int
  | 2 => .int
  | 3 => .int
  | 4 => .int
  | 5 => .int
  | 6 => .int
  | _ => .int
theorem nm_c3 : ∀ a, a < 8 → ∀ b, b < 8 → a ≠ b → (f_c3 a).2.1 ≠ (f_c3 b).2.1 := by decide +kernel
theorem ty_c3 : ∀ k, k < 8 → parseFieldDescriptor (f_c3 k).2.2.1 = some (y_c3 k) := by decide +kernel
theorem in_c3 : ∀ w ∈ u_ws n_c3 f_c3 8, w ∈ TW := by
  have h : ((u_ws n_c3 f_c3 8).all fun w => decide (w ∈ lw_tbl) && goodWord w) = true := by decide +kernel
  intro w hw
  have h1 := List.all_eq_true.mp h w hw
  simp only [Bool.and_eq_true, decide_eq_true_eq] at h1
  exact List.mem_filter.mpr h1
def n_c4 : String := "NewsWire$Row"
def f_c4 : u_T := fun k => match k with
  | 0 => ("NewsWire$Row", "numbers", "[I", true)
  | _ => ("NewsWire$Row", "size", "I", false)
def y_c4 : Nat → FieldType := fun k => match k with
  | 0 => .array .int
  | _ => .int
theorem nm_c4 : ∀ a, a < 2 → ∀ b, b < 2 → a ≠ b → (f_c4 a).2.1 ≠ (f_c4 b).2.1 := by decide +kernel
theorem ty_c4 : ∀ k, k < 2 → parseFieldDescriptor (f_c4 k).2.2.1 = some (y_c4 k) := by decide +kernel
theorem in_c4 : ∀ w ∈ u_ws n_c4 f_c4 2, w ∈ TW := by
  have h : ((u_ws n_c4 f_c4 2).all fun w => decide (w ∈ lw_tbl) && goodWord w) = true := by decide +kernel
  intro w hw
  have h1 := List.all_eq_true.mp h w hw
  simp only [Bool.and_eq_true, decide_eq_true_eq] at h1
  exact List.mem_filter.mpr h1
def n_c5 : String := "NewsWire$Rule"
def f_c5 : u_T := fun k => match k with
  | 0 => ("NewsWire$Rule", "fields", "[I", true)
  | 1 => ("NewsWire$Rule", "signs", "[I", true)
  | 2 => ("NewsWire$Rule", "bounds", "[I", true)
  | 3 => ("NewsWire$Rule", "tests", "I", false)
  | 4 => ("NewsWire$Rule", "key", "I", false)
  | 5 => ("NewsWire$Rule", "number", "I", false)
  | 6 => ("NewsWire$Rule", "from", "I", false)
  | _ => ("NewsWire$Rule", "to", "I", false)
def y_c5 : Nat → FieldType := fun k => match k with
  | 0 => .array .int
  | 1 => .array .int
  | 2 => .array .int
  | 3 => .int
  | 4 => .int
  | 5 => .int
  | 6 => .int
  | _ => .int
theorem nm_c5 : ∀ a, a < 8 → ∀ b, b < 8 → a ≠ b → (f_c5 a).2.1 ≠ (f_c5 b).2.1 := by decide +kernel
theorem ty_c5 : ∀ k, k < 8 → parseFieldDescriptor (f_c5 k).2.2.1 = some (y_c5 k) := by decide +kernel
theorem in_c5 : ∀ w ∈ u_ws n_c5 f_c5 8, w ∈ TW := by
  have h : ((u_ws n_c5 f_c5 8).all fun w => decide (w ∈ lw_tbl) && goodWord w) = true := by decide +kernel
  intro w hw
  have h1 := List.all_eq_true.mp h w hw
  simp only [Bool.and_eq_true, decide_eq_true_eq] at h1
  exact List.mem_filter.mpr h1
def n_c6 : String := "NewsWire$Rules"
def f_c6 : u_T := fun k => match k with
  | 0 => ("NewsWire$Rules", "all", "[LNewsWire$Rule;", true)
  | _ => ("NewsWire$Rules", "count", "I", false)
def y_c6 : Nat → FieldType := fun k => match k with
  | 0 => .array (.object "NewsWire$Rule")
  | _ => .int
theorem nm_c6 : ∀ a, a < 2 → ∀ b, b < 2 → a ≠ b → (f_c6 a).2.1 ≠ (f_c6 b).2.1 := by decide +kernel
theorem ty_c6 : ∀ k, k < 2 → parseFieldDescriptor (f_c6 k).2.2.1 = some (y_c6 k) := by decide +kernel
theorem in_c6 : ∀ w ∈ u_ws n_c6 f_c6 2, w ∈ TW := by
  have h : ((u_ws n_c6 f_c6 2).all fun w => decide (w ∈ lw_tbl) && goodWord w) = true := by decide +kernel
  intro w hw
  have h1 := List.all_eq_true.mp h w hw
  simp only [Bool.and_eq_true, decide_eq_true_eq] at h1
  exact List.mem_filter.mpr h1
def n_c7 : String := "NewsWire$StoryText"
def f_c7 : u_T := fun k => match k with
  | 0 => ("NewsWire$StoryText", "words", "[I", true)
  | 1 => ("NewsWire$StoryText", "bringers", "[I", true)
  | 2 => ("NewsWire$StoryText", "pieces", "[LNewsWire$Piece;", false)
  | 3 => ("NewsWire$StoryText", "mended", "[I", true)
  | 4 => ("NewsWire$StoryText", "menders", "[I", true)
  | 5 => ("NewsWire$StoryText", "there", "J", false)
  | 6 => ("NewsWire$StoryText", "length", "I", false)
  | 7 => ("NewsWire$StoryText", "lead", "I", false)
  | 8 => ("NewsWire$StoryText", "gap", "I", false)
  | _ => ("NewsWire$StoryText", "parts", "I", false)
def y_c7 : Nat → FieldType := fun k => match k with
  | 0 => .array .int
  | 1 => .array .int
  | 2 => .array (.object "NewsWire$Piece")
  | 3 => .array .int
  | 4 => .array .int
  | 5 => .long
  | 6 => .int
  | 7 => .int
  | 8 => .int
  | _ => .int
theorem nm_c7 : ∀ a, a < 10 → ∀ b, b < 10 → a ≠ b → (f_c7 a).2.1 ≠ (f_c7 b).2.1 := by decide +kernel
theorem ty_c7 : ∀ k, k < 10 → parseFieldDescriptor (f_c7 k).2.2.1 = some (y_c7 k) := by decide +kernel
theorem in_c7 : ∀ w ∈ u_ws n_c7 f_c7 10, w ∈ TW := by
  have h : ((u_ws n_c7 f_c7 10).all fun w => decide (w ∈ lw_tbl) && goodWord w) = true := by decide +kernel
  intro w hw
  have h1 := List.all_eq_true.mp h w hw
  simp only [Bool.and_eq_true, decide_eq_true_eq] at h1
  exact List.mem_filter.mpr h1
def n_c8 : String := "NewsWire$Tape"
def f_c8 : u_T := fun k => match k with
  | 0 => ("NewsWire$Tape", "bytes", "[I", true)
  | 1 => ("NewsWire$Tape", "length", "I", false)
  | 2 => ("NewsWire$Tape", "at", "I", false)
  | _ => ("NewsWire$Tape", "fault", "I", false)
def y_c8 : Nat → FieldType := fun k => match k with
  | 0 => .array .int
  | 1 => .int
  | 2 => .int
  | _ => .int
theorem nm_c8 : ∀ a, a < 4 → ∀ b, b < 4 → a ≠ b → (f_c8 a).2.1 ≠ (f_c8 b).2.1 := by decide +kernel
theorem ty_c8 : ∀ k, k < 4 → parseFieldDescriptor (f_c8 k).2.2.1 = some (y_c8 k) := by decide +kernel
theorem in_c8 : ∀ w ∈ u_ws n_c8 f_c8 4, w ∈ TW := by
  have h : ((u_ws n_c8 f_c8 4).all fun w => decide (w ∈ lw_tbl) && goodWord w) = true := by decide +kernel
  intro w hw
  have h1 := List.all_eq_true.mp h w hw
  simp only [Bool.and_eq_true, decide_eq_true_eq] at h1
  exact List.mem_filter.mpr h1
def n_c9 : String := "NewsWire$Wire"
def f_c9 : u_T := fun k => match k with
  | 0 => ("NewsWire$Wire", "queue", "[I", true)
  | 1 => ("NewsWire$Wire", "heard", "[I", true)
  | 2 => ("NewsWire$Wire", "doneIn", "[I", true)
  | 3 => ("NewsWire$Wire", "waiting", "I", false)
  | 4 => ("NewsWire$Wire", "bureau", "I", false)
  | 5 => ("NewsWire$Wire", "papers", "I", false)
  | _ => ("NewsWire$Wire", "speed", "I", false)
def y_c9 : Nat → FieldType := fun k => match k with
  | 0 => .array .int
  | 1 => .array .int
  | 2 => .array .int
  | 3 => .int
  | 4 => .int
  | 5 => .int
  | _ => .int
theorem nm_c9 : ∀ a, a < 7 → ∀ b, b < 7 → a ≠ b → (f_c9 a).2.1 ≠ (f_c9 b).2.1 := by decide +kernel
theorem ty_c9 : ∀ k, k < 7 → parseFieldDescriptor (f_c9 k).2.2.1 = some (y_c9 k) := by decide +kernel
theorem in_c9 : ∀ w ∈ u_ws n_c9 f_c9 7, w ∈ TW := by
  have h : ((u_ws n_c9 f_c9 7).all fun w => decide (w ∈ lw_tbl) && goodWord w) = true := by decide +kernel
  intro w hw
  have h1 := List.all_eq_true.mp h w hw
  simp only [Bool.and_eq_true, decide_eq_true_eq] at h1
  exact List.mem_filter.mpr h1
def n_c10 : String := "NewsWire"
def f_c10 : u_T := fun k => match k with
  | 0 => ("NewsWire", "wires", "[LNewsWire$Wire;", true)
  | 1 => ("NewsWire", "pieces", "[LNewsWire$Piece;", true)
  | 2 => ("NewsWire", "papers", "[LNewsWire$Paper;", true)
  | 3 => ("NewsWire", "rules", "LNewsWire$Rules;", true)
  | 4 => ("NewsWire", "garbles", "LNewsWire$Garbles;", true)
  | 5 => ("NewsWire", "storyText", "LNewsWire$StoryText;", true)
  | 6 => ("NewsWire", "choice", "LNewsWire$Choice;", true)
  | 7 => ("NewsWire", "tape", "LNewsWire$Tape;", true)
  | 8 => ("NewsWire", "row", "LNewsWire$Row;", true)
  | 9 => ("NewsWire", "refusals", "[I", true)
  | 10 => ("NewsWire", "wireCount", "I", false)
  | 11 => ("NewsWire", "pieceCount", "I", false)
  | 12 => ("NewsWire", "openTick", "I", false)
  | 13 => ("NewsWire", "wordsSent", "I", false)
  | 14 => ("NewsWire", "wordsHeard", "I", false)
  | _ => ("NewsWire", "latestPlan", "I", false)
def y_c10 : Nat → FieldType := fun k => match k with
  | 0 => .array (.object "NewsWire$Wire")
  | 1 => .array (.object "NewsWire$Piece")
  | 2 => .array (.object "NewsWire$Paper")
  | 3 => .object "NewsWire$Rules"
  | 4 => .object "NewsWire$Garbles"
  | 5 => .object "NewsWire$StoryText"
  | 6 => .object "NewsWire$Choice"
  | 7 => .object "NewsWire$Tape"
  | 8 => .object "NewsWire$Row"
  | 9 => .array .int
  | 10 => .int
  | 11 => .int
  | 12 => .int
  | 13 => .int
  | 14 => .int
  | _ => .int
theorem nm_c10 : ∀ a, a < 16 → ∀ b, b < 16 → a ≠ b → (f_c10 a).2.1 ≠ (f_c10 b).2.1 := by decide +kernel
theorem ty_c10 : ∀ k, k < 16 → parseFieldDescriptor (f_c10 k).2.2.1 = some (y_c10 k) := by decide +kernel
theorem in_c10 : ∀ w ∈ u_ws n_c10 f_c10 16, w ∈ TW := by
  have h : ((u_ws n_c10 f_c10 16).all fun w => decide (w ∈ lw_tbl) && goodWord w) = true := by decide +kernel
  intro w hw
  have h1 := List.all_eq_true.mp h w hw
  simp only [Bool.and_eq_true, decide_eq_true_eq] at h1
  exact List.mem_filter.mpr h1
def n_c11 : String := "NewsWireModel"
def f_c11 : u_T := fun k => match k with
  | 0 => ("NewsWireModel", "thrown", "I", false)
  | 1 => ("NewsWireModel", "refusals", "[I", true)
  | 2 => ("NewsWireModel", "wires", "I", false)
  | 3 => ("NewsWireModel", "wireBureau", "[I", true)
  | 4 => ("NewsWireModel", "wirePapers", "[I", true)
  | 5 => ("NewsWireModel", "speed", "[I", true)
  | 6 => ("NewsWireModel", "pieces", "I", false)
  | 7 => ("NewsWireModel", "kind", "[I", true)
  | 8 => ("NewsWireModel", "story", "[I", true)
  | 9 => ("NewsWireModel", "bureau", "[I", true)
  | 10 => ("NewsWireModel", "told", "[I", true)
  | 11 => ("NewsWireModel", "size", "[I", true)
  | 12 => ("NewsWireModel", "argX", "[I", true)
  | 13 => ("NewsWireModel", "argY", "[I", true)
  | 14 => ("NewsWireModel", "words", "[I", true)
  | 15 => ("NewsWireModel", "numbers", "I", false)
  | 16 => ("NewsWireModel", "row", "[I", true)
  | 17 => ("NewsWireModel", "rules", "I", false)
  | 18 => ("NewsWireModel", "key", "[I", true)
  | 19 => ("NewsWireModel", "says", "[I", true)
  | 20 => ("NewsWireModel", "from", "[I", true)
  | 21 => ("NewsWireModel", "to", "[I", true)
  | 22 => ("NewsWireModel", "tests", "[I", true)
  | 23 => ("NewsWireModel", "field", "[I", true)
  | 24 => ("NewsWireModel", "sign", "[I", true)
  | 25 => ("NewsWireModel", "against", "[I", true)
  | 26 => ("NewsWireModel", "taped", "I", false)
  | 27 => ("NewsWireModel", "tape", "[I", true)
  | 28 => ("NewsWireModel", "at", "I", false)
  | 29 => ("NewsWireModel", "isWrong", "Z", false)
  | 30 => ("NewsWireModel", "now", "I", false)
  | 31 => ("NewsWireModel", "tick", "I", false)
  | 32 => ("NewsWireModel", "filedHere", "[I", true)
  | 33 => ("NewsWireModel", "filed", "[I", true)
  | 34 => ("NewsWireModel", "place", "[I", true)
  | 35 => ("NewsWireModel", "heardOf", "[I", true)
  | 36 => ("NewsWireModel", "doneAt", "[I", true)
  | 37 => ("NewsWireModel", "since", "[I", true)
  | 38 => ("NewsWireModel", "costs", "[I", true)
  | 39 => ("NewsWireModel", "garbles", "I", false)
  | 40 => ("NewsWireModel", "garbleWire", "[I", true)
  | 41 => ("NewsWireModel", "garbleTick", "[I", true)
  | 42 => ("NewsWireModel", "sends", "I", false)
  | 43 => ("NewsWireModel", "hears", "I", false)
  | 44 => ("NewsWireModel", "text", "[I", true)
  | 45 => ("NewsWireModel", "brought", "[I", true)
  | 46 => ("NewsWireModel", "length", "I", false)
  | 47 => ("NewsWireModel", "gap", "I", false)
  | 48 => ("NewsWireModel", "lead", "I", false)
  | 49 => ("NewsWireModel", "parts", "I", false)
  | 50 => ("NewsWireModel", "own", "[I", true)
  | 51 => ("NewsWireModel", "ownFrom", "[I", true)
  | 52 => ("NewsWireModel", "hasEdition", "[Z", true)
  | 53 => ("NewsWireModel", "editionTick", "[I", true)
  | 54 => ("NewsWireModel", "editionWords", "[I", true)
  | 55 => ("NewsWireModel", "printedPiece", "[Z", true)
  | 56 => ("NewsWireModel", "planned", "I", false)
  | _ => ("NewsWireModel", "open", "[I", true)
def y_c11 : Nat → FieldType := fun k => match k with
  | 0 => .int
  | 1 => .array .int
  | 2 => .int
  | 3 => .array .int
  | 4 => .array .int
  | 5 => .array .int
  | 6 => .int
  | 7 => .array .int
  | 8 => .array .int
  | 9 => .array .int
  | 10 => .array .int
  | 11 => .array .int
  | 12 => .array .int
  | 13 => .array .int
  | 14 => .array .int
  | 15 => .int
  | 16 => .array .int
  | 17 => .int
  | 18 => .array .int
  | 19 => .array .int
  | 20 => .array .int
  | 21 => .array .int
  | 22 => .array .int
  | 23 => .array .int
  | 24 => .array .int
  | 25 => .array .int
  | 26 => .int
  | 27 => .array .int
  | 28 => .int
  | 29 => .boolean
  | 30 => .int
  | 31 => .int
  | 32 => .array .int
  | 33 => .array .int
  | 34 => .array .int
  | 35 => .array .int
  | 36 => .array .int
  | 37 => .array .int
  | 38 => .array .int
  | 39 => .int
  | 40 => .array .int
  | 41 => .array .int
  | 42 => .int
  | 43 => .int
  | 44 => .array .int
  | 45 => .array .int
  | 46 => .int
  | 47 => .int
  | 48 => .int
  | 49 => .int
  | 50 => .array .int
  | 51 => .array .int
  | 52 => .array .boolean
  | 53 => .array .int
  | 54 => .array .int
  | 55 => .array .boolean
  | 56 => .int
  | _ => .array .int
theorem nm_c11 : ∀ a, a < 58 → ∀ b, b < 58 → a ≠ b → (f_c11 a).2.1 ≠ (f_c11 b).2.1 := by decide +kernel
theorem ty_c11 : ∀ k, k < 58 → parseFieldDescriptor (f_c11 k).2.2.1 = some (y_c11 k) := by decide +kernel
theorem in_c11 : ∀ w ∈ u_ws n_c11 f_c11 58, w ∈ TW := by
  have h : ((u_ws n_c11 f_c11 58).all fun w => decide (w ∈ lw_tbl) && goodWord w) = true := by decide +kernel
  intro w hw
  have h1 := List.all_eq_true.mp h w hw
  simp only [Bool.and_eq_true, decide_eq_true_eq] at h1
  exact List.mem_filter.mpr h1
/-- the classes whose objects the world holds -/
def cls : List vw_C := [(n_c0, f_c0, 4), (n_c1, f_c1, 3), (n_c2, f_c2, 5), (n_c3, f_c3, 8), (n_c4, f_c4, 2), (n_c5, f_c5, 8), (n_c6, f_c6, 2), (n_c7, f_c7, 10), (n_c8, f_c8, 4), (n_c9, f_c9, 7), (n_c10, f_c10, 16), (n_c11, f_c11, 58)]
