section
-- ===== PART A: goes FIRST, ahead of the names: the tables' words, and 'selects' of the private methods out of them =====
/-- a private method of a class that the tables say can be made, by its rows of tables_1 -/
def lw_okq (q : MethodName × Nat) : Prop := (q.1.cls ≠ "java/lang/invoke/MethodHandle" ∧ q.1.cls ≠ "java/lang/invoke/VarHandle") ∧ Cond.instantiable q.1.cls q.2 ∈ tables_1 ∧ Cond.privateMethod q.1 ∈ tables_1 ∧ Cond.instanceMethod q.1 ∈ tables_1
theorem lw_p0 : lw_okq (⟨"KindlingTree$Board", "isOtherThrough", "()Z"⟩, 4) := ⟨⟨by decide +kernel, by decide +kernel⟩, List.mem_of_getElem? (i := 73) (by decide +kernel), List.mem_of_getElem? (i := 275) (by decide +kernel), List.mem_of_getElem? (i := 276) (by decide +kernel)⟩
theorem lw_p1 : lw_okq (⟨"KindlingTree$Board", "listSteps", "(LKindlingTree$MoveList;II)V"⟩, 4) := ⟨⟨by decide +kernel, by decide +kernel⟩, List.mem_of_getElem? (i := 73) (by decide +kernel), List.mem_of_getElem? (i := 283) (by decide +kernel), List.mem_of_getElem? (i := 284) (by decide +kernel)⟩
theorem lw_p2 : lw_okq (⟨"KindlingTree", "isOver", "()Z"⟩, 8) := ⟨⟨by decide +kernel, by decide +kernel⟩, List.mem_of_getElem? (i := 24) (by decide +kernel), List.mem_of_getElem? (i := 388) (by decide +kernel), List.mem_of_getElem? (i := 389) (by decide +kernel)⟩
theorem lw_p3 : lw_okq (⟨"KindlingTree$Judge", "weighPawn", "(LKindlingTree$Board;III)I"⟩, 4) := ⟨⟨by decide +kernel, by decide +kernel⟩, List.mem_of_getElem? (i := 114) (by decide +kernel), List.mem_of_getElem? (i := 414) (by decide +kernel), List.mem_of_getElem? (i := 415) (by decide +kernel)⟩
theorem lw_p4 : lw_okq (⟨"KindlingTree$Table", "slotOf", "(J)I"⟩, 6) := ⟨⟨by decide +kernel, by decide +kernel⟩, List.mem_of_getElem? (i := 133) (by decide +kernel), List.mem_of_getElem? (i := 509) (by decide +kernel), List.mem_of_getElem? (i := 510) (by decide +kernel)⟩
theorem lw_p5 : lw_okq (⟨"KindlingTree$Table", "keyAt", "(I)J"⟩, 6) := ⟨⟨by decide +kernel, by decide +kernel⟩, List.mem_of_getElem? (i := 133) (by decide +kernel), List.mem_of_getElem? (i := 517) (by decide +kernel), List.mem_of_getElem? (i := 518) (by decide +kernel)⟩
theorem lw_p6 : lw_okq (⟨"KindlingTree$Book", "weightAt", "(I)I"⟩, 4) := ⟨⟨by decide +kernel, by decide +kernel⟩, List.mem_of_getElem? (i := 248) (by decide +kernel), List.mem_of_getElem? (i := 540) (by decide +kernel), List.mem_of_getElem? (i := 541) (by decide +kernel)⟩
theorem lw_p7 : lw_okq (⟨"KindlingTree", "addBoard", "(J)J"⟩, 8) := ⟨⟨by decide +kernel, by decide +kernel⟩, List.mem_of_getElem? (i := 24) (by decide +kernel), List.mem_of_getElem? (i := 561) (by decide +kernel), List.mem_of_getElem? (i := 562) (by decide +kernel)⟩
theorem lw_p8 : lw_okq (⟨"KindlingTree", "addMoves", "(J)J"⟩, 8) := ⟨⟨by decide +kernel, by decide +kernel⟩, List.mem_of_getElem? (i := 24) (by decide +kernel), List.mem_of_getElem? (i := 574) (by decide +kernel), List.mem_of_getElem? (i := 575) (by decide +kernel)⟩
theorem lw_p9 : lw_okq (⟨"KindlingTree$Valuer", "countWays", "(I)I"⟩, 3) := ⟨⟨by decide +kernel, by decide +kernel⟩, List.mem_of_getElem? (i := 159) (by decide +kernel), List.mem_of_getElem? (i := 579) (by decide +kernel), List.mem_of_getElem? (i := 580) (by decide +kernel)⟩
theorem lw_p10 : lw_okq (⟨"KindlingTree$Valuer", "countBehind", "(II)I"⟩, 3) := ⟨⟨by decide +kernel, by decide +kernel⟩, List.mem_of_getElem? (i := 159) (by decide +kernel), List.mem_of_getElem? (i := 594) (by decide +kernel), List.mem_of_getElem? (i := 595) (by decide +kernel)⟩
theorem lw_p11 : lw_okq (⟨"KindlingTree$Valuer", "worth", "(III)I"⟩, 3) := ⟨⟨by decide +kernel, by decide +kernel⟩, List.mem_of_getElem? (i := 159) (by decide +kernel), List.mem_of_getElem? (i := 613) (by decide +kernel), List.mem_of_getElem? (i := 614) (by decide +kernel)⟩
theorem lw_p12 : lw_okq (⟨"KindlingTree$Quiet", "lookOn", "(III)I"⟩, 4) := ⟨⟨by decide +kernel, by decide +kernel⟩, List.mem_of_getElem? (i := 161) (by decide +kernel), List.mem_of_getElem? (i := 617) (by decide +kernel), List.mem_of_getElem? (i := 618) (by decide +kernel)⟩
theorem lw_p13 : lw_okq (⟨"KindlingTree$Quiet", "behind", "(IIII)I"⟩, 4) := ⟨⟨by decide +kernel, by decide +kernel⟩, List.mem_of_getElem? (i := 161) (by decide +kernel), List.mem_of_getElem? (i := 634) (by decide +kernel), List.mem_of_getElem? (i := 635) (by decide +kernel)⟩
theorem lw_p14 : lw_okq (⟨"KindlingTree$Valuer", "worthBehind", "(IIII)I"⟩, 3) := ⟨⟨by decide +kernel, by decide +kernel⟩, List.mem_of_getElem? (i := 159) (by decide +kernel), List.mem_of_getElem? (i := 641) (by decide +kernel), List.mem_of_getElem? (i := 642) (by decide +kernel)⟩
theorem lw_p15 : lw_okq (⟨"KindlingTree", "addSearch", "(J)J"⟩, 8) := ⟨⟨by decide +kernel, by decide +kernel⟩, List.mem_of_getElem? (i := 24) (by decide +kernel), List.mem_of_getElem? (i := 647) (by decide +kernel), List.mem_of_getElem? (i := 648) (by decide +kernel)⟩
def lw_privs_1 : List (MethodName × Nat) := [(⟨"KindlingTree$Board", "isOtherThrough", "()Z"⟩, 4), (⟨"KindlingTree$Board", "listSteps", "(LKindlingTree$MoveList;II)V"⟩, 4), (⟨"KindlingTree", "isOver", "()Z"⟩, 8), (⟨"KindlingTree$Judge", "weighPawn", "(LKindlingTree$Board;III)I"⟩, 4), (⟨"KindlingTree$Table", "slotOf", "(J)I"⟩, 6), (⟨"KindlingTree$Table", "keyAt", "(I)J"⟩, 6), (⟨"KindlingTree$Book", "weightAt", "(I)I"⟩, 4), (⟨"KindlingTree", "addBoard", "(J)J"⟩, 8), (⟨"KindlingTree", "addMoves", "(J)J"⟩, 8), (⟨"KindlingTree$Valuer", "countWays", "(I)I"⟩, 3), (⟨"KindlingTree$Valuer", "countBehind", "(II)I"⟩, 3), (⟨"KindlingTree$Valuer", "worth", "(III)I"⟩, 3), (⟨"KindlingTree$Quiet", "lookOn", "(III)I"⟩, 4), (⟨"KindlingTree$Quiet", "behind", "(IIII)I"⟩, 4), (⟨"KindlingTree$Valuer", "worthBehind", "(IIII)I"⟩, 3), (⟨"KindlingTree", "addSearch", "(J)J"⟩, 8)]
theorem lw_r1 : ∀ q ∈ lw_privs_1, lw_okq q := List.forall_mem_cons.mpr ⟨lw_p0, List.forall_mem_cons.mpr ⟨lw_p1, List.forall_mem_cons.mpr ⟨lw_p2, List.forall_mem_cons.mpr ⟨lw_p3, List.forall_mem_cons.mpr ⟨lw_p4, List.forall_mem_cons.mpr ⟨lw_p5, List.forall_mem_cons.mpr ⟨lw_p6, List.forall_mem_cons.mpr ⟨lw_p7, List.forall_mem_cons.mpr ⟨lw_p8, List.forall_mem_cons.mpr ⟨lw_p9, List.forall_mem_cons.mpr ⟨lw_p10, List.forall_mem_cons.mpr ⟨lw_p11, List.forall_mem_cons.mpr ⟨lw_p12, List.forall_mem_cons.mpr ⟨lw_p13, List.forall_mem_cons.mpr ⟨lw_p14, List.forall_mem_cons.mpr ⟨lw_p15, fun _ h => absurd h List.not_mem_nil⟩⟩⟩⟩⟩⟩⟩⟩⟩⟩⟩⟩⟩⟩⟩⟩
theorem lw_p16 : lw_okq (⟨"KindlingTree", "addTable", "(J)J"⟩, 8) := ⟨⟨by decide +kernel, by decide +kernel⟩, List.mem_of_getElem? (i := 24) (by decide +kernel), List.mem_of_getElem? (i := 651) (by decide +kernel), List.mem_of_getElem? (i := 652) (by decide +kernel)⟩
theorem lw_p17 : lw_okq (⟨"KindlingTree$Table", "kindAt", "(I)I"⟩, 6) := ⟨⟨by decide +kernel, by decide +kernel⟩, List.mem_of_getElem? (i := 133) (by decide +kernel), List.mem_of_getElem? (i := 663) (by decide +kernel), List.mem_of_getElem? (i := 664) (by decide +kernel)⟩
theorem lw_p18 : lw_okq (⟨"java/lang/Throwable", "fillInStackTrace", "(I)Ljava/lang/Throwable;"⟩, 6) := ⟨⟨by decide +kernel, by decide +kernel⟩, List.mem_of_getElem? (i := 722) (by decide +kernel), List.mem_of_getElem? (i := 720) (by decide +kernel), List.mem_of_getElem? (i := 721) (by decide +kernel)⟩
theorem lw_p19 : lw_okq (⟨"KindlingTree", "startAnew", "()V"⟩, 8) := ⟨⟨by decide +kernel, by decide +kernel⟩, List.mem_of_getElem? (i := 24) (by decide +kernel), List.mem_of_getElem? (i := 756) (by decide +kernel), List.mem_of_getElem? (i := 757) (by decide +kernel)⟩
theorem lw_p20 : lw_okq (⟨"KindlingTree", "playHere", "(I)I"⟩, 8) := ⟨⟨by decide +kernel, by decide +kernel⟩, List.mem_of_getElem? (i := 24) (by decide +kernel), List.mem_of_getElem? (i := 839) (by decide +kernel), List.mem_of_getElem? (i := 840) (by decide +kernel)⟩
theorem lw_p21 : lw_okq (⟨"KindlingTree$Trail", "forgetOldest", "()V"⟩, 3) := ⟨⟨by decide +kernel, by decide +kernel⟩, List.mem_of_getElem? (i := 98) (by decide +kernel), List.mem_of_getElem? (i := 848) (by decide +kernel), List.mem_of_getElem? (i := 849) (by decide +kernel)⟩
theorem lw_p22 : lw_okq (⟨"KindlingTree$Seeker", "explore", "(III)I"⟩, 10) := ⟨⟨by decide +kernel, by decide +kernel⟩, List.mem_of_getElem? (i := 194) (by decide +kernel), List.mem_of_getElem? (i := 970) (by decide +kernel), List.mem_of_getElem? (i := 971) (by decide +kernel)⟩
theorem lw_p23 : lw_okq (⟨"KindlingTree$MoveList", "place", "(I)V"⟩, 6) := ⟨⟨by decide +kernel, by decide +kernel⟩, List.mem_of_getElem? (i := 39) (by decide +kernel), List.mem_of_getElem? (i := 994) (by decide +kernel), List.mem_of_getElem? (i := 995) (by decide +kernel)⟩
theorem lw_p24 : lw_okq (⟨"KindlingTree$Seeker", "tryMoves", "(LKindlingTree$MoveList;JIII)I"⟩, 10) := ⟨⟨by decide +kernel, by decide +kernel⟩, List.mem_of_getElem? (i := 194) (by decide +kernel), List.mem_of_getElem? (i := 999) (by decide +kernel), List.mem_of_getElem? (i := 1000) (by decide +kernel)⟩
theorem lw_p25 : lw_okq (⟨"KindlingTree$Seeker", "behind", "(IIII)I"⟩, 10) := ⟨⟨by decide +kernel, by decide +kernel⟩, List.mem_of_getElem? (i := 194) (by decide +kernel), List.mem_of_getElem? (i := 1008) (by decide +kernel), List.mem_of_getElem? (i := 1009) (by decide +kernel)⟩
theorem lw_p26 : lw_okq (⟨"KindlingTree$Seeker", "noteCut", "(LKindlingTree$MoveList;II)V"⟩, 10) := ⟨⟨by decide +kernel, by decide +kernel⟩, List.mem_of_getElem? (i := 194) (by decide +kernel), List.mem_of_getElem? (i := 1015) (by decide +kernel), List.mem_of_getElem? (i := 1016) (by decide +kernel)⟩
theorem lw_p27 : lw_okq (⟨"KindlingTree", "goOn", "(I)I"⟩, 8) := ⟨⟨by decide +kernel, by decide +kernel⟩, List.mem_of_getElem? (i := 24) (by decide +kernel), List.mem_of_getElem? (i := 1069) (by decide +kernel), List.mem_of_getElem? (i := 1070) (by decide +kernel)⟩
theorem lw_p28 : lw_okq (⟨"KindlingTreeModel", "lay", "(III)V"⟩, 26) := ⟨⟨by decide +kernel, by decide +kernel⟩, List.mem_of_getElem? (i := 1082) (by decide +kernel), List.mem_of_getElem? (i := 1090) (by decide +kernel), List.mem_of_getElem? (i := 1091) (by decide +kernel)⟩
theorem lw_p29 : lw_okq (⟨"KindlingTreeModel", "clear", "(I)I"⟩, 26) := ⟨⟨by decide +kernel, by decide +kernel⟩, List.mem_of_getElem? (i := 1082) (by decide +kernel), List.mem_of_getElem? (i := 1094) (by decide +kernel), List.mem_of_getElem? (i := 1095) (by decide +kernel)⟩
theorem lw_p30 : lw_okq (⟨"KindlingTreeModel", "entriesNow", "()I"⟩, 26) := ⟨⟨by decide +kernel, by decide +kernel⟩, List.mem_of_getElem? (i := 1082) (by decide +kernel), List.mem_of_getElem? (i := 1098) (by decide +kernel), List.mem_of_getElem? (i := 1099) (by decide +kernel)⟩
theorem lw_p31 : lw_okq (⟨"KindlingTreeModel", "refuse", "(I)I"⟩, 26) := ⟨⟨by decide +kernel, by decide +kernel⟩, List.mem_of_getElem? (i := 1082) (by decide +kernel), List.mem_of_getElem? (i := 1192) (by decide +kernel), List.mem_of_getElem? (i := 1193) (by decide +kernel)⟩
def lw_privs_2 : List (MethodName × Nat) := [(⟨"KindlingTree", "addTable", "(J)J"⟩, 8), (⟨"KindlingTree$Table", "kindAt", "(I)I"⟩, 6), (⟨"java/lang/Throwable", "fillInStackTrace", "(I)Ljava/lang/Throwable;"⟩, 6), (⟨"KindlingTree", "startAnew", "()V"⟩, 8), (⟨"KindlingTree", "playHere", "(I)I"⟩, 8), (⟨"KindlingTree$Trail", "forgetOldest", "()V"⟩, 3), (⟨"KindlingTree$Seeker", "explore", "(III)I"⟩, 10), (⟨"KindlingTree$MoveList", "place", "(I)V"⟩, 6), (⟨"KindlingTree$Seeker", "tryMoves", "(LKindlingTree$MoveList;JIII)I"⟩, 10), (⟨"KindlingTree$Seeker", "behind", "(IIII)I"⟩, 10), (⟨"KindlingTree$Seeker", "noteCut", "(LKindlingTree$MoveList;II)V"⟩, 10), (⟨"KindlingTree", "goOn", "(I)I"⟩, 8), (⟨"KindlingTreeModel", "lay", "(III)V"⟩, 26), (⟨"KindlingTreeModel", "clear", "(I)I"⟩, 26), (⟨"KindlingTreeModel", "entriesNow", "()I"⟩, 26), (⟨"KindlingTreeModel", "refuse", "(I)I"⟩, 26)]
theorem lw_r2 : ∀ q ∈ lw_privs_2, lw_okq q := List.forall_mem_cons.mpr ⟨lw_p16, List.forall_mem_cons.mpr ⟨lw_p17, List.forall_mem_cons.mpr ⟨lw_p18, List.forall_mem_cons.mpr ⟨lw_p19, List.forall_mem_cons.mpr ⟨lw_p20, List.forall_mem_cons.mpr ⟨lw_p21, List.forall_mem_cons.mpr ⟨lw_p22, List.forall_mem_cons.mpr ⟨lw_p23, List.forall_mem_cons.mpr ⟨lw_p24, List.forall_mem_cons.mpr ⟨lw_p25, List.forall_mem_cons.mpr ⟨lw_p26, List.forall_mem_cons.mpr ⟨lw_p27, List.forall_mem_cons.mpr ⟨lw_p28, List.forall_mem_cons.mpr ⟨lw_p29, List.forall_mem_cons.mpr ⟨lw_p30, List.forall_mem_cons.mpr ⟨lw_p31, fun _ h => absurd h List.not_mem_nil⟩⟩⟩⟩⟩⟩⟩⟩⟩⟩⟩⟩⟩⟩⟩⟩
theorem lw_p32 : lw_okq (⟨"KindlingTreeModel", "isField", "(I)Z"⟩, 26) := ⟨⟨by decide +kernel, by decide +kernel⟩, List.mem_of_getElem? (i := 1082) (by decide +kernel), List.mem_of_getElem? (i := 1200) (by decide +kernel), List.mem_of_getElem? (i := 1201) (by decide +kernel)⟩
theorem lw_p33 : lw_okq (⟨"KindlingTreeModel", "pawns", "(I)I"⟩, 26) := ⟨⟨by decide +kernel, by decide +kernel⟩, List.mem_of_getElem? (i := 1082) (by decide +kernel), List.mem_of_getElem? (i := 1204) (by decide +kernel), List.mem_of_getElem? (i := 1205) (by decide +kernel)⟩
theorem lw_p34 : lw_okq (⟨"KindlingTreeModel", "sideNow", "()I"⟩, 26) := ⟨⟨by decide +kernel, by decide +kernel⟩, List.mem_of_getElem? (i := 1082) (by decide +kernel), List.mem_of_getElem? (i := 1212) (by decide +kernel), List.mem_of_getElem? (i := 1213) (by decide +kernel)⟩
theorem lw_p35 : lw_okq (⟨"KindlingTreeModel", "isMove", "(I)Z"⟩, 26) := ⟨⟨by decide +kernel, by decide +kernel⟩, List.mem_of_getElem? (i := 1082) (by decide +kernel), List.mem_of_getElem? (i := 1220) (by decide +kernel), List.mem_of_getElem? (i := 1221) (by decide +kernel)⟩
theorem lw_p36 : lw_okq (⟨"KindlingTreeModel", "list", "(I)I"⟩, 26) := ⟨⟨by decide +kernel, by decide +kernel⟩, List.mem_of_getElem? (i := 1082) (by decide +kernel), List.mem_of_getElem? (i := 1224) (by decide +kernel), List.mem_of_getElem? (i := 1225) (by decide +kernel)⟩
theorem lw_p37 : lw_okq (⟨"KindlingTreeModel", "isLostNow", "()Z"⟩, 26) := ⟨⟨by decide +kernel, by decide +kernel⟩, List.mem_of_getElem? (i := 1082) (by decide +kernel), List.mem_of_getElem? (i := 1228) (by decide +kernel), List.mem_of_getElem? (i := 1229) (by decide +kernel)⟩
theorem lw_p38 : lw_okq (⟨"KindlingTreeModel", "goal", "(I)I"⟩, 26) := ⟨⟨by decide +kernel, by decide +kernel⟩, List.mem_of_getElem? (i := 1082) (by decide +kernel), List.mem_of_getElem? (i := 1232) (by decide +kernel), List.mem_of_getElem? (i := 1233) (by decide +kernel)⟩
theorem lw_p39 : lw_okq (⟨"KindlingTreeModel", "countSteps", "(I)I"⟩, 26) := ⟨⟨by decide +kernel, by decide +kernel⟩, List.mem_of_getElem? (i := 1082) (by decide +kernel), List.mem_of_getElem? (i := 1236) (by decide +kernel), List.mem_of_getElem? (i := 1237) (by decide +kernel)⟩
theorem lw_p40 : lw_okq (⟨"KindlingTreeModel", "isStep", "(III)Z"⟩, 26) := ⟨⟨by decide +kernel, by decide +kernel⟩, List.mem_of_getElem? (i := 1082) (by decide +kernel), List.mem_of_getElem? (i := 1240) (by decide +kernel), List.mem_of_getElem? (i := 1241) (by decide +kernel)⟩
theorem lw_p41 : lw_okq (⟨"KindlingTreeModel", "target", "(III)I"⟩, 26) := ⟨⟨by decide +kernel, by decide +kernel⟩, List.mem_of_getElem? (i := 1082) (by decide +kernel), List.mem_of_getElem? (i := 1244) (by decide +kernel), List.mem_of_getElem? (i := 1245) (by decide +kernel)⟩
theorem lw_p42 : lw_okq (⟨"KindlingTreeModel", "playNow", "(I)I"⟩, 26) := ⟨⟨by decide +kernel, by decide +kernel⟩, List.mem_of_getElem? (i := 1082) (by decide +kernel), List.mem_of_getElem? (i := 1248) (by decide +kernel), List.mem_of_getElem? (i := 1249) (by decide +kernel)⟩
theorem lw_p43 : lw_okq (⟨"KindlingTreeModel", "make", "(I)I"⟩, 26) := ⟨⟨by decide +kernel, by decide +kernel⟩, List.mem_of_getElem? (i := 1082) (by decide +kernel), List.mem_of_getElem? (i := 1255) (by decide +kernel), List.mem_of_getElem? (i := 1256) (by decide +kernel)⟩
theorem lw_p44 : lw_okq (⟨"KindlingTreeModel", "unmake", "(II)V"⟩, 26) := ⟨⟨by decide +kernel, by decide +kernel⟩, List.mem_of_getElem? (i := 1082) (by decide +kernel), List.mem_of_getElem? (i := 1263) (by decide +kernel), List.mem_of_getElem? (i := 1264) (by decide +kernel)⟩
theorem lw_p45 : lw_okq (⟨"KindlingTreeModel", "evaluated", "()I"⟩, 26) := ⟨⟨by decide +kernel, by decide +kernel⟩, List.mem_of_getElem? (i := 1082) (by decide +kernel), List.mem_of_getElem? (i := 1271) (by decide +kernel), List.mem_of_getElem? (i := 1272) (by decide +kernel)⟩
theorem lw_p46 : lw_okq (⟨"KindlingTreeModel", "worth", "(I)I"⟩, 26) := ⟨⟨by decide +kernel, by decide +kernel⟩, List.mem_of_getElem? (i := 1082) (by decide +kernel), List.mem_of_getElem? (i := 1275) (by decide +kernel), List.mem_of_getElem? (i := 1276) (by decide +kernel)⟩
theorem lw_p47 : lw_okq (⟨"KindlingTreeModel", "isTaking", "(I)Z"⟩, 26) := ⟨⟨by decide +kernel, by decide +kernel⟩, List.mem_of_getElem? (i := 1082) (by decide +kernel), List.mem_of_getElem? (i := 1330) (by decide +kernel), List.mem_of_getElem? (i := 1331) (by decide +kernel)⟩
def lw_privs_3 : List (MethodName × Nat) := [(⟨"KindlingTreeModel", "isField", "(I)Z"⟩, 26), (⟨"KindlingTreeModel", "pawns", "(I)I"⟩, 26), (⟨"KindlingTreeModel", "sideNow", "()I"⟩, 26), (⟨"KindlingTreeModel", "isMove", "(I)Z"⟩, 26), (⟨"KindlingTreeModel", "list", "(I)I"⟩, 26), (⟨"KindlingTreeModel", "isLostNow", "()Z"⟩, 26), (⟨"KindlingTreeModel", "goal", "(I)I"⟩, 26), (⟨"KindlingTreeModel", "countSteps", "(I)I"⟩, 26), (⟨"KindlingTreeModel", "isStep", "(III)Z"⟩, 26), (⟨"KindlingTreeModel", "target", "(III)I"⟩, 26), (⟨"KindlingTreeModel", "playNow", "(I)I"⟩, 26), (⟨"KindlingTreeModel", "make", "(I)I"⟩, 26), (⟨"KindlingTreeModel", "unmake", "(II)V"⟩, 26), (⟨"KindlingTreeModel", "evaluated", "()I"⟩, 26), (⟨"KindlingTreeModel", "worth", "(I)I"⟩, 26), (⟨"KindlingTreeModel", "isTaking", "(I)Z"⟩, 26)]
theorem lw_r3 : ∀ q ∈ lw_privs_3, lw_okq q := List.forall_mem_cons.mpr ⟨lw_p32, List.forall_mem_cons.mpr ⟨lw_p33, List.forall_mem_cons.mpr ⟨lw_p34, List.forall_mem_cons.mpr ⟨lw_p35, List.forall_mem_cons.mpr ⟨lw_p36, List.forall_mem_cons.mpr ⟨lw_p37, List.forall_mem_cons.mpr ⟨lw_p38, List.forall_mem_cons.mpr ⟨lw_p39, List.forall_mem_cons.mpr ⟨lw_p40, List.forall_mem_cons.mpr ⟨lw_p41, List.forall_mem_cons.mpr ⟨lw_p42, List.forall_mem_cons.mpr ⟨lw_p43, List.forall_mem_cons.mpr ⟨lw_p44, List.forall_mem_cons.mpr ⟨lw_p45, List.forall_mem_cons.mpr ⟨lw_p46, List.forall_mem_cons.mpr ⟨lw_p47, fun _ h => absurd h List.not_mem_nil⟩⟩⟩⟩⟩⟩⟩⟩⟩⟩⟩⟩⟩⟩⟩⟩
theorem lw_p48 : lw_okq (⟨"KindlingTreeModel", "keyNow", "()J"⟩, 26) := ⟨⟨by decide +kernel, by decide +kernel⟩, List.mem_of_getElem? (i := 1082) (by decide +kernel), List.mem_of_getElem? (i := 1342) (by decide +kernel), List.mem_of_getElem? (i := 1343) (by decide +kernel)⟩
theorem lw_p49 : lw_okq (⟨"KindlingTreeModel", "waysNow", "(II)I"⟩, 26) := ⟨⟨by decide +kernel, by decide +kernel⟩, List.mem_of_getElem? (i := 1082) (by decide +kernel), List.mem_of_getElem? (i := 1356) (by decide +kernel), List.mem_of_getElem? (i := 1357) (by decide +kernel)⟩
theorem lw_p50 : lw_okq (⟨"KindlingTreeModel", "valueNow", "(II)I"⟩, 26) := ⟨⟨by decide +kernel, by decide +kernel⟩, List.mem_of_getElem? (i := 1082) (by decide +kernel), List.mem_of_getElem? (i := 1364) (by decide +kernel), List.mem_of_getElem? (i := 1365) (by decide +kernel)⟩
theorem lw_p51 : lw_okq (⟨"KindlingTreeModel", "quietValue", "(II)I"⟩, 26) := ⟨⟨by decide +kernel, by decide +kernel⟩, List.mem_of_getElem? (i := 1082) (by decide +kernel), List.mem_of_getElem? (i := 1368) (by decide +kernel), List.mem_of_getElem? (i := 1369) (by decide +kernel)⟩
theorem lw_p52 : lw_okq (⟨"KindlingTreeModel", "valueBehind", "(III)I"⟩, 26) := ⟨⟨by decide +kernel, by decide +kernel⟩, List.mem_of_getElem? (i := 1082) (by decide +kernel), List.mem_of_getElem? (i := 1374) (by decide +kernel), List.mem_of_getElem? (i := 1375) (by decide +kernel)⟩
theorem lw_p53 : lw_okq (⟨"KindlingTreeModel", "searchNow", "(I)I"⟩, 26) := ⟨⟨by decide +kernel, by decide +kernel⟩, List.mem_of_getElem? (i := 1082) (by decide +kernel), List.mem_of_getElem? (i := 1386) (by decide +kernel), List.mem_of_getElem? (i := 1387) (by decide +kernel)⟩
theorem lw_p54 : lw_okq (⟨"KindlingTreeModel", "searched", "(IIII)I"⟩, 26) := ⟨⟨by decide +kernel, by decide +kernel⟩, List.mem_of_getElem? (i := 1082) (by decide +kernel), List.mem_of_getElem? (i := 1393) (by decide +kernel), List.mem_of_getElem? (i := 1394) (by decide +kernel)⟩
theorem lw_p55 : lw_okq (⟨"KindlingTreeModel", "quietly", "(IIII)I"⟩, 26) := ⟨⟨by decide +kernel, by decide +kernel⟩, List.mem_of_getElem? (i := 1082) (by decide +kernel), List.mem_of_getElem? (i := 1397) (by decide +kernel), List.mem_of_getElem? (i := 1398) (by decide +kernel)⟩
theorem lw_p56 : lw_okq (⟨"KindlingTreeModel", "slotOf", "(J)I"⟩, 26) := ⟨⟨by decide +kernel, by decide +kernel⟩, List.mem_of_getElem? (i := 1082) (by decide +kernel), List.mem_of_getElem? (i := 1401) (by decide +kernel), List.mem_of_getElem? (i := 1402) (by decide +kernel)⟩
theorem lw_p57 : lw_okq (⟨"KindlingTreeModel", "order", "(III)I"⟩, 26) := ⟨⟨by decide +kernel, by decide +kernel⟩, List.mem_of_getElem? (i := 1082) (by decide +kernel), List.mem_of_getElem? (i := 1408) (by decide +kernel), List.mem_of_getElem? (i := 1409) (by decide +kernel)⟩
theorem lw_p58 : lw_okq (⟨"KindlingTreeModel", "want", "(IIII)I"⟩, 26) := ⟨⟨by decide +kernel, by decide +kernel⟩, List.mem_of_getElem? (i := 1082) (by decide +kernel), List.mem_of_getElem? (i := 1412) (by decide +kernel), List.mem_of_getElem? (i := 1413) (by decide +kernel)⟩
theorem lw_p59 : lw_okq (⟨"KindlingTreeModel", "cut", "(II)V"⟩, 26) := ⟨⟨by decide +kernel, by decide +kernel⟩, List.mem_of_getElem? (i := 1082) (by decide +kernel), List.mem_of_getElem? (i := 1419) (by decide +kernel), List.mem_of_getElem? (i := 1420) (by decide +kernel)⟩
theorem lw_p60 : lw_okq (⟨"KindlingTreeModel", "keep", "(IIII)V"⟩, 26) := ⟨⟨by decide +kernel, by decide +kernel⟩, List.mem_of_getElem? (i := 1082) (by decide +kernel), List.mem_of_getElem? (i := 1423) (by decide +kernel), List.mem_of_getElem? (i := 1424) (by decide +kernel)⟩
theorem lw_p61 : lw_okq (⟨"KindlingTreeModel", "killerAt", "(II)I"⟩, 26) := ⟨⟨by decide +kernel, by decide +kernel⟩, List.mem_of_getElem? (i := 1082) (by decide +kernel), List.mem_of_getElem? (i := 1455) (by decide +kernel), List.mem_of_getElem? (i := 1456) (by decide +kernel)⟩
theorem lw_p62 : lw_okq (⟨"KindlingTreeModel", "toldOf", "(II)I"⟩, 26) := ⟨⟨by decide +kernel, by decide +kernel⟩, List.mem_of_getElem? (i := 1082) (by decide +kernel), List.mem_of_getElem? (i := 1471) (by decide +kernel), List.mem_of_getElem? (i := 1472) (by decide +kernel)⟩
theorem lw_p63 : lw_okq (⟨"KindlingTreeModel", "knownNow", "()I"⟩, 26) := ⟨⟨by decide +kernel, by decide +kernel⟩, List.mem_of_getElem? (i := 1082) (by decide +kernel), List.mem_of_getElem? (i := 1479) (by decide +kernel), List.mem_of_getElem? (i := 1480) (by decide +kernel)⟩
def lw_privs_4 : List (MethodName × Nat) := [(⟨"KindlingTreeModel", "keyNow", "()J"⟩, 26), (⟨"KindlingTreeModel", "waysNow", "(II)I"⟩, 26), (⟨"KindlingTreeModel", "valueNow", "(II)I"⟩, 26), (⟨"KindlingTreeModel", "quietValue", "(II)I"⟩, 26), (⟨"KindlingTreeModel", "valueBehind", "(III)I"⟩, 26), (⟨"KindlingTreeModel", "searchNow", "(I)I"⟩, 26), (⟨"KindlingTreeModel", "searched", "(IIII)I"⟩, 26), (⟨"KindlingTreeModel", "quietly", "(IIII)I"⟩, 26), (⟨"KindlingTreeModel", "slotOf", "(J)I"⟩, 26), (⟨"KindlingTreeModel", "order", "(III)I"⟩, 26), (⟨"KindlingTreeModel", "want", "(IIII)I"⟩, 26), (⟨"KindlingTreeModel", "cut", "(II)V"⟩, 26), (⟨"KindlingTreeModel", "keep", "(IIII)V"⟩, 26), (⟨"KindlingTreeModel", "killerAt", "(II)I"⟩, 26), (⟨"KindlingTreeModel", "toldOf", "(II)I"⟩, 26), (⟨"KindlingTreeModel", "knownNow", "()I"⟩, 26)]
theorem lw_r4 : ∀ q ∈ lw_privs_4, lw_okq q := List.forall_mem_cons.mpr ⟨lw_p48, List.forall_mem_cons.mpr ⟨lw_p49, List.forall_mem_cons.mpr ⟨lw_p50, List.forall_mem_cons.mpr ⟨lw_p51, List.forall_mem_cons.mpr ⟨lw_p52, List.forall_mem_cons.mpr ⟨lw_p53, List.forall_mem_cons.mpr ⟨lw_p54, List.forall_mem_cons.mpr ⟨lw_p55, List.forall_mem_cons.mpr ⟨lw_p56, List.forall_mem_cons.mpr ⟨lw_p57, List.forall_mem_cons.mpr ⟨lw_p58, List.forall_mem_cons.mpr ⟨lw_p59, List.forall_mem_cons.mpr ⟨lw_p60, List.forall_mem_cons.mpr ⟨lw_p61, List.forall_mem_cons.mpr ⟨lw_p62, List.forall_mem_cons.mpr ⟨lw_p63, fun _ h => absurd h List.not_mem_nil⟩⟩⟩⟩⟩⟩⟩⟩⟩⟩⟩⟩⟩⟩⟩⟩
theorem lw_p64 : lw_okq (⟨"KindlingTreeModel", "pageOf", "(JI)I"⟩, 26) := ⟨⟨by decide +kernel, by decide +kernel⟩, List.mem_of_getElem? (i := 1082) (by decide +kernel), List.mem_of_getElem? (i := 1487) (by decide +kernel), List.mem_of_getElem? (i := 1488) (by decide +kernel)⟩
theorem lw_p65 : lw_okq (⟨"KindlingTreeModel", "toldNow", "()I"⟩, 26) := ⟨⟨by decide +kernel, by decide +kernel⟩, List.mem_of_getElem? (i := 1082) (by decide +kernel), List.mem_of_getElem? (i := 1495) (by decide +kernel), List.mem_of_getElem? (i := 1496) (by decide +kernel)⟩
theorem lw_p66 : lw_okq (⟨"KindlingTreeModel", "goNow", "(I)I"⟩, 26) := ⟨⟨by decide +kernel, by decide +kernel⟩, List.mem_of_getElem? (i := 1082) (by decide +kernel), List.mem_of_getElem? (i := 1503) (by decide +kernel), List.mem_of_getElem? (i := 1504) (by decide +kernel)⟩
theorem lw_p67 : lw_okq (⟨"KindlingTreeModel", "add", "(J)V"⟩, 26) := ⟨⟨by decide +kernel, by decide +kernel⟩, List.mem_of_getElem? (i := 1082) (by decide +kernel), List.mem_of_getElem? (i := 1524) (by decide +kernel), List.mem_of_getElem? (i := 1525) (by decide +kernel)⟩
def lw_privs_5 : List (MethodName × Nat) := [(⟨"KindlingTreeModel", "pageOf", "(JI)I"⟩, 26), (⟨"KindlingTreeModel", "toldNow", "()I"⟩, 26), (⟨"KindlingTreeModel", "goNow", "(I)I"⟩, 26), (⟨"KindlingTreeModel", "add", "(J)V"⟩, 26)]
theorem lw_r5 : ∀ q ∈ lw_privs_5, lw_okq q := List.forall_mem_cons.mpr ⟨lw_p64, List.forall_mem_cons.mpr ⟨lw_p65, List.forall_mem_cons.mpr ⟨lw_p66, List.forall_mem_cons.mpr ⟨lw_p67, fun _ h => absurd h List.not_mem_nil⟩⟩⟩⟩
def lw_privs : List (MethodName × Nat) := lw_privs_1 ++ (lw_privs_2 ++ (lw_privs_3 ++ (lw_privs_4 ++ (lw_privs_5))))
def lw_tbl : List Cond := k2_sels lw_privs ++ tables_1
theorem lw_privs_ok : ∀ q ∈ lw_privs, lw_okq q := by
  show ∀ q ∈ lw_privs_1 ++ (lw_privs_2 ++ (lw_privs_3 ++ (lw_privs_4 ++ (lw_privs_5)))), lw_okq q
  exact List.forall_mem_append.mpr ⟨lw_r1, List.forall_mem_append.mpr ⟨lw_r2, List.forall_mem_append.mpr ⟨lw_r3, List.forall_mem_append.mpr ⟨lw_r4, lw_r5⟩⟩⟩⟩
/-- the streams that the claim lets the run draw from -/
abbrev lw_cs : List Choice := [Jvm.Choice.named "NaN.bits"]
theorem lw_bits : nanBits ∈ lw_cs := by first | decide | exact List.mem_cons_self | simp [lw_cs, nanBits]
-- ===== end of PART A; then your names; then what follows =====
end
section
/-- what the names' rows lack: an array class over arrays, as a word of the tables -/
def va_AOA (t : FieldType) (U : State) : Prop := (Cond.arrayOver (.array t)).before #[] U = true
theorem va_AOA.use {t : FieldType} {A : Array Value} {U : State} (h : va_AOA t U) : (Cond.arrayOver (.array t)).before A U = true := h
end
section
/-! ===== BEGIN words of one list among another's, by their places ===== -/
theorem goodIn_r {big : List Cond} (ws : List Cond) (ps : List Nat) (hp : ws = ps.filterMap (fun i => big[i]?)) (h : ws.all goodWord = true) : GoodIn big ws := by
  intro w hw
  have h1 := List.all_eq_true.mp h w hw
  rw [hp] at hw
  obtain ⟨i, -, hi⟩ := List.mem_filterMap.mp hw
  have hm : w ∈ big := by first | exact List.mem_of_getElem? hi | exact List.getElem?_mem hi
  exact ⟨hm, good_of_word h1⟩
theorem goodIn_app {big a b : List Cond} (ha : GoodIn big a) (hb : GoodIn big b) : GoodIn big (a ++ b) := fun w h => (List.mem_append.mp h).elim (ha w) (hb w)
theorem goodIn_ca {big a b : List Cond} {c : Cond} (ha : GoodIn big (c :: a)) (hb : GoodIn big b) : GoodIn big (c :: (a ++ b)) := fun w h => (List.mem_cons.mp h).elim (fun e => ha w (List.mem_cons.mpr (Or.inl e))) (fun h => (List.mem_append.mp h).elim (fun h => ha w (List.mem_cons.mpr (Or.inr h))) (hb w))
theorem goodIn_sub {big ws : List Cond} (hm : ∀ w ∈ ws, w ∈ big) (h : ws.all goodWord = true) : GoodIn big ws := fun w hw => ⟨hm w hw, good_of_word (List.all_eq_true.mp h w hw)⟩
/-! ===== END ===== -/

/-! ===== BEGIN new T[n][m]: the outer array a place, the inner ones among the pooled ===== -/
/-- f, but v at every address of l -/
def vr_up {α : Type} (f : Nat → α) (l : List Nat) (v : α) : Nat → α := fun a => if a ∈ l then v else f a
theorem vr_up_in {α : Type} {f : Nat → α} {l : List Nat} {v : α} {a : Nat} (h : a ∈ l) : vr_up f l v a = v := if_pos h
theorem vr_up_ne {α : Type} {f : Nat → α} {l : List Nat} {v : α} {a : Nat} (h : a ∉ l) : vr_up f l v a = f a := if_neg h
theorem vr_rows {L l : List Nat} {f : Nat → va_E} {e : va_E} (h : ∀ a, a ∈ l → a ∉ L) : va_pl L f ++ l.map (fun a => (a, e)) = va_pl (L ++ l) (vr_up f l e) := by
  unfold va_pl
  rw [List.map_append]
  congr 1
  · apply List.map_congr_left
    intro a ha
    rw [vr_up_ne (fun q => h a q ha)]
  · apply List.map_congr_left
    intro a ha
    rw [vr_up_in ha]
theorem vr_lay {X rows : va_W} {x : Nat × va_E} {pl : va_W} {D : va_G} {cl : List vw_C} {H : Heap} (hP : va_P D cl (((X ++ pl) ++ [x]) ++ rows) H) : va_P D cl ((X ++ [x]) ++ (pl ++ rows)) H := by
  rw [List.append_assoc (X ++ pl)] at hP
  have h := va_P.swap hP
  rw [← List.append_assoc X] at h
  have h2 := va_P.swap h
  rw [List.append_assoc (X ++ [x])] at h2
  exact h2
theorem vr_layD {X rows : va_W} {x : Nat × va_E} {pl : va_W} {A : Nat → Prop} (hD : va_D A (((X ++ pl) ++ [x]) ++ rows)) : va_D A ((X ++ [x]) ++ (pl ++ rows)) := by
  rw [List.append_assoc (X ++ pl)] at hD
  have h := va_D.swap hD
  rw [← List.append_assoc X] at h
  have h2 := va_D.swap h
  rw [List.append_assoc (X ++ [x])] at h2
  exact h2
theorem vr_outer (c : ClassId) (N h0 : Nat) : ∀ i : Nat, Jvm.Free.Multi.outerC c N h0 i = arrV c N (fun j => va_rf (if j < i then some (h0 + 1 + j) else none))
  | 0 => by
    show ({ cls := c, slots := Array.replicate N .null, vm := .none } : Cell) = _
    rw [arrV_new]
    refine congrArg (arrV c N) (funext fun j => ?_)
    simp [va_rf]
  | i + 1 => by
    show (Jvm.Free.Multi.outerC c N h0 i).setSlot i (.ref (h0 + 1 + i)) = _
    rw [vr_outer c N h0 i, arrV_store]
    refine congrArg (arrV c N) (funext fun j => ?_)
    by_cases e : j = i
    · subst e
      simp [updV, va_rf]
    · by_cases h : j < i
      · simp [updV, e, h, Nat.lt_succ_of_lt h]
      · simp [updV, e, h, show ¬ j < i + 1 by omega]
section VGM
variable {p : Program} {l : Launch} {e : Env} {R : Room} {s : State} {m : MethodId} {args : Array Value} {below : List Frame} {meth : Method} {c : Code} {H : Heap} {locs : List Loc} {cells slots : Nat} {Q : State → Prop}
variable {cc : ByteArray} {pc : Nat} {ls : Array Slot} {rest : List Value} {D : va_G} {cl : List vw_C} {A : Nat → Prop} {a : Nat} {tys : List (ClassId × FieldType)} {ws : va_W} {H0 : Heap}
theorem va_mna {X : va_W} {L : List Nat} {f : Nat → va_E} {cc : ByteArray} (hexec : p.tables.exec = Jvm.exec) (hb : c.code = cc) {own : String} {index : Nat} {ty : FieldType} {cy : ClassId} (hown : s.vm.findClass own = some m.cls) (hclink : (Cond.classLink own index ("[" ++ (FieldType.array ty).toString)).before args s = true) (hover : va_AOA ty s) (harr : (Cond.arrayClass ty).before args s = true) (hcy : s.vm.findClass (FieldType.array ty).toString = some cy)
    (hK : va_K D cl tys s) (hP : va_P D cl (X ++ va_pl L f) H) (hD : va_D A (X ++ va_pl L f)) (hS : va_S A H0 H locs) (hA : ∀ q, H0.size ≤ q → A q) {n k : Int32} {N' K' : Nat} {z : vp_A} (hn : ¬ n < 0) (hk : ¬ k < 0) (hN : n.toNatClampNeg = N') (hM : k.toNatClampNeg = K')
    (hb1 : N' * 4 ≤ 536870912) (hb2 : K' * componentBytes ty ≤ 536870912) (hb3 : K' ≤ 536870912) (hdf : fits ty (defaultValue ty) = true) (hdd : (defaultValue ty).isDefault = true) (hcells : cells + (1 + N') ≤ R.cells) (hslots : slots + (N' + N' * K') ≤ R.slots) (hz : ∀ c : ClassId, Jvm.Free.Multi.innerC c K' (defaultValue ty) = vp_cell c z) (hdg : decode cc pc = .ok (.multianewarray index 2, 4))
    (kk : ∀ (q : Nat) (r : Nat → Nat) (cA : ClassId) (H1 : Heap), (∀ i j : Nat, i < N' → j < N' → r i = r j → i = j) → (∀ i : Nat, i < N' → r i ∉ L) → va_K D cl (tys ++ [(cA, .array ty)]) s →
      va_P D cl ((X ++ [(q, .inl (cA, N', .inr (.inr (.inr (.inr (fun i => if i < N' then some (r i) else none))))))]) ++ va_pl (L ++ (List.range N').map r) (vr_up f ((List.range N').map r) (.inl (cy, z)))) H1 → va_D A ((X ++ [(q, .inl (cA, N', .inr (.inr (.inr (.inr (fun i => if i < N' then some (r i) else none))))))]) ++ va_pl (L ++ (List.range N').map r) (vr_up f ((List.range N').map r) (.inl (cy, z)))) → va_S A H0 H1 locs →
      W p l e R s m args below meth c H1 locs (cells + 1 + N') (slots + N' + N' * K') Q (F0 m (pc + 4) ls (.ref q :: rest))) : W p l e R s m args below meth c H locs cells slots Q (F0 m pc ls (.int k :: .int n :: rest)) := by
  subst hN
  subst hM
  intro T hT Xs
  obtain ⟨vm₁, cA, comp, -, fA, fC, hO, -, X', step⟩ := Xs.multianewarray2F hexec hown hclink (va_AOA.use hover) harr (g := F0 m pc ls (.int k :: .int n :: rest)) rfl (by rw [hb]; exact hdg) rfl hn hk hb1 hb2 hb3 hdf hdd hcells hslots
  have ec : some cy = some comp := hcy.symm.trans fC
  cases ec
  generalize hF : Jvm.Free.Multi.fill (T.setVm vm₁) cA cy n.toNatClampNeg k.toNatClampNeg (defaultValue ty) n.toNatClampNeg = F at X' step
  have hTh : (T.setVm vm₁).heap = H := hT
  obtain ⟨f1, f2, -, -⟩ := Jvm.Free.Multi.fill_facts (T.setVm vm₁) cA cy n.toNatClampNeg k.toNatClampNeg (defaultValue ty) n.toNatClampNeg
  rw [hF, hTh] at f1 f2
  have hold : ∀ x : Nat, x < H.size → F.heap[x]? = H[x]? := fun x hx => by
    have := Jvm.Free.Multi.fill_old (T.setVm vm₁) cA cy n.toNatClampNeg k.toNatClampNeg (defaultValue ty) (a := x) (by rw [hTh]; exact hx) n.toNatClampNeg
    rw [hF, hTh] at this
    exact this
  have hrow : ∀ j : Nat, j < n.toNatClampNeg → F.heap[H.size + 1 + j]? = some (vp_cell cy z) := fun j hj => by
    have := Jvm.Free.Multi.fill_inner (T.setVm vm₁) cA cy n.toNatClampNeg k.toNatClampNeg (defaultValue ty) n.toNatClampNeg j hj
    rw [hF, hTh, hz] at this
    exact this
  have hout : Jvm.Free.Multi.outerC cA n.toNatClampNeg H.size n.toNatClampNeg = vp_cell cA (n.toNatClampNeg, .inr (.inr (.inr (.inr (fun i => if i < n.toNatClampNeg then some (H.size + 1 + i) else none))))) := by
    rw [vp_cell_q]
    exact vr_outer cA n.toNatClampNeg H.size n.toNatClampNeg
  rw [hout] at f2
  have hlt : ∀ a, a ∈ L → a < H.size := fun a ha => by
    obtain ⟨k9, hk9⟩ := va_pl_get (X := X) (f := f) ha
    exact (hP k9 _ hk9).lt
  have hnl : ∀ i : Nat, i < n.toNatClampNeg → H.size + 1 + i ∉ L := fun i _ h => by
    have := hlt _ h
    omega
  have hnm : ∀ a, a ∈ (List.range n.toNatClampNeg).map (fun i => H.size + 1 + i) → a ∉ L := fun a ha h => by
    obtain ⟨i, -, rfl⟩ := List.mem_map.mp ha
    have := hlt _ h
    omega
  have hP0 : va_P D cl (X ++ va_pl L f) F.heap := hP.kept (fun k9 x hx => hold x.1 ((hP k9 x hx).lt))
  have hP1 : va_P D cl ((X ++ va_pl L f) ++ [(H.size, .inl (cA, n.toNatClampNeg, .inr (.inr (.inr (.inr (fun i => if i < n.toNatClampNeg then some (H.size + 1 + i) else none))))))]) F.heap := hP0.app (fun k9 x hx => by
    have h0 : k9 < 1 := (List.getElem?_eq_some_iff.mp hx).1
    rw [show k9 = 0 by omega] at hx
    cases hx
    exact f2)
  have hP2 : va_P D cl (((X ++ va_pl L f) ++ [(H.size, .inl (cA, n.toNatClampNeg, .inr (.inr (.inr (.inr (fun i => if i < n.toNatClampNeg then some (H.size + 1 + i) else none))))))]) ++ ((List.range n.toNatClampNeg).map (fun i => H.size + 1 + i)).map (fun a => (a, .inl (cy, z)))) F.heap := hP1.app (fun k9 x hx => by
    obtain ⟨a, ha, rfl⟩ := List.mem_map.mp (List.mem_of_getElem? hx)
    obtain ⟨i, hi, rfl⟩ := List.mem_map.mp ha
    exact hrow i (List.mem_range.mp hi))
  have hD2 : va_D A (((X ++ va_pl L f) ++ [(H.size, .inl (cA, n.toNatClampNeg, .inr (.inr (.inr (.inr (fun i => if i < n.toNatClampNeg then some (H.size + 1 + i) else none))))))]) ++ ((List.range n.toNatClampNeg).map (fun i => H.size + 1 + i)).map (fun a => (a, .inl (cy, z)))) := by
    have hD1 := hD.push (e := .inl (cA, n.toNatClampNeg, .inr (.inr (.inr (.inr (fun i => if i < n.toNatClampNeg then some (H.size + 1 + i) else none)))))) hP rfl (hA _ hS.1)
    generalize hW1 : (X ++ va_pl L f) ++ [(H.size, .inl (cA, n.toNatClampNeg, .inr (.inr (.inr (.inr (fun i => if i < n.toNatClampNeg then some (H.size + 1 + i) else none))))))] = W1 at hD1 hP1 ⊢
    have hle : ∀ (k9 : Nat) (x : Nat × va_E), W1[k9]? = some x → x.1 ≤ H.size := fun k9 x hx => by
      rw [← hW1] at hx
      by_cases hl : k9 < (X ++ va_pl L f).length
      · rw [List.getElem?_append_left hl] at hx
        exact Nat.le_of_lt ((hP k9 x hx).lt)
      · rw [List.getElem?_append_right (by omega)] at hx
        have h0 : k9 - (X ++ va_pl L f).length < 1 := (List.getElem?_eq_some_iff.mp hx).1
        rw [show k9 - (X ++ va_pl L f).length = 0 by omega] at hx
        cases hx
        exact Nat.le_refl _
    have hr : ∀ (k9 : Nat) (x : Nat × va_E), (((List.range n.toNatClampNeg).map (fun i => H.size + 1 + i)).map (fun a => ((a, .inl (cy, z)) : Nat × va_E)))[k9]? = some x → x.1 = H.size + 1 + k9 := fun k9 x hx => by
      rw [List.getElem?_map, List.getElem?_map] at hx
      by_cases h9 : k9 < n.toNatClampNeg
      · rw [List.getElem?_range h9] at hx
        cases hx
        rfl
      · have hn0 : (List.range n.toNatClampNeg)[k9]? = none := List.getElem?_eq_none (by rw [List.length_range]; omega)
        rw [hn0] at hx
        cases hx
    refine ⟨fun i j x y hi hj hxy => ?_, fun k9 x hx => ?_⟩
    · by_cases h1 : i < W1.length <;> by_cases h2 : j < W1.length
      · rw [List.getElem?_append_left h1] at hi
        rw [List.getElem?_append_left h2] at hj
        exact hD1.1 i j x y hi hj hxy
      · rw [List.getElem?_append_left h1] at hi
        rw [List.getElem?_append_right (by omega)] at hj
        have := hle _ _ hi
        have := hr _ _ hj
        omega
      · rw [List.getElem?_append_right (by omega)] at hi
        rw [List.getElem?_append_left h2] at hj
        have := hle _ _ hj
        have := hr _ _ hi
        omega
      · rw [List.getElem?_append_right (by omega)] at hi hj
        have := hr _ _ hi
        have := hr _ _ hj
        omega
    · by_cases h1 : k9 < W1.length
      · rw [List.getElem?_append_left h1] at hx
        exact hD1.2 k9 x hx
      · rw [List.getElem?_append_right (by omega)] at hx
        have := hr _ _ hx
        exact hA _ (by have := hS.1; omega)
  have hAr : ArrOfT s cA (.array ty) := fun N9 z9 => by
    obtain ⟨-, k9, hk9, cm9, hkk9⟩ := (hO 0 0 0).1
    exact ⟨(fun q hq => by cases hq), k9, hk9, cm9, hkk9⟩
  have hK2 : va_K D cl (tys ++ [(cA, .array ty)]) s := ⟨hK.1, fun k9 x hx => by
    by_cases hl : k9 < tys.length
    · rw [List.getElem?_append_left hl] at hx
      exact hK.2 k9 x hx
    · rw [List.getElem?_append_right (by omega)] at hx
      have h0 : k9 - tys.length < 1 := (List.getElem?_eq_some_iff.mp hx).1
      rw [show k9 - tys.length = 0 by omega] at hx
      cases hx
      exact ⟨hAr, fA⟩⟩
  obtain ⟨t, a1, b1⟩ := kk H.size (fun i => H.size + 1 + i) cA F.heap (fun i j _ _ h => by have h9 : H.size + 1 + i = H.size + 1 + j := h; omega) hnl hK2 (by rw [← vr_rows hnm]; exact vr_lay hP2) (by rw [← vr_rows hnm]; exact vr_layD hD2) ⟨by rw [f1]; have := hS.1; omega, fun x h1 h2 => (hold x (Nat.lt_of_lt_of_le h1 hS.1)).trans (hS.2.1 x h1 h2), hS.2.2⟩ F rfl X'
  refine ⟨t, step t ?_, b1⟩
  have e : T.heap.size = H.size := by rw [hT]
  rw [e]
  exact a1
end VGM
/-! ===== END ===== -/

/-! ===== BEGIN exceptions that leave a method, and their catching by the caller (launches without stack traces) ===== -/
section VXA
/-! The laws vx_back, vx_callV, vx_callS, vx_callSW, vx_throw0, vx_throwS follow proofs of the library, with one case more: JvmDerived/Free/Laws.lean (Back.of_free), Shelf42/LK1.lean (callV, callS), Shelf/KitTraced.lean (throwNew0V, throwNewS). -/
/-- where a method has thrown q: the class by its name, the cell, what was written, the world -/
def vx_T (XC : String → State → State → Prop) (st : State) (q : Addr) (t : State) (mc ms : Nat) (free : Addr → Prop) : Prop :=
  ∃ (E : String) (ce : Cell) (L : List Loc), XC E st t ∧ t.heap[q]? = some ce ∧ ce.vm = .none ∧ st.vm.findClass E = some ce.cls ∧ st.WarmedH t.vm ∧ st.sameButNew ({ t with vm := st.vm } : State) L mc ms ∧ ∀ z ∈ L, free z.base
def vx_Q (Qc : Array Value → State → Outcome → State → Prop) (XC : String → State → State → Prop) (mc ms : Nat) (free : Addr → Prop) : Array Value → State → Outcome → State → Prop := fun a st o t =>
  (Qc a st o t ∧ ∃ L, FrameEnd st o t L mc ms ∧ ∀ q ∈ L, free q.base) ∨ ∃ q, o = .threw q ∧ vx_T XC st q t mc ms free
/-- a callee that returns or throws -/
def vx_Met (l : Launch) (y : MethodName) (ws : List Cond) (rm : Room) (Pc : Array Value → State → Prop) (Qc : Array Value → State → Outcome → State → Prop) (XC : String → State → State → Prop) (mc ms : Nat) (free : Addr → Prop) : Prop :=
  MetFree l y (headSpec ws rm) Pc (fun _ _ _ _ _ => True) (vx_Q Qc XC mc ms free)
def vx_Post (XC : String → State → State → Prop) (mc ms : Nat) (free : Addr → Prop) : Pt → Array Value → Addr → Pt → Prop := fun A a q B =>
  ∃ (g : JFrame) (mk : MethodId) (t : State) (L : List Loc) (E : String) (ce : Cell), B.U.heap = t.heap ∧ B.U.vm = t.vm ∧ XC E (A.U.calling g mk a) t ∧ t.heap[q]? = some ce ∧ ce.vm = .none ∧ A.U.vm.findClass E = some ce.cls ∧ B.locs = A.locs ++ L ∧ (∀ z ∈ L, free z.base) ∧ B.cells = A.cells + mc ∧ B.slots = A.slots + ms
def vx_Back (l : Launch) (R : Room) (p : Program) (e : Env) (below : List Frame) (s : State) (sargs : Array Value) (y : MethodName) (len W9 : Nat)
    (Pre : Pt → Array Value → Prop) (Post : Pt → Array Value → Option Value → Pt → Prop) (PostX : Pt → Array Value → Addr → Pt → Prop) : Prop :=
  ∀ (m : MethodId) (meth : Method) (c : Code) (A : Pt) (g : JFrame) (ig : Instr) (mk : MethodId) (a : Array Value),
    Stand p l e R s m sargs below meth c A.U A.locs A.cells A.slots → g.method = m → g.locals.size = c.maxLocals → decode c.code g.pc = .ok (ig, len) →
    2 * g.monitorRoom + (g.stack.map fun v => v.category).sum ≤ W9 → A.U.methodNamed? y = some mk → Pre A a →
    (∃ (v : Option Value) (B : Pt), Stand p l e R s m sargs below meth c B.U B.locs B.cells B.slots ∧ Post A a v B ∧
      Steps p.tables e below (doInvoke e (A.U.setTop g) [] mk a).1 (B.U.setTop { g with pc := g.pc + len, stack := v.toList ++ g.stack })) ∨
    (∃ (q : Addr) (B : Pt), Stand p l e R s m sargs below meth c B.U B.locs B.cells B.slots ∧ PostX A a q B ∧
      Steps p.tables e below (doInvoke e (A.U.setTop g) [] mk a).1 ((B.U.setTop g).pushFrame (.throwing q)))
section Payer
variable {l : Launch} {R : Room} {p : Program} {e : Env} {below : List Frame} {s : State} {sargs : Array Value} {y : MethodName} {len W9 : Nat}
theorem vx_back {ws : List Cond} {rm : Room} {Pc : Array Value → State → Prop} {Qc : Array Value → State → Outcome → State → Prop} {XC : String → State → State → Prop} {mc ms : Nat} {free : Addr → Prop} {bytes : ByteArray} {maxL : Nat} {ret : Option FieldType}
    (hM : vx_Met l y ws rm Pc Qc XC mc ms free) (hblind : FrameBlind Pc) (hrc : rm.cells = mc) (hrs : rm.slots = ms)
    (hframes : rm.frames + 1 ≤ R.frames) (hlocals : W9 + (maxL + 11) + rm.locals ≤ R.locals)
    (hws : ∀ w ∈ ws, ∀ a' U, s.WarmedH U.vm → w.before a' U = true) (hcode : Cond.code y bytes maxL ret ∈ ws) (hinit : ∀ a' U, s.WarmedH U.vm → (Cond.initialized y.cls).before a' U = true) :
    vx_Back l R p e below s sargs y len W9 (PreOf R mc ms Pc) (PostOf Qc mc ms free) (vx_Post XC mc ms free) := by
  intro m meth c A g ig mk a X hg hsize hdg hW hn hp
  have h1 : (headSpec ws rm).pre.before a A.U = true := atoms_intro fun w hw => hws w hw _ _ X.warmed
  have h2 : (Cond.code y bytes maxL ret).before a A.U = true := hws _ hcode _ _ X.warmed
  have h3 : (Cond.initialized y.cls).before a A.U = true := hinit _ _ X.warmed
  have h4 : A.cells + (headSpec ws rm).room.cells ≤ R.cells := by rw [show (headSpec ws rm).room.cells = mc from hrc]; exact hp.1
  have h5 : A.slots + (headSpec ws rm).room.slots ≤ R.slots := by rw [show (headSpec ws rm).room.slots = ms from hrs]; exact hp.2.1
  have hPc : Pc a (A.U.calling g mk a) := hblind _ _ _ _ hp.2.2
  obtain ⟨U, Ls, c0, s0⟩ := A
  dsimp only [Pt.U, Pt.locs, Pt.cells, Pt.slots] at h1 h2 h3 h4 h5 X hn hPc ⊢
  obtain ⟨methY, cY, hmY, hcY, -, hlY, -, -, -, -⟩ := Cond.code_spec hn h2
  obtain ⟨kY, hkY, -⟩ := className_of_methodNamed hn
  have hinitY : kY.init = .initialized := Cond.initialized_spec (findClass_of_methodNamed hn) hkY h3
  have h : At U g.method c below := by rw [hg]; exact X.here
  have hlocals9 : W9 + (maxL + 11) + (headSpec ws rm).room.locals ≤ R.locals := hlocals
  have happ : (headSpec ws rm).appliesLoose y e.platform (U.calling g mk a) = true :=
    Spec.appliesLoose_calling (g := g) h hdg hn hkY hinitY
      (X.room_calling (g := g) (R' := (headSpec ws rm).room) hsize hmY hcY hframes (by rw [hlY]; omega) h4 h5) h1
  obtain ⟨mid, hmid⟩ := h.above
  have hfr : (U.setTop g).frames = (.java g :: mid) ++ below := by rw [State.frames_setTop' g h.top, hmid]; rfl
  obtain ⟨o, s₂, hsteps, -, hend, hq⟩ := Steps.callFree hM p X.admits X.cas X.clock (acts := []) hfr happ hPc trivial
  have hq' : vx_Q Qc XC mc ms free a (U.calling g mk a) o s₂ := hq
  rw [State.frames_setTop' g h.top] at hend
  obtain ⟨g₀, hg0⟩ := Option.isSome_iff_exists.mp h.top
  obtain ⟨r, hr⟩ := State.topJava?_eq_some.mp hg0
  have hr' : (({ U with heap := s₂.heap, slotsUsed := s₂.slotsUsed } : State).setVm s₂.vm).frames = .java g₀ :: r := hr
  rcases hq' with ⟨hqc, L, hfe, hL⟩ | ⟨q, rfl, E, ce, L, hx, hce, hcv, hcl, hW₂, hsm, hL⟩
  · obtain ⟨⟨v, rfl⟩, hW₂, e2, q2, q3, q4, q5, q6⟩ := id hfe
    have e3 : s₂ = ({ (U.calling g mk a).setFrames s₂.frames with heap := s₂.heap, slotsUsed := s₂.slotsUsed } : State).setVm s₂.vm := by
      have : s₂ = ({ s₂ with vm := (U.calling g mk a).vm } : State).setVm s₂.vm := rfl
      rw [e2] at this
      exact this
    obtain ⟨c₂, i₂, len₂, hc₂, hd₂, hf₂⟩ := hend
    have hW' : U.WarmedH s₂.vm := hW₂
    have hcc : c₂ = c := by
      have h1 : s₂.code? g.method = U.code? g.method := by
        rw [State.code?_eq, State.code?_eq, hW'.alike.method?]
      exact Option.some.inj (hc₂.symm.trans (h1.trans h.code))
    subst hcc
    have hlen : len₂ = len := by rw [hdg] at hd₂; cases hd₂; rfl
    subst hlen
    have hs₂ : s₂ = (({ U with heap := s₂.heap, slotsUsed := s₂.slotsUsed } : State).setVm s₂.vm).setTop { g with pc := g.pc + len₂, stack := v.toList ++ g.stack } := by
      refine e3.trans ?_
      rw [hf₂, State.calling_eq h.top, State.setFrames_setFrames, State.setTop_of_frames _ hr', hr]
      rfl
    have hsame : U.sameButNew ({ U with heap := s₂.heap, slotsUsed := s₂.slotsUsed } : State) L mc ms := by
      refine ⟨?_, q2, q3, q4, q5, q6⟩
      obtain ⟨t, ht, -⟩ := State.frames_cons hr
      show ({ U with heap := s₂.heap, slotsUsed := s₂.slotsUsed } : State) = { U.setFrames U.frames with heap := s₂.heap, slotsUsed := s₂.slotsUsed }
      rw [State.setFrames_self ht]
    subst hg
    refine Or.inl ⟨v, ⟨(({ U with heap := s₂.heap, slotsUsed := s₂.slotsUsed } : State).setVm s₂.vm), Ls ++ L, c0 + mc, s0 + ms⟩,
      ⟨X.admits, X.cas, X.clock, X.frames, X.room, X.hears, X.method, X.code, (X.here.setHeapUsed s₂.heap s₂.slotsUsed).setVm hW'.alike, X.tail, State.WarmedH.trans X.warmed hW', X.limits, X.bytes, X.same.trans (hsame.setVm s.vm)⟩,
      ⟨g, mk, s₂, L, rfl, rfl, hqc, rfl, hL, rfl, rfl⟩, ?_⟩
    show Steps p.tables e below _ ((({ U with heap := s₂.heap, slotsUsed := s₂.slotsUsed } : State).setVm s₂.vm).setTop { g with pc := g.pc + len₂, stack := v.toList ++ g.stack })
    rw [← hs₂]
    exact hsteps
  · obtain ⟨e2, q2, q3, q4, q5, q6⟩ := id hsm
    have e3 : s₂ = ({ (U.calling g mk a).setFrames s₂.frames with heap := s₂.heap, slotsUsed := s₂.slotsUsed } : State).setVm s₂.vm := by
      have : s₂ = ({ s₂ with vm := (U.calling g mk a).vm } : State).setVm s₂.vm := rfl
      rw [e2] at this
      exact this
    have hf₂ : s₂.frames = .throwing q :: .java g :: U.frames.tail := hend
    have hW' : U.WarmedH s₂.vm := hW₂
    have hs₂ : s₂ = ((({ U with heap := s₂.heap, slotsUsed := s₂.slotsUsed } : State).setVm s₂.vm).setTop g).pushFrame (.throwing q) := by
      refine e3.trans ?_
      rw [hf₂, State.calling_eq h.top, State.setFrames_setFrames, State.pushFrame, State.frames_setTop _ hr', State.setTop_of_frames _ hr', State.setFrames_setFrames, hr]
      rfl
    have hsame : U.sameButNew ({ U with heap := s₂.heap, slotsUsed := s₂.slotsUsed } : State) L mc ms := by
      refine ⟨?_, q2, q3, q4, q5, q6⟩
      obtain ⟨t, ht, -⟩ := State.frames_cons hr
      show ({ U with heap := s₂.heap, slotsUsed := s₂.slotsUsed } : State) = { U.setFrames U.frames with heap := s₂.heap, slotsUsed := s₂.slotsUsed }
      rw [State.setFrames_self ht]
    subst hg
    refine Or.inr ⟨q, ⟨(({ U with heap := s₂.heap, slotsUsed := s₂.slotsUsed } : State).setVm s₂.vm), Ls ++ L, c0 + mc, s0 + ms⟩,
      ⟨X.admits, X.cas, X.clock, X.frames, X.room, X.hears, X.method, X.code, (X.here.setHeapUsed s₂.heap s₂.slotsUsed).setVm hW'.alike, X.tail, State.WarmedH.trans X.warmed hW', X.limits, X.bytes, X.same.trans (hsame.setVm s.vm)⟩,
      ⟨g, mk, s₂, L, E, ce, rfl, rfl, hx, hce, hcv, hcl, rfl, hL, rfl, rfl⟩, ?_⟩
    show Steps p.tables e below _ (((({ U with heap := s₂.heap, slotsUsed := s₂.slotsUsed } : State).setVm s₂.vm).setTop g).pushFrame (.throwing q))
    rw [← hs₂]
    exact hsteps
end Payer
section Calls
variable {p : Program} {l : Launch} {e : Env} {R : Room} {s : State} {m : MethodId} {args : Array Value} {below : List Frame} {meth : Method} {c : Code} {T : State} {locs : List Loc} {cells slots : Nat}
theorem vx_callV (X : Stand p l e R s m args below meth c T locs cells slots) (hexec : p.tables.exec = Jvm.exec) {own C : String} {index : Nat} {y : MethodName} {bytes : ByteArray} {maxL : Nat} {ret : Option FieldType}
    (hown : s.vm.findClass own = some m.cls) (hlink : (Cond.methodLink own index y).before args s = true) (hinst : (Cond.instanceMethod y).before args s = true) (hsel : (Cond.selects C y y).before args s = true)
    (hcode : (Cond.code y bytes maxL ret).before args s = true) (hy : y.cls ≠ "java/lang/invoke/MethodHandle" ∧ y.cls ≠ "java/lang/invoke/VarHandle")
    {W9 : Nat} {Pre : Pt → Array Value → Prop} {Post : Pt → Array Value → Option Value → Pt → Prop} {PostX : Pt → Array Value → Addr → Pt → Prop} (hK : vx_Back l R p e below s args y 3 W9 Pre Post PostX)
    {b : Addr} {cellB : Cell} (hcell : T.heap[b]? = some cellB) (hobj : cellB.vm.isStatics = false) (hcls : s.vm.findClass C = some cellB.cls)
    {g : JFrame} (hg : g.method = m) (hsize : g.locals.size = c.maxLocals) {argsL rest : List Value} (hlen : ∀ sig, parseMethodDescriptor y.desc = some sig → argsL.length = sig.parameters.length)
    (hstack : g.stack = argsL.reverse ++ .ref b :: rest) (hW : 2 * g.monitorRoom + (rest.map fun v => v.category).sum ≤ W9) (hdg : decode c.code g.pc = .ok (.invokevirtual index, 3))
    (hpre : ∀ vm₁, s.WarmedH vm₁ → Pre ⟨T.setVm vm₁, locs, cells, slots⟩ (Value.ref b :: argsL).toArray) :
    (∃ (v : Option Value) (vm₁ : Vm) (B : Pt), s.WarmedH vm₁ ∧ Stand p l e R s m args below meth c B.U B.locs B.cells B.slots ∧ Post ⟨T.setVm vm₁, locs, cells, slots⟩ (Value.ref b :: argsL).toArray v B ∧
      ∀ target, Steps p.tables e below (B.U.setTop { g with pc := g.pc + 3, stack := v.toList ++ rest }) target → Steps p.tables e below (T.setTop g) target) ∨
    (∃ (q : Addr) (vm₁ : Vm) (B : Pt), s.WarmedH vm₁ ∧ Stand p l e R s m args below meth c B.U B.locs B.cells B.slots ∧ PostX ⟨T.setVm vm₁, locs, cells, slots⟩ (Value.ref b :: argsL).toArray q B ∧
      Steps p.tables e below (T.setTop g) ((B.U.setTop { g with stack := rest }).pushFrame (.throwing q))) := by
  obtain ⟨mk, methM, hnamed, hmethM, hstM, habM⟩ := Cond.instanceMethod_spec hinst
  obtain ⟨methM', cM, hmethM', -, -, -, -, -, -, hsigM⟩ := Cond.code_spec hnamed hcode
  cases hmethM.symm.trans hmethM'
  obtain ⟨c2, r2, m2, q1, q2, q3, q4, kP, hkP, hkPi⟩ := Cond.selects_spec hsel
  cases hcls.symm.trans q1
  cases (State.methodFound?_of_named hnamed hy).symm.trans q2
  cases hnamed.symm.trans q3
  have hselP : selectMethod e.platform s.vm cellB.cls mk = .method mk := by rw [Launch.admits_selectMethod X.admits]; exact q4
  obtain ⟨vm₁, X₁, hstep₁⟩ := X.invokevirtual hexec hown hlink hnamed hmethM hstM hkP hkPi hy (a := b) (cell := cellB) hcell
    (fun z h => by rw [h] at hobj; cases hobj) hselP hmethM habM hkP hkPi (g := g) hg (argsL := argsL) (rest := rest) (hlen _ hsigM) hstack hdg
  rcases hK m meth c ⟨T.setVm vm₁, locs, cells, slots⟩ { g with stack := rest } (.invokevirtual index) mk (Value.ref b :: argsL).toArray X₁ hg hsize hdg hW (X₁.named hnamed) (hpre vm₁ X₁.warmed) with ⟨v, B, X', hpost, hsteps⟩ | ⟨q, B, X', hpost, hsteps⟩
  · exact Or.inl ⟨v, vm₁, B, X₁.warmed, X', hpost, fun target h => hstep₁ _ fun acts => by rw [doInvoke_state]; exact hsteps.trans h⟩
  · exact Or.inr ⟨q, vm₁, B, X₁.warmed, X', hpost, hstep₁ _ fun acts => by rw [doInvoke_state]; exact hsteps⟩
theorem vx_callS (X : Stand p l e R s m args below meth c T locs cells slots) (hexec : p.tables.exec = Jvm.exec) {own : String} {index : Nat} {y : MethodName} {bytes : ByteArray} {maxL : Nat} {ret : Option FieldType}
    (hown : s.vm.findClass own = some m.cls) (hlink : (Cond.methodLink own index y).before args s = true) (hstat : (Cond.static y).before args s = true) (hinit : (Cond.initialized y.cls).before args s = true)
    (hcode : (Cond.code y bytes maxL ret).before args s = true) (hy : y.cls ≠ "java/lang/invoke/MethodHandle" ∧ y.cls ≠ "java/lang/invoke/VarHandle")
    {W9 : Nat} {Pre : Pt → Array Value → Prop} {Post : Pt → Array Value → Option Value → Pt → Prop} {PostX : Pt → Array Value → Addr → Pt → Prop} (hK : vx_Back l R p e below s args y 3 W9 Pre Post PostX)
    {g : JFrame} (hg : g.method = m) (hsize : g.locals.size = c.maxLocals) {argsL rest : List Value} (hlen : ∀ sig, parseMethodDescriptor y.desc = some sig → argsL.length = sig.parameters.length)
    (hstack : g.stack = argsL.reverse ++ rest) (hW : 2 * g.monitorRoom + (rest.map fun v => v.category).sum ≤ W9) (hdg : decode c.code g.pc = .ok (.invokestatic index, 3))
    (hpre : ∀ vm₁, s.WarmedH vm₁ → Pre ⟨T.setVm vm₁, locs, cells, slots⟩ argsL.toArray) :
    (∃ (v : Option Value) (vm₁ : Vm) (B : Pt), s.WarmedH vm₁ ∧ Stand p l e R s m args below meth c B.U B.locs B.cells B.slots ∧ Post ⟨T.setVm vm₁, locs, cells, slots⟩ argsL.toArray v B ∧
      ∀ target, Steps p.tables e below (B.U.setTop { g with pc := g.pc + 3, stack := v.toList ++ rest }) target → Steps p.tables e below (T.setTop g) target) ∨
    (∃ (q : Addr) (vm₁ : Vm) (B : Pt), s.WarmedH vm₁ ∧ Stand p l e R s m args below meth c B.U B.locs B.cells B.slots ∧ PostX ⟨T.setVm vm₁, locs, cells, slots⟩ argsL.toArray q B ∧
      Steps p.tables e below (T.setTop g) ((B.U.setTop { g with stack := rest }).pushFrame (.throwing q))) := by
  obtain ⟨mk, hnamed⟩ := Cond.code_named hcode
  obtain ⟨methM, cM, hmethM, -, -, -, -, -, -, hsigM⟩ := Cond.code_spec hnamed hcode
  have hstatic : methM.isStatic = true := Cond.static_spec hnamed hmethM hstat
  obtain ⟨kP, hkP, -⟩ := className_of_methodNamed hnamed
  have hinitP : kP.init = .initialized := Cond.initialized_spec (findClass_of_methodNamed hnamed) hkP hinit
  obtain ⟨vm₁, X₁, hstep₁⟩ := X.invokestatic hexec hown hlink hnamed hmethM hstatic hkP hinitP hy (g := g) hg (argsL := argsL) (rest := rest) (hlen _ hsigM) hstack hdg
  rcases hK m meth c ⟨T.setVm vm₁, locs, cells, slots⟩ { g with stack := rest } (.invokestatic index) mk argsL.toArray X₁ hg hsize hdg hW (X₁.named hnamed) (hpre vm₁ X₁.warmed) with ⟨v, B, X', hpost, hsteps⟩ | ⟨q, B, X', hpost, hsteps⟩
  · exact Or.inl ⟨v, vm₁, B, X₁.warmed, X', hpost, fun target h => hstep₁ _ fun acts => by rw [doInvoke_state]; exact hsteps.trans h⟩
  · exact Or.inr ⟨q, vm₁, B, X₁.warmed, X', hpost, hstep₁ _ fun acts => by rw [doInvoke_state]; exact hsteps⟩
end Calls
theorem vx_cls {s : State} {T : State} {vm₁ : Vm} {E : String} {k : ClassId} (hW : s.WarmedH vm₁) (h : (T.setVm vm₁).vm.findClass E = some k) : s.vm.findClass E = some k := by
  have h1 : vm₁.findClass E = some k := h
  rw [hW.alike.findClass] at h1
  exact h1
/-- the method's frame g, with q thrown over it -/
def vx_W (p : Program) (l : Launch) (e : Env) (R : Room) (s : State) (m : MethodId) (args : Array Value) (below : List Frame) (meth : Method) (c : Code) (H : Heap) (locs : List Loc) (cells slots : Nat) (Q : State → Prop) (g : JFrame) (q : Addr) : Prop :=
  ∀ T : State, T.heap = H → Stand p l e R s m args below meth c T locs cells slots → ∃ t, Steps p.tables e below ((T.setTop g).pushFrame (.throwing q)) t ∧ Q t
def vx_Run (p : Program) (l : Launch) (e : Env) (R : Room) (s : State) (m : MethodId) (args : Array Value) (below : List Frame) (meth : Method) (c : Code) (H : Heap) (locs : List Loc) (cells slots mc ms : Nat) (g : JFrame) (rest : List Value) (Qa : State → Outcome → State → Prop) (XC : String → State → State → Prop) (free : Addr → Prop) : Prop :=
  ∀ T : State, T.heap = H → Stand p l e R s m args below meth c T locs cells slots →
    (∃ (v : Option Value) (st₀ t T' : State) (L : List Loc), st₀.heap = H ∧ Stand p l e R s m args below meth c T' (locs ++ L) (cells + mc) (slots + ms) ∧ (∀ q ∈ L, free q.base) ∧ T'.heap = t.heap ∧ T'.vm = t.vm ∧ Qa st₀ (.returned v) t ∧
      Goes p e below T g T' { g with pc := g.pc + 3, stack := v.toList ++ rest }) ∨
    (∃ (q : Addr) (st₀ t T' : State) (L : List Loc) (E : String) (ce : Cell), st₀.heap = H ∧ Stand p l e R s m args below meth c T' (locs ++ L) (cells + mc) (slots + ms) ∧ (∀ z ∈ L, free z.base) ∧ T'.heap = t.heap ∧ T'.vm = t.vm ∧ XC E st₀ t ∧ t.heap[q]? = some ce ∧ ce.vm = .none ∧ s.vm.findClass E = some ce.cls ∧
      Steps p.tables e below (T.setTop g) ((T'.setTop { g with stack := rest }).pushFrame (.throwing q)))
def vx_X {S : Type} (px : S → Prop) (B : String → S → State → Prop) (A : Nat → Prop) : String → State → State → Prop := fun E st t => ∃ u : S, px u ∧ B E u t ∧ va_F A st t
section Runs
variable {p : Program} {l : Launch} {e : Env} {R : Room} {s : State} {m : MethodId} {args : Array Value} {below : List Frame} {meth : Method} {c : Code} {H : Heap} {locs : List Loc} {cells slots : Nat}
variable {y : MethodName} {bytes cc : ByteArray} {maxL nL mc ms n index : Nat} {ret : Option FieldType} {ws : List Cond} {rm : Room} {Pc : Array Value → State → Prop} {Qc : Array Value → State → Outcome → State → Prop} {XC : String → State → State → Prop} {free : Addr → Prop} {Ts : List Cond} {own C : String} {b : Addr} {As rest : List Value} {g : JFrame}
theorem vx_callBack (cb : CallB R s args own index y bytes maxL ret ws rm mc ms n) (hM : vx_Met l y ws rm Pc Qc XC mc ms free) (hbl : FrameBlind Pc) : vx_Back l R p e below s args y 3 8 (PreOf R mc ms Pc) (PostOf Qc mc ms free) (vx_Post XC mc ms free) := by
  obtain ⟨hrc, hrs, hfr, hlo, hws, hcw, -, hini, -⟩ := cb
  exact vx_back (bytes := bytes) (maxL := maxL) (ret := ret) hM hbl hrc hrs hfr hlo hws hcw (fun a' U hW => word_at hW (Or.inl (by first | rfl | simp [Cond.onTables, Cond.keeps, Cond.steady])) hini)
theorem vx_runV (S : CallFix p m c cc nL s args Ts own) (hM : vx_Met l y ws rm Pc Qc XC mc ms free) (cw : CallW R s args own C index y bytes maxL ret ws rm mc ms n) (hp : PreV s H C b Pc As)
    (hg : g.method = m) (hn : As.length = n) (hsize : g.locals.size = nL) (hstack : g.stack = As.reverse ++ .ref b :: rest) (hW : 2 * g.monitorRoom + (rest.map fun v => v.category).sum ≤ 8) (hdg : decode cc g.pc = .ok (.invokevirtual index, 3)) (hf : cells + mc ≤ R.cells ∧ slots + ms ≤ R.slots) :
    vx_Run p l e R s m args below meth c H locs cells slots mc ms g rest (Qc (Value.ref b :: As).toArray) XC free := by
  have hK : vx_Back l R p e below s args y 3 8 (PreOf R mc ms Pc) (PostOf Qc mc ms free) (vx_Post XC mc ms free) := vx_callBack cw.1 hM hp.1
  obtain ⟨⟨-, -, -, -, -, -, hcode, -, hy, hlen, hl⟩, hin, hse⟩ := cw
  obtain ⟨hx, hb, hml, ho, -⟩ := S
  obtain ⟨-, ⟨cellB, hcB, hoB, hclB⟩, hPc⟩ := hp
  intro T hT X
  rcases vx_callV X hx (C := C) (bytes := bytes) (maxL := maxL) (ret := ret) ho hl hin hse hcode hy hK (by rw [hT]; exact hcB) hoB hclB hg (hsize.trans hml.symm) (argsL := As) (rest := rest) (fun sig h => hn.trans (hlen sig h)) hstack hW (by rw [hb]; exact hdg)
    (fun vm₁ hW₁ => ⟨hf.1, hf.2, hPc (T.setVm vm₁) hT hW₁⟩) with ⟨v, vm₁, ⟨U', l2, c2, s2⟩, hW₁, X', ⟨g', mk, t, L, e1, e2, hq, h1, hL, h2, h3⟩, st⟩ | ⟨q, vm₁, ⟨U', l2, c2, s2⟩, hW₁, X', ⟨g', mk, t, L, E, ce, e1, e2, hq, hce, hcv, hcl, h1, hL, h2, h3⟩, st⟩
  · dsimp only [Pt.U, Pt.locs, Pt.cells, Pt.slots] at X' e1 e2 h1 h2 h3 st
    subst h1; subst h2; subst h3
    exact Or.inl ⟨v, (T.setVm vm₁).calling g' mk (Value.ref b :: As).toArray, t, U', L, hT, X', hL, e1, e2, hq, st⟩
  · dsimp only [Pt.U, Pt.locs, Pt.cells, Pt.slots] at X' e1 e2 h1 h2 h3 st hcl
    subst h1; subst h2; subst h3
    exact Or.inr ⟨q, (T.setVm vm₁).calling g' mk (Value.ref b :: As).toArray, t, U', L, E, ce, hT, X', hL, e1, e2, hq, hce, hcv, vx_cls hW₁ hcl, st⟩
theorem vx_runS (S : CallFix p m c cc nL s args Ts own) (hM : vx_Met l y ws rm Pc Qc XC mc ms free) (cw : CallB R s args own index y bytes maxL ret ws rm mc ms n ∧ (Cond.static y).before args s = true) (hp : PreS s H Pc As)
    (hg : g.method = m) (hn : As.length = n) (hsize : g.locals.size = nL) (hstack : g.stack = As.reverse ++ rest) (hW : 2 * g.monitorRoom + (rest.map fun v => v.category).sum ≤ 8) (hdg : decode cc g.pc = .ok (.invokestatic index, 3)) (hf : cells + mc ≤ R.cells ∧ slots + ms ≤ R.slots) :
    vx_Run p l e R s m args below meth c H locs cells slots mc ms g rest (Qc As.toArray) XC free := by
  have hK : vx_Back l R p e below s args y 3 8 (PreOf R mc ms Pc) (PostOf Qc mc ms free) (vx_Post XC mc ms free) := vx_callBack cw.1 hM hp.1
  obtain ⟨⟨-, -, -, -, -, -, hcode, hini, hy, hlen, hl⟩, hstt⟩ := cw
  obtain ⟨hx, hb, hml, ho, -⟩ := S
  intro T hT X
  rcases vx_callS X hx (bytes := bytes) (maxL := maxL) (ret := ret) ho hl hstt hini hcode hy hK hg (hsize.trans hml.symm) (argsL := As) (rest := rest) (fun sig h => hn.trans (hlen sig h)) hstack hW (by rw [hb]; exact hdg)
    (fun vm₁ hW₁ => ⟨hf.1, hf.2, hp.2 (T.setVm vm₁) hT hW₁⟩) with ⟨v, vm₁, ⟨U', l2, c2, s2⟩, hW₁, X', ⟨g', mk, t, L, e1, e2, hq, h1, hL, h2, h3⟩, st⟩ | ⟨q, vm₁, ⟨U', l2, c2, s2⟩, hW₁, X', ⟨g', mk, t, L, E, ce, e1, e2, hq, hce, hcv, hcl, h1, hL, h2, h3⟩, st⟩
  · dsimp only [Pt.U, Pt.locs, Pt.cells, Pt.slots] at X' e1 e2 h1 h2 h3 st
    subst h1; subst h2; subst h3
    exact Or.inl ⟨v, (T.setVm vm₁).calling g' mk As.toArray, t, U', L, hT, X', hL, e1, e2, hq, st⟩
  · dsimp only [Pt.U, Pt.locs, Pt.cells, Pt.slots] at X' e1 e2 h1 h2 h3 st hcl
    subst h1; subst h2; subst h3
    exact Or.inr ⟨q, (T.setVm vm₁).calling g' mk As.toArray, t, U', L, E, ce, hT, X', hL, e1, e2, hq, hce, hcv, vx_cls hW₁ hcl, st⟩
end Runs
section Rows
variable {p : Program} {l : Launch} {e : Env} {R : Room} {s : State} {m : MethodId} {args : Array Value} {below : List Frame} {meth : Method} {c : Code} {H : Heap} {locs : List Loc} {cells slots : Nat} {Q : State → Prop}
variable {mc ms : Nat} {free : Addr → Prop} {A0 A1 : Nat → Prop} {H0 : Heap} {a : Array Value} {pc : Nat} {ls : Array Slot} {st0 rest : List Value}
theorem vx_keep {st₀ t T' : State} {L : List Loc} (h0 : st₀.heap = H) (e1 : T'.heap = t.heap) (hS : va_S A0 H0 H locs) (hA : ∀ q, q < H.size → A1 q → A0 q) (hf : ∀ q, free q → A0 q) (hL : ∀ q ∈ L, free q.base) (hF : va_F A1 st₀ t) :
    H.size ≤ T'.heap.size ∧ (∀ q : Nat, q < H.size → ¬ A1 q → T'.heap[q]? = H[q]?) ∧ va_S A0 H0 T'.heap (locs ++ L) := by
  obtain ⟨hz, hk⟩ := hF
  rw [h0] at hz hk
  exact ⟨by rw [e1]; exact hz, fun q h1 h2 => by rw [e1]; exact hk q h1 h2,
    ⟨Nat.le_trans hS.1 (by rw [e1]; exact hz), fun q h1 h2 => by rw [e1, hk q (Nat.lt_of_lt_of_le h1 hS.1) (fun z => h2 (hA q (Nat.lt_of_lt_of_le h1 hS.1) z))]; exact hS.2.1 q h1 h2, fun q hq => by
      rcases List.mem_append.mp hq with h | h
      · exact hS.2.2 q h
      · exact hf _ (hL q h)⟩⟩
theorem vx_calli {S SX : Type} {post : Int32 → S → Prop} {px : SX → Prop} {B : S → State → Prop} {BX : String → SX → State → Prop} {AX : Nat → Prop} (hr : vx_Run p l e R s m args below meth c H locs cells slots mc ms (F0 m pc ls st0) rest (va_Qi post B A1 a) (vx_X px BX AX) free) (hS : va_S A0 H0 H locs) (hA : ∀ q, q < H.size → A1 q → A0 q) (hf : ∀ q, free q → A0 q) (hAX : ∀ q, q < H.size → AX q → A0 q)
    (kx : ∀ (E : String) (ce : Cell) (q9 : Addr) (u : SX) (t : State) (H1 : Heap) (locs1 : List Loc), t.heap = H1 → s.vm.Alike t.vm → px u → BX E u t → H.size ≤ H1.size → (∀ q : Nat, q < H.size → ¬ AX q → H1[q]? = H[q]?) → va_S A0 H0 H1 locs1 → H1[q9]? = some ce → ce.vm = .none → s.vm.findClass E = some ce.cls → vx_W p l e R s m args below meth c H1 locs1 (cells + mc) (slots + ms) Q (F0 m pc ls rest) q9)
    (kk : ∀ (r : Int32) (u : S) (t : State) (H1 : Heap) (locs1 : List Loc), t.heap = H1 → s.vm.Alike t.vm → post r u → B u t → H.size ≤ H1.size → (∀ q : Nat, q < H.size → ¬ A1 q → H1[q]? = H[q]?) → va_S A0 H0 H1 locs1 → W p l e R s m args below meth c H1 locs1 (cells + mc) (slots + ms) Q (F0 m (pc + 3) ls (.int r :: rest))) : W p l e R s m args below meth c H locs cells slots Q (F0 m pc ls st0) := by
  intro T hT X
  rcases hr T hT X with ⟨v, st₀, t, T', L, h0, X', hL, e1, e2, ⟨⟨r, u, hv, hp, hb⟩, hF⟩, st⟩ | ⟨q, st₀, t, T', L, E, ce, h0, X', hL, e1, e2, ⟨u, hp, hb, hF⟩, hce, hcv, hcl, st⟩
  · cases hv
    obtain ⟨k1, k2, k3⟩ := vx_keep h0 e1 hS hA hf hL hF
    obtain ⟨t2, a1, b1⟩ := kk r u t T'.heap (locs ++ L) e1.symm (by rw [← e2]; exact X'.warmed.alike) hp hb k1 k2 k3 T' rfl X'
    exact ⟨t2, st t2 a1, b1⟩
  · obtain ⟨k1, k2, k3⟩ := vx_keep h0 e1 hS hAX hf hL hF
    obtain ⟨t2, a1, b1⟩ := kx E ce q u t T'.heap (locs ++ L) e1.symm (by rw [← e2]; exact X'.warmed.alike) hp hb k1 k2 k3 (by rw [e1]; exact hce) hcv hcl T' rfl X'
    exact ⟨t2, st.trans a1, b1⟩
theorem vx_calll {S SX : Type} {post : Int64 → S → Prop} {px : SX → Prop} {B : S → State → Prop} {BX : String → SX → State → Prop} {AX : Nat → Prop} (hr : vx_Run p l e R s m args below meth c H locs cells slots mc ms (F0 m pc ls st0) rest (va_Ql post B A1 a) (vx_X px BX AX) free) (hS : va_S A0 H0 H locs) (hA : ∀ q, q < H.size → A1 q → A0 q) (hf : ∀ q, free q → A0 q) (hAX : ∀ q, q < H.size → AX q → A0 q)
    (kx : ∀ (E : String) (ce : Cell) (q9 : Addr) (u : SX) (t : State) (H1 : Heap) (locs1 : List Loc), t.heap = H1 → s.vm.Alike t.vm → px u → BX E u t → H.size ≤ H1.size → (∀ q : Nat, q < H.size → ¬ AX q → H1[q]? = H[q]?) → va_S A0 H0 H1 locs1 → H1[q9]? = some ce → ce.vm = .none → s.vm.findClass E = some ce.cls → vx_W p l e R s m args below meth c H1 locs1 (cells + mc) (slots + ms) Q (F0 m pc ls rest) q9)
    (kk : ∀ (r : Int64) (u : S) (t : State) (H1 : Heap) (locs1 : List Loc), t.heap = H1 → s.vm.Alike t.vm → post r u → B u t → H.size ≤ H1.size → (∀ q : Nat, q < H.size → ¬ A1 q → H1[q]? = H[q]?) → va_S A0 H0 H1 locs1 → W p l e R s m args below meth c H1 locs1 (cells + mc) (slots + ms) Q (F0 m (pc + 3) ls (.long r :: rest))) : W p l e R s m args below meth c H locs cells slots Q (F0 m pc ls st0) := by
  intro T hT X
  rcases hr T hT X with ⟨v, st₀, t, T', L, h0, X', hL, e1, e2, ⟨⟨r, u, hv, hp, hb⟩, hF⟩, st⟩ | ⟨q, st₀, t, T', L, E, ce, h0, X', hL, e1, e2, ⟨u, hp, hb, hF⟩, hce, hcv, hcl, st⟩
  · cases hv
    obtain ⟨k1, k2, k3⟩ := vx_keep h0 e1 hS hA hf hL hF
    obtain ⟨t2, a1, b1⟩ := kk r u t T'.heap (locs ++ L) e1.symm (by rw [← e2]; exact X'.warmed.alike) hp hb k1 k2 k3 T' rfl X'
    exact ⟨t2, st t2 a1, b1⟩
  · obtain ⟨k1, k2, k3⟩ := vx_keep h0 e1 hS hAX hf hL hF
    obtain ⟨t2, a1, b1⟩ := kx E ce q u t T'.heap (locs ++ L) e1.symm (by rw [← e2]; exact X'.warmed.alike) hp hb k1 k2 k3 (by rw [e1]; exact hce) hcv hcl T' rfl X'
    exact ⟨t2, st.trans a1, b1⟩
theorem vx_callf {S SX : Type} {post : UInt32 → S → Prop} {px : SX → Prop} {B : S → State → Prop} {BX : String → SX → State → Prop} {AX : Nat → Prop} (hr : vx_Run p l e R s m args below meth c H locs cells slots mc ms (F0 m pc ls st0) rest (va_Qf post B A1 a) (vx_X px BX AX) free) (hS : va_S A0 H0 H locs) (hA : ∀ q, q < H.size → A1 q → A0 q) (hf : ∀ q, free q → A0 q) (hAX : ∀ q, q < H.size → AX q → A0 q)
    (kx : ∀ (E : String) (ce : Cell) (q9 : Addr) (u : SX) (t : State) (H1 : Heap) (locs1 : List Loc), t.heap = H1 → s.vm.Alike t.vm → px u → BX E u t → H.size ≤ H1.size → (∀ q : Nat, q < H.size → ¬ AX q → H1[q]? = H[q]?) → va_S A0 H0 H1 locs1 → H1[q9]? = some ce → ce.vm = .none → s.vm.findClass E = some ce.cls → vx_W p l e R s m args below meth c H1 locs1 (cells + mc) (slots + ms) Q (F0 m pc ls rest) q9)
    (kk : ∀ (r : UInt32) (u : S) (t : State) (H1 : Heap) (locs1 : List Loc), t.heap = H1 → s.vm.Alike t.vm → post r u → B u t → H.size ≤ H1.size → (∀ q : Nat, q < H.size → ¬ A1 q → H1[q]? = H[q]?) → va_S A0 H0 H1 locs1 → W p l e R s m args below meth c H1 locs1 (cells + mc) (slots + ms) Q (F0 m (pc + 3) ls (.float r :: rest))) : W p l e R s m args below meth c H locs cells slots Q (F0 m pc ls st0) := by
  intro T hT X
  rcases hr T hT X with ⟨v, st₀, t, T', L, h0, X', hL, e1, e2, ⟨⟨r, u, hv, hp, hb⟩, hF⟩, st⟩ | ⟨q, st₀, t, T', L, E, ce, h0, X', hL, e1, e2, ⟨u, hp, hb, hF⟩, hce, hcv, hcl, st⟩
  · cases hv
    obtain ⟨k1, k2, k3⟩ := vx_keep h0 e1 hS hA hf hL hF
    obtain ⟨t2, a1, b1⟩ := kk r u t T'.heap (locs ++ L) e1.symm (by rw [← e2]; exact X'.warmed.alike) hp hb k1 k2 k3 T' rfl X'
    exact ⟨t2, st t2 a1, b1⟩
  · obtain ⟨k1, k2, k3⟩ := vx_keep h0 e1 hS hAX hf hL hF
    obtain ⟨t2, a1, b1⟩ := kx E ce q u t T'.heap (locs ++ L) e1.symm (by rw [← e2]; exact X'.warmed.alike) hp hb k1 k2 k3 (by rw [e1]; exact hce) hcv hcl T' rfl X'
    exact ⟨t2, st.trans a1, b1⟩
theorem vx_calld {S SX : Type} {post : UInt64 → S → Prop} {px : SX → Prop} {B : S → State → Prop} {BX : String → SX → State → Prop} {AX : Nat → Prop} (hr : vx_Run p l e R s m args below meth c H locs cells slots mc ms (F0 m pc ls st0) rest (va_Qd post B A1 a) (vx_X px BX AX) free) (hS : va_S A0 H0 H locs) (hA : ∀ q, q < H.size → A1 q → A0 q) (hf : ∀ q, free q → A0 q) (hAX : ∀ q, q < H.size → AX q → A0 q)
    (kx : ∀ (E : String) (ce : Cell) (q9 : Addr) (u : SX) (t : State) (H1 : Heap) (locs1 : List Loc), t.heap = H1 → s.vm.Alike t.vm → px u → BX E u t → H.size ≤ H1.size → (∀ q : Nat, q < H.size → ¬ AX q → H1[q]? = H[q]?) → va_S A0 H0 H1 locs1 → H1[q9]? = some ce → ce.vm = .none → s.vm.findClass E = some ce.cls → vx_W p l e R s m args below meth c H1 locs1 (cells + mc) (slots + ms) Q (F0 m pc ls rest) q9)
    (kk : ∀ (r : UInt64) (u : S) (t : State) (H1 : Heap) (locs1 : List Loc), t.heap = H1 → s.vm.Alike t.vm → post r u → B u t → H.size ≤ H1.size → (∀ q : Nat, q < H.size → ¬ A1 q → H1[q]? = H[q]?) → va_S A0 H0 H1 locs1 → W p l e R s m args below meth c H1 locs1 (cells + mc) (slots + ms) Q (F0 m (pc + 3) ls (.double r :: rest))) : W p l e R s m args below meth c H locs cells slots Q (F0 m pc ls st0) := by
  intro T hT X
  rcases hr T hT X with ⟨v, st₀, t, T', L, h0, X', hL, e1, e2, ⟨⟨r, u, hv, hp, hb⟩, hF⟩, st⟩ | ⟨q, st₀, t, T', L, E, ce, h0, X', hL, e1, e2, ⟨u, hp, hb, hF⟩, hce, hcv, hcl, st⟩
  · cases hv
    obtain ⟨k1, k2, k3⟩ := vx_keep h0 e1 hS hA hf hL hF
    obtain ⟨t2, a1, b1⟩ := kk r u t T'.heap (locs ++ L) e1.symm (by rw [← e2]; exact X'.warmed.alike) hp hb k1 k2 k3 T' rfl X'
    exact ⟨t2, st t2 a1, b1⟩
  · obtain ⟨k1, k2, k3⟩ := vx_keep h0 e1 hS hAX hf hL hF
    obtain ⟨t2, a1, b1⟩ := kx E ce q u t T'.heap (locs ++ L) e1.symm (by rw [← e2]; exact X'.warmed.alike) hp hb k1 k2 k3 (by rw [e1]; exact hce) hcv hcl T' rfl X'
    exact ⟨t2, st.trans a1, b1⟩
theorem vx_callv {S SX : Type} {post : S → Prop} {px : SX → Prop} {B : S → State → Prop} {BX : String → SX → State → Prop} {AX : Nat → Prop} (hr : vx_Run p l e R s m args below meth c H locs cells slots mc ms (F0 m pc ls st0) rest (va_Qv post B A1 a) (vx_X px BX AX) free) (hS : va_S A0 H0 H locs) (hA : ∀ q, q < H.size → A1 q → A0 q) (hf : ∀ q, free q → A0 q) (hAX : ∀ q, q < H.size → AX q → A0 q)
    (kx : ∀ (E : String) (ce : Cell) (q9 : Addr) (u : SX) (t : State) (H1 : Heap) (locs1 : List Loc), t.heap = H1 → s.vm.Alike t.vm → px u → BX E u t → H.size ≤ H1.size → (∀ q : Nat, q < H.size → ¬ AX q → H1[q]? = H[q]?) → va_S A0 H0 H1 locs1 → H1[q9]? = some ce → ce.vm = .none → s.vm.findClass E = some ce.cls → vx_W p l e R s m args below meth c H1 locs1 (cells + mc) (slots + ms) Q (F0 m pc ls rest) q9)
    (kk : ∀ (u : S) (t : State) (H1 : Heap) (locs1 : List Loc), t.heap = H1 → s.vm.Alike t.vm → post u → B u t → H.size ≤ H1.size → (∀ q : Nat, q < H.size → ¬ A1 q → H1[q]? = H[q]?) → va_S A0 H0 H1 locs1 → W p l e R s m args below meth c H1 locs1 (cells + mc) (slots + ms) Q (F0 m (pc + 3) ls (rest))) : W p l e R s m args below meth c H locs cells slots Q (F0 m pc ls st0) := by
  intro T hT X
  rcases hr T hT X with ⟨v, st₀, t, T', L, h0, X', hL, e1, e2, ⟨⟨u, hv, hp, hb⟩, hF⟩, st⟩ | ⟨q, st₀, t, T', L, E, ce, h0, X', hL, e1, e2, ⟨u, hp, hb, hF⟩, hce, hcv, hcl, st⟩
  · cases hv
    obtain ⟨k1, k2, k3⟩ := vx_keep h0 e1 hS hA hf hL hF
    obtain ⟨t2, a1, b1⟩ := kk u t T'.heap (locs ++ L) e1.symm (by rw [← e2]; exact X'.warmed.alike) hp hb k1 k2 k3 T' rfl X'
    exact ⟨t2, st t2 a1, b1⟩
  · obtain ⟨k1, k2, k3⟩ := vx_keep h0 e1 hS hAX hf hL hF
    obtain ⟨t2, a1, b1⟩ := kx E ce q u t T'.heap (locs ++ L) e1.symm (by rw [← e2]; exact X'.warmed.alike) hp hb k1 k2 k3 (by rw [e1]; exact hce) hcv hcl T' rfl X'
    exact ⟨t2, st.trans a1, b1⟩
/-- caught by the row x of this method's table; the rows ahead don't take it -/
theorem vx_catch {own name : String} {E : String} {ce : Cell} {q : Addr} (hown : s.vm.findClass own = some m.cls) (pre : List ExceptionTableEntry) (x : ExceptionTableEntry) (suf : List ExceptionTableEntry) (hsplit : c.exceptionTable.toList = pre ++ x :: suf)
    (hpass : ∀ z ∈ pre, covers z pc = false ∨ (z.catchType ≠ 0 ∧ ∃ nm : String, (Cond.classLink own z.catchType nm).before args s = true ∧ va_Nc E nm s)) (hx : covers x pc = true) (h0 : x.catchType ≠ 0)
    (hlink : (Cond.classLink own x.catchType name).before args s = true) (hcast : (Cond.castable E name).before args s = true) (hcell : H[q]? = some ce) (hv : ce.vm = .none) (hcl : s.vm.findClass E = some ce.cls)
    (kk : W p l e R s m args below meth c H locs cells slots Q (F0 m x.handlerPc ls [.ref q])) : vx_W p l e R s m args below meth c H locs cells slots Q (F0 m pc ls rest) q := by
  intro T hT X
  have hpl : e.platform.magicAccessors = ({} : Platform).magicAccessors := by rw [X.admits.platform]
  obtain ⟨c3, c4, hc3, hc4, hasg⟩ := Cond.castable_spec hcast
  cases Option.some.inj (hc3.symm.trans hcl)
  obtain ⟨c5, hc5, hcl5⟩ := Cond.classLink_spec hown hlink e.platform hpl
  cases Option.some.inj (hc4.symm.trans hc5)
  obtain ⟨vm', X', st⟩ := X.thenCaughtThrough q (g := F0 m pc ls rest) rfl (Steps.refl _) (by rw [hT]; exact hcell) (by rw [hv]; rfl) (by obtain ⟨k9, h9, -⟩ := Vm.findClass_spec hcl; exact ⟨k9, h9⟩) pre x suf hsplit
    (fun z hz => by
      rcases hpass z hz with h | ⟨hz0, nm, hl1, hn1⟩
      · exact Or.inl h
      · obtain ⟨c6, hc6, hcl6⟩ := Cond.classLink_spec hown hl1 e.platform hpl
        obtain ⟨a8, b8, h1, h2, h3⟩ := hn1
        cases Option.some.inj (h1.symm.trans hcl)
        cases Option.some.inj (h2.symm.trans hc6)
        exact Or.inr ⟨hz0, _, hcl6, h3⟩) hx (Or.inr ⟨h0, c4, hcl5, hasg⟩)
  obtain ⟨t, a1, b1⟩ := kk (T.setVm vm') hT X'
  exact ⟨t, st.trans a1, b1⟩
end Rows
section Ends
variable {p : Program} {l : Launch} {e : Env} {R : Room} {s : State} {m : MethodId} {args : Array Value} {below : List Frame} {meth : Method} {c : Code} {H : Heap} {locs : List Loc} {cells slots : Nat} {Q : State → Prop}
variable {mc ms : Nat} {free : Addr → Prop} {A0 A1 : Nat → Prop} {H0 : Heap} {a : Array Value} {ls : Array Slot} {st0 rest : List Value}
variable {Qc : Array Value → State → Outcome → State → Prop} {XC : String → State → State → Prop}
/-- what a body that may throw owes at its end -/
def vx_MQ (below : List Frame) (Qc : Array Value → State → Outcome → State → Prop) (XC : String → State → State → Prop) (a : Array Value) (s : State) (mc ms : Nat) (free : Addr → Prop) : State → Prop := fun t =>
  ∃ o, t.status = .running ∧ Ended t below o ∧ vx_Q Qc XC mc ms free a s o t
theorem vx_ret {g : JFrame} {mc ms : Nat} (k : W p l e R s m args below meth c H locs cells slots (MQ below Qc args s mc ms free) g) : W p l e R s m args below meth c H locs cells slots (vx_MQ below Qc XC args s mc ms free) g := by
  intro T hT X
  obtain ⟨t, a1, o, b1, b2, b3, b4⟩ := k T hT X
  exact ⟨t, a1, o, b1, b2, Or.inl ⟨b3, b4⟩⟩
/-- not caught here: it goes on to the caller -/
theorem vx_widen {g : JFrame} {q : Addr} {k n : Nat} (h1 : cells ≤ k) (h2 : slots ≤ n) (kk : vx_W p l e R s m args below meth c H locs k n Q g q) : vx_W p l e R s m args below meth c H locs cells slots Q g q := fun T hT X => kk T hT (stand_widen X h1 h2)
theorem vx_out {pc : Nat} {E : String} {ce : Cell} {q : Addr} {mc ms : Nat} (hout : ∀ x ∈ c.exceptionTable.toList, covers x pc = false) (hlocks : meth.locks = false) (hcell : H[q]? = some ce) (hv : ce.vm = .none) (hcl : s.vm.findClass E = some ce.cls)
    (hx : ∀ t : State, t.heap = H → s.vm.Alike t.vm → XC E s t) (hf : ∀ z ∈ locs, free z.base) (hc : cells ≤ mc) (hs : slots ≤ ms) :
    vx_W p l e R s m args below meth c H locs cells slots (vx_MQ below Qc XC args s mc ms free) (F0 m pc ls rest) q := by
  intro T hT X
  obtain ⟨st1, hrun, hend, hW, hsm⟩ := X.leaveThrown q (g := F0 m pc ls rest) rfl rfl rfl hout hlocks
  have hcell9 : (T.setFrames (.throwing q :: below)).heap[q]? = some ce := by
    show T.heap[q]? = some ce
    rw [hT]; exact hcell
  exact ⟨_, st1, .threw q, hrun, hend, Or.inr ⟨q, rfl, E, ce, locs, hx _ hT hW.alike, hcell9, hv, hcl, hW, hsm.mono hc hs, hf⟩⟩
theorem vx_frame {U : State} {k n : Nat} (h : s.sameButNew ({ U with vm := s.vm } : State) locs k n) : s.heap.size ≤ U.heap.size ∧ ∀ q : Nat, q < s.heap.size → (∀ z ∈ locs, z.base ≠ q) → U.heap[q]? = s.heap[q]? := by
  obtain ⟨-, h2, -, -, -, h6⟩ := h
  refine ⟨h2, fun q hq hz => ?_⟩
  obtain ⟨c9, e1, e2, e3, e4⟩ := h6 q _ (Array.getElem?_eq_getElem hq)
  have hs : c9.slots = (s.heap[q]).slots := Array.ext_getElem? fun i => e4 i fun hm => hz _ hm rfl
  have h9 : c9 = s.heap[q] := by
    rw [hs] at e2
    exact e2
  have e5 : U.heap[q]? = some c9 := e1
  rw [e5, h9, Array.getElem?_eq_getElem hq]
/-- the words of a throw but the four that speak of the heap -/
def vx_no (w : Cond) : Bool := decide (w ≠ .isRef (.static Bundle.tN "UNASSIGNED_STACK" Bundle.steD)) && decide (w ≠ .isRef (.static Bundle.tN "SUPPRESSED_SENTINEL" Bundle.listD)) && decide (w ≠ .laysStatic Bundle.tN "UNASSIGNED_STACK" Bundle.steD) && decide (w ≠ .laysStatic Bundle.tN "SUPPRESSED_SENTINEL" Bundle.listD)
def vx_at0 (own : String) (ic : Nat) (X : String) (names : List String) : List Cond := (Bundle.ownAtoms0 own ic X names).filter vx_no
def vx_atS (own : String) (ic : Nat) (X : String) (names : List String) : List Cond := (Bundle.ownAtoms own ic X names).filter vx_no
/-- a word that the tables alone decide, or a good one -/
def vx_ot (w : Cond) : Bool := w.onTables || goodWord w
theorem vx_ot_at {args a' : Array Value} {s U : State} {w : Cond} (hW : s.WarmedH U.vm) (hvm : s.vm = U.vm) (hg : vx_ot w = true) (h : w.before args s = true) : w.before a' U = true := by
  simp only [vx_ot, Bool.or_eq_true] at hg
  rcases hg with hg | hg
  · exact va_tabs hg hvm h
  · exact word_at hW (good_of_word hg) h
/-- a list's words: the good ones out of the method's own list, the others by premises of their own -/
theorem vx_hat {args : Array Value} {s : State} {L B : List Cond} (h1 : ∀ w ∈ L.filter goodWord, w.before args s = true) (h2 : ∀ w ∈ L.filter (fun w => !goodWord w), w ∈ B) (h3 : ∀ w ∈ B, w.before args s = true) : ∀ w ∈ L, w.before args s = true := by
  intro w hw
  by_cases g : goodWord w = true
  · exact h1 w (List.mem_filter.mpr ⟨hw, g⟩)
  · refine h3 w (h2 w (List.mem_filter.mpr ⟨hw, ?_⟩))
    show (!goodWord w) = true
    cases hgw : goodWord w
    · rfl
    · exact absurd hgw g
theorem vx_c {args : Array Value} {s : State} {w : Cond} {B : List Cond} (h : w.before args s = true) (t : ∀ w ∈ B, w.before args s = true) : ∀ w' ∈ w :: B, w'.before args s = true := fun w' h' => (List.mem_cons.mp h').elim (fun e => by rw [e]; exact h) (t w')
theorem vx_n {args : Array Value} {s : State} : ∀ w ∈ ([] : List Cond), w.before args s = true := fun _ h => nomatch h
theorem vx_own {args : Array Value} {s : State} {L : List Cond} (h1 : ∀ w ∈ L.filter vx_no, w.before args s = true)
    (hU : (Cond.isRef (.static Bundle.tN "UNASSIGNED_STACK" Bundle.steD)).before args s = true) (hN : (Cond.isRef (.static Bundle.tN "SUPPRESSED_SENTINEL" Bundle.listD)).before args s = true)
    (lU : (Cond.laysStatic Bundle.tN "UNASSIGNED_STACK" Bundle.steD).before args s = true) (lN : (Cond.laysStatic Bundle.tN "SUPPRESSED_SENTINEL" Bundle.listD).before args s = true) : ∀ w ∈ L, w.before args s = true := by
  intro w hw
  by_cases e1 : w = .isRef (.static Bundle.tN "UNASSIGNED_STACK" Bundle.steD)
  · rw [e1]; exact hU
  · by_cases e2 : w = .isRef (.static Bundle.tN "SUPPRESSED_SENTINEL" Bundle.listD)
    · rw [e2]; exact hN
    · by_cases e3 : w = .laysStatic Bundle.tN "UNASSIGNED_STACK" Bundle.steD
      · rw [e3]; exact lU
      · by_cases e4 : w = .laysStatic Bundle.tN "SUPPRESSED_SENTINEL" Bundle.listD
        · rw [e4]; exact lN
        · exact h1 w (List.mem_filter.mpr ⟨hw, by unfold vx_no; rw [decide_eq_true e1, decide_eq_true e2, decide_eq_true e3, decide_eq_true e4]; rfl⟩)
/-- where a static field lies, its class's statics cell in H -/
def vx_L (C n d : String) (A : Nat → Prop) (U : State) (H : Heap) : Prop := ∃ (c : ClassId) (k : Class) (i : Nat) (f : Field) (a : Nat) (cell : Cell), U.vm.findClass C = some c ∧ U.fieldFound? C n d = some (c, k, i, f) ∧ f.isStatic = true ∧ k.statics = some a ∧ H[a]? = some cell ∧ cell.vm.isStatics = true ∧ cell.cls = c ∧ f.slot < cell.slots.size ∧ k.staticTypes[f.slot]? = some f.type ∧ ¬ A a
theorem vx_L.moved {C n d : String} {A : Nat → Prop} {u U : State} {H : Heap} (hvm : u.vm.Alike U.vm) (h : vx_L C n d A u H) : vx_L C n d A U H := by
  obtain ⟨c, k, i, f, a, cell, h1, h2, h3, h4, h5, h6, h7, h8, h9, h10⟩ := h
  obtain ⟨k', hi', he⟩ := State.fieldFound?_setVm hvm h2
  exact ⟨c, k', i, f, a, cell, by rw [hvm.findClass]; exact h1, hi', h3, by rw [he]; exact h4, h5, h6, h7, h8, by rw [he]; exact h9, h10⟩
theorem vx_L.kept {C n d : String} {A : Nat → Prop} {U : State} {H H1 : Heap} (h : vx_L C n d A U H) (hq : ∀ a : Nat, a < H.size → ¬ A a → H1[a]? = H[a]?) : vx_L C n d A U H1 := by
  obtain ⟨c, k, i, f, a, cell, h1, h2, h3, h4, h5, h6, h7, h8, h9, h10⟩ := h
  exact ⟨c, k, i, f, a, cell, h1, h2, h3, h4, by rw [hq a (Array.getElem?_eq_some_iff.mp h5).1 h10]; exact h5, h6, h7, h8, h9, h10⟩
theorem vx_L.narrow {C n d : String} {A B : Nat → Prop} {U : State} {H : Heap} (h : vx_L C n d A U H) (hAB : ∀ q, B q → A q) : vx_L C n d B U H := by
  obtain ⟨c, k, i, f, a, cell, h1, h2, h3, h4, h5, h6, h7, h8, h9, h10⟩ := h
  exact ⟨c, k, i, f, a, cell, h1, h2, h3, h4, h5, h6, h7, h8, h9, fun z => h10 (hAB _ z)⟩
theorem vx_L.word {C n d : String} {A : Nat → Prop} {s : State} {args : Array Value} (h : vx_L C n d A s s.heap) : (Cond.laysStatic C n d).before args s = true := by
  obtain ⟨c, k, i, f, a, cell, h1, h2, h3, h4, h5, h6, h7, h8, h9, -⟩ := h
  show (Cond.laysStatic C n d).holds args s none s [] = true
  exact Cond.laysStatic_of h1 h2 h3 h4 h5 h6 h7 h8 h9
/-- .. and what it holds: null or some reference -/
def vx_Zq (C n d : String) (A : Nat → Prop) (U : State) (H : Heap) : Prop := va_Zq C n d A U H ∧ vx_L C n d A U H
theorem vx_Zq.moved {C n d : String} {A : Nat → Prop} {u U : State} {H : Heap} (hvm : u.vm.Alike U.vm) (h : vx_Zq C n d A u H) : vx_Zq C n d A U H := ⟨va_Zq.moved hvm h.1, vx_L.moved hvm h.2⟩
theorem vx_Zq.kept {C n d : String} {A : Nat → Prop} {U : State} {H H1 : Heap} (h : vx_Zq C n d A U H) (hq : ∀ a : Nat, a < H.size → ¬ A a → H1[a]? = H[a]?) : vx_Zq C n d A U H1 := ⟨va_Zq.kept h.1 hq, vx_L.kept h.2 hq⟩
theorem vx_Zq.narrow {C n d : String} {A B : Nat → Prop} {U : State} {H : Heap} (h : vx_Zq C n d A U H) (hAB : ∀ q, B q → A q) : vx_Zq C n d B U H := ⟨va_Zq.narrow h.1 hAB, vx_L.narrow h.2 hAB⟩
theorem vx_Zqof {args : Array Value} {s : State} {C n d : String} {A : Nat → Prop} (hl : (Cond.laysStatic C n d).before args s = true) (hini : (Cond.initialized C).before args s = true) (h : (Cond.isRef (.static C n d)).before args s = true) (hA : ∀ a : Nat, a < s.heap.size → ¬ A a) : vx_Zq C n d A s s.heap := by
  refine ⟨va_Zqof hl hini h hA, ?_⟩
  obtain ⟨c, k, i, f, a, cell, h1, h2, h3, h4, h5, h6, h7, h8, h9⟩ := Cond.laysStatic_spec hl
  exact ⟨c, k, i, f, a, cell, h1, h2, h3, h4, h5, h6, h7, h8, h9, hA a (Array.getElem?_eq_some_iff.mp h5).1⟩
theorem vx_isRef {C n d : String} {v : Value} {A : Nat → Prop} {s : State} {args : Array Value} (h : va_Z C n d v A s s.heap) (hv : v.isRef = true) : (Cond.isRef (.static C n d)).before args s = true := by
  obtain ⟨cf, kf, fi, f, a, cell, h1, h2, h3, h4, h5, h6, h7, -⟩ := h
  have he : (Term.static C n d).eval args s none [] s = some v := by
    simp [Term.eval, State.fieldNamed?, h1, h2, h4, h5, h6, h7]
  simp only [Cond.before, Cond.holds, Cond.value, he]
  cases v <;> simp_all [Value.isRef]
theorem vx_isRefq {C n d : String} {A : Nat → Prop} {s : State} {args : Array Value} (h : va_Zq C n d A s s.heap) : (Cond.isRef (.static C n d)).before args s = true := by
  rcases h with h | ⟨t, h⟩
  · exact vx_isRef h rfl
  · exact vx_isRef h rfl
/-- the same frame, seen from here: as if the method were called anew in this heap -/
theorem vx_rebase {T : State} (X : Stand p l e R s m args below meth c T locs cells slots) {R' : Room} (hf : R'.frames ≤ R.frames) (hl : R'.locals ≤ R.locals) (hc : cells + R'.cells ≤ R.cells) (hs : slots + R'.slots ≤ R.slots) :
    Stand p l e R' ((T.setVm s.vm).setFrames (.invoking m args :: below)) m args below meth c T [] 0 0 := by
  have htop : (T.setVm s.vm).topJava?.isSome := X.here.top
  have hF : ((T.setVm s.vm).setFrames (.invoking m args :: below)).frames = .invoking m args :: below := State.frames_setFrames _ (State.cur_lt_of_top htop)
  obtain ⟨g₀, hg0⟩ := Option.isSome_iff_exists.mp htop
  obtain ⟨r, hr⟩ := State.topJava?_eq_some.mp hg0
  have hl9 : e.platform.stackLimits (T.setVm s.vm).me = e.platform.stackLimits s.me := X.limits
  have hb9 : (T.setVm s.vm).me.stackBytes = s.me.stackBytes := X.bytes
  refine ⟨X.admits, X.cas, X.clock, hF, ?_, X.hears, X.method, X.code, X.here, X.tail, X.warmed, ?_, ?_, ?_⟩
  · have h := X.room
    have hU : ((T.setVm s.vm).setFrames (.invoking m args :: below)).localsInUse = s.localsInUse := by
      rw [State.localsInUse_invoking hF (meth := meth) (c := c) X.method X.code, State.localsInUse_invoking X.frames X.method X.code]
    simp only [State.hasRoom, Bool.and_eq_true, decide_eq_true_eq] at h ⊢
    obtain ⟨⟨⟨⟨h1, h2, h3, h4, h5, h6⟩, h7⟩, h8⟩, h9⟩ := h
    rw [X.frames, List.length_cons] at h2 h3
    have q1 := X.heapSize
    have q2 := X.used
    simp only [hF, hU, List.length_cons, State.stackLimits_setFrames, State.stackBytes_setFrames, hl9, hb9]
    refine ⟨⟨⟨⟨by omega, by omega, by omega, by omega, by omega, h6⟩, ?_⟩, ?_⟩, X.book⟩
    · show T.heap.size + R'.cells ≤ e.platform.maxCells
      omega
    · show T.slotsUsed + R'.slots ≤ e.platform.maxSlots
      omega
  · rw [State.stackLimits_setFrames]; rfl
  · rw [State.stackBytes_setFrames]; rfl
  · refine ⟨?_, Nat.le_refl _, Nat.le_refl _, ?_, ?_, fun a c9 h9 => ⟨c9, h9, rfl, rfl, fun _ _ => rfl⟩⟩
    · obtain ⟨t, ht, -⟩ := State.frames_cons hr
      show T.setVm s.vm = { ((T.setVm s.vm).setFrames (.invoking m args :: below)).setFrames (T.setVm s.vm).frames with heap := T.heap, slotsUsed := T.slotsUsed }
      rw [State.setFrames_setFrames, State.setFrames_self ht]
      rfl
    · show T.slotsUsed = T.slotsUsed + ((T.heap.toList.drop T.heap.size).map (·.slots.size)).sum
      rw [List.drop_eq_nil_of_le (Nat.le_of_eq Array.length_toList)]
      rfl
    · show ((T.heap.toList.drop T.heap.size).map (·.slots.size)).sum ≤ 0
      rw [List.drop_eq_nil_of_le (Nat.le_of_eq Array.length_toList)]
      exact Nat.le_refl _
/-- 'throw new E()': new; dup; invokespecial; athrow -/
theorem vx_throw0 {cc : ByteArray} {pc : Nat} (hexec : p.tables.exec = Jvm.exec) (hb : c.code = cc) (hl : l.stackTraces = false) {own cls : String} {names : List String} {ik ic mc ms : Nat} {A : Nat → Prop}
    (hown : s.vm.findClass own = some m.cls) (hcls : Bundle.fit cls = true) (hnames : ∀ n ∈ names, Bundle.fit n = true)
    (hk : (Cond.classLink own ik cls).before args s = true) (hini : (Cond.initialized cls).before args s = true) (hat : ∀ w ∈ vx_at0 own ic cls names, w.before args s = true)
    (hgood : ∀ w ∈ Cond.classLink own ik cls :: Cond.initialized cls :: vx_at0 own ic cls names, vx_ot w = true)
    (hU : vx_Zq Bundle.tN "UNASSIGNED_STACK" Bundle.steD A s s.heap) (hN : vx_Zq Bundle.tN "SUPPRESSED_SENTINEL" Bundle.listD A s s.heap) (hS : va_S A s.heap H locs) (hsize : ls.size = c.maxLocals)
    (d0 : decode cc pc = .ok (.new ik, 3)) (d3 : decode cc (pc + 3) = .ok (.dup, 1)) (d4 : decode cc (pc + 4) = .ok (.invokespecial ic, 3)) (d7 : decode cc (pc + 7) = .ok (.athrow, 1))
    (hout : ∀ x ∈ c.exceptionTable.toList, covers x (pc + 7) = false)
    (hRframes : names.length + 3 < R.frames) (hRlocals : (rest.map fun v => v.category).sum + (13 * (names.length + 1) + 42) ≤ R.locals) (hRcells : cells + 1 ≤ R.cells) (hRslots : slots + 6 ≤ R.slots) (hlocks : meth.locks = false)
    (hx : ∀ t : State, s.vm.Alike t.vm → H.size ≤ t.heap.size → (∀ q : Nat, q < H.size → t.heap[q]? = H[q]?) → XC cls s t)
    (hf : ∀ z ∈ locs, free z.base) (hc : cells + 1 ≤ mc) (hs : slots + 6 ≤ ms) :
    W p l e R s m args below meth c H locs cells slots (vx_MQ below Qc XC args s mc ms free) (F0 m pc ls rest) := by
  intro T hT X
  have htr : e.platform.stackTraces = false := (show e.platform.stackTraces = l.stackTraces by rw [X.admits.platform]).trans hl
  have Y := vx_rebase X (R' := { frames := R.frames, locals := R.locals, cells := 1, slots := 6 }) (Nat.le_refl _) (Nat.le_refl _) hRcells hRslots
  obtain ⟨s', hA⟩ : ∃ z, z = (T.setVm s.vm).setFrames (.invoking m args :: below) := ⟨_, rfl⟩
  rw [← hA] at Y
  have hvm : s'.vm = s.vm := by rw [hA]; rfl
  have hhp : s'.heap = H := by rw [hA]; exact hT
  have hW0 : s.WarmedH s'.vm := by rw [hvm]; exact State.WarmedH.refl s
  have hat' : ∀ w ∈ vx_at0 own ic cls names, w.before args s' = true := fun w hw => vx_ot_at hW0 hvm.symm (hgood w (List.mem_cons_of_mem _ (List.mem_cons_of_mem _ hw))) (hat w hw)
  have hk' : (Cond.classLink own ik cls).before args s' = true := vx_ot_at hW0 hvm.symm (hgood _ List.mem_cons_self) hk
  have hini' : (Cond.initialized cls).before args s' = true := vx_ot_at hW0 hvm.symm (hgood _ (List.mem_cons_of_mem _ List.mem_cons_self)) hini
  have hU' : vx_Zq Bundle.tN "UNASSIGNED_STACK" Bundle.steD A s' s'.heap := by rw [hhp]; exact vx_Zq.moved hW0.alike (hU.kept hS.2.1)
  have hN' : vx_Zq Bundle.tN "SUPPRESSED_SENTINEL" Bundle.listD A s' s'.heap := by rw [hhp]; exact vx_Zq.moved hW0.alike (hN.kept hS.2.1)
  have h : ∀ w ∈ Bundle.ownAtoms0 own ic cls names, w.before args s' = true := vx_own hat' (vx_isRefq hU'.1) (vx_isRefq hN'.1) hU'.2.word hN'.2.word
  have hown' : s'.vm.findClass own = some m.cls := by rw [hvm]; exact hown
  have hins : (Cond.instantiable cls 6).before args s' = true := h _ (by simp [Bundle.ownAtoms0])
  obtain ⟨vm₁, cX, kX, hfX, hkX, -, -, X₁, st1⟩ := Y.newCold hexec (own := own) (C := cls) (index := ik) (n := 6) hown' hk' hins hini'
    (g := F0 m pc ls rest) rfl (by rw [hb]; exact d0) (Nat.le_refl _) (Nat.le_refl _)
  generalize hT1 : (T.setVm vm₁).pushCell { cls := cX, slots := kX.instanceTypes.map defaultValue, vm := .none } = T1 at X₁ st1
  have hcat : (Value.ref T.heap.size).category = 1 := rfl
  have hcellA : T1.heap[T.heap.size]? = some (freshCell cX kX) := by rw [← hT1]; exact State.heap_pushCell_size _ _
  have d3' : decode c.code (pc + 3) = .ok (.dup, 1) := by rw [hb]; exact d3
  obtain ⟨U, hsteps, hrun, hend, hW, hsame, ce, hce, hO⟩ := X₁.ctorThrow0 hexec htr (own := own) (cls := cls) (names := names) (ic := ic) hown' hcls hnames h (fun x hx => nomatch hx) hfX hkX hcellA (by rw [hhp, hT]; exact Nat.le_refl _)
    (g := { method := m, pc := pc + 4, locals := ls, stack := .ref T.heap.size :: .ref T.heap.size :: rest, locked := none }) rfl hsize rfl rfl (rest := rest) rfl
    (by rw [hb]; exact d4) (by rw [hb]; exact d7) hout hRframes (by simp only [List.map_cons, List.sum_cons, hcat]; omega) hlocks
  obtain ⟨f1, f2⟩ := vx_frame hsame
  rw [hhp] at f1 f2
  have hWs : s.WarmedH U.vm := State.WarmedH.trans hW0 hW
  have hcl : s.vm.findClass cls = some ce.cls := by
    have h9 := hO.cls
    rw [hvm] at h9
    exact h9
  have hall : s.sameButNew ({ U with vm := s.vm } : State) locs mc ms := by
    subst hA
    obtain ⟨e1, e2⟩ := hsame
    rw [State.setFrames_setFrames] at e1
    have h2 : (T.setVm s.vm).sameButNew ({ U with vm := s.vm } : State) [] (0 + 1) (0 + 6) := ⟨e1, e2⟩
    have h3 := X.same.trans h2
    rw [List.append_nil] at h3
    exact h3.mono hc hs
  refine ⟨U, ?_, .threw T.heap.size, hrun, hend, Or.inr ⟨T.heap.size, rfl, cls, ce, locs, hx U hWs.alike f1 (fun q hq => f2 q hq (fun z hz => nomatch hz)), hce, hO.vm, hcl, hWs, hall, hf⟩⟩
  refine st1 _ ?_
  show Steps p.tables e below (T1.setTop { method := m, pc := pc + 3, locals := ls, stack := .ref T.heap.size :: rest, locked := none }) _
  jvm_step X₁.here [X₁.here.top, hexec, d3', Value.category]
  exact hsteps
/-- 'throw new E("text")': new; dup; ldc; invokespecial; athrow -/
theorem vx_throwS {cc : ByteArray} {pc : Nat} (hexec : p.tables.exec = Jvm.exec) (hb : c.code = cc) (hl : l.stackTraces = false) {own cls text : String} {names : List String} {ik is ic mc ms sa : Nat} {A : Nat → Prop}
    (hown : s.vm.findClass own = some m.cls) (hcls : Bundle.fit cls = true) (hnames : ∀ n ∈ names, Bundle.fit n = true)
    (hk : (Cond.classLink own ik cls).before args s = true) (hini : (Cond.initialized cls).before args s = true) (hstr : vk_R own is text sa s) (hat : ∀ w ∈ vx_atS own ic cls names, w.before args s = true)
    (hgood : ∀ w ∈ Cond.classLink own ik cls :: Cond.initialized cls :: vx_atS own ic cls names, vx_ot w = true)
    (hU : vx_Zq Bundle.tN "UNASSIGNED_STACK" Bundle.steD A s s.heap) (hN : vx_Zq Bundle.tN "SUPPRESSED_SENTINEL" Bundle.listD A s s.heap) (hS : va_S A s.heap H locs) (hsize : ls.size = c.maxLocals)
    (d0 : decode cc pc = .ok (.new ik, 3)) (d3 : decode cc (pc + 3) = .ok (.dup, 1)) (d4 : decode cc (pc + 4) = .ok (.ldc is, 2)) (d6 : decode cc (pc + 6) = .ok (.invokespecial ic, 3)) (d9 : decode cc (pc + 9) = .ok (.athrow, 1))
    (hout : ∀ x ∈ c.exceptionTable.toList, covers x (pc + 9) = false)
    (hRframes : names.length + 3 < R.frames) (hRlocals : (rest.map fun v => v.category).sum + (13 * (names.length + 1) + 43) ≤ R.locals) (hRcells : cells + 1 ≤ R.cells) (hRslots : slots + 6 ≤ R.slots) (hlocks : meth.locks = false)
    (hx : ∀ t : State, s.vm.Alike t.vm → H.size ≤ t.heap.size → (∀ q : Nat, q < H.size → t.heap[q]? = H[q]?) → XC cls s t)
    (hf : ∀ z ∈ locs, free z.base) (hc : cells + 1 ≤ mc) (hs : slots + 6 ≤ ms) :
    W p l e R s m args below meth c H locs cells slots (vx_MQ below Qc XC args s mc ms free) (F0 m pc ls rest) := by
  intro T hT X
  have htr : e.platform.stackTraces = false := (show e.platform.stackTraces = l.stackTraces by rw [X.admits.platform]).trans hl
  have Y := vx_rebase X (R' := { frames := R.frames, locals := R.locals, cells := 1, slots := 6 }) (Nat.le_refl _) (Nat.le_refl _) hRcells hRslots
  obtain ⟨s', hA⟩ : ∃ z, z = (T.setVm s.vm).setFrames (.invoking m args :: below) := ⟨_, rfl⟩
  rw [← hA] at Y
  have hvm : s'.vm = s.vm := by rw [hA]; rfl
  have hhp : s'.heap = H := by rw [hA]; exact hT
  have hW0 : s.WarmedH s'.vm := by rw [hvm]; exact State.WarmedH.refl s
  have hat' : ∀ w ∈ vx_atS own ic cls names, w.before args s' = true := fun w hw => vx_ot_at hW0 hvm.symm (hgood w (List.mem_cons_of_mem _ (List.mem_cons_of_mem _ hw))) (hat w hw)
  have hk' : (Cond.classLink own ik cls).before args s' = true := vx_ot_at hW0 hvm.symm (hgood _ List.mem_cons_self) hk
  have hini' : (Cond.initialized cls).before args s' = true := vx_ot_at hW0 hvm.symm (hgood _ (List.mem_cons_of_mem _ List.mem_cons_self)) hini
  have hU' : vx_Zq Bundle.tN "UNASSIGNED_STACK" Bundle.steD A s' s'.heap := by rw [hhp]; exact vx_Zq.moved hW0.alike (hU.kept hS.2.1)
  have hN' : vx_Zq Bundle.tN "SUPPRESSED_SENTINEL" Bundle.listD A s' s'.heap := by rw [hhp]; exact vx_Zq.moved hW0.alike (hN.kept hS.2.1)
  have h : ∀ w ∈ Bundle.ownAtoms own ic cls names, w.before args s' = true := vx_own hat' (vx_isRefq hU'.1) (vx_isRefq hN'.1) hU'.2.word hN'.2.word
  have hown' : s'.vm.findClass own = some m.cls := by rw [hvm]; exact hown
  have hins : (Cond.instantiable cls 6).before args s' = true := h _ (by simp [Bundle.ownAtoms])
  obtain ⟨vm₁, cX, kX, hfX, hkX, -, -, X₁, st1⟩ := Y.newCold hexec (own := own) (C := cls) (index := ik) (n := 6) hown' hk' hins hini'
    (g := F0 m pc ls rest) rfl (by rw [hb]; exact d0) (Nat.le_refl _) (Nat.le_refl _)
  generalize hT1 : (T.setVm vm₁).pushCell { cls := cX, slots := kX.instanceTypes.map defaultValue, vm := .none } = T1 at X₁ st1
  have hcat : (Value.ref T.heap.size).category = 1 := rfl
  have hcellA : T1.heap[T.heap.size]? = some (freshCell cX kX) := by rw [← hT1]; exact State.heap_pushCell_size _ _
  have d3' : decode c.code (pc + 3) = .ok (.dup, 1) := by rw [hb]; exact d3
  have d4' : decode c.code (pc + 4) = .ok (.ldc is, 2) := by rw [hb]; exact d4
  have hstr' : vk_R own is text sa s' := vk_R.warm hW0 hstr
  obtain ⟨U, hsteps, hrun, hend, hW, hsame, ce, hce, hO⟩ := X₁.ctorThrowS hexec htr (own := own) (cls := cls) (names := names) (ic := ic) hown' hcls hnames h (fun x hx => nomatch hx) hfX hkX hcellA (by rw [hhp, hT]; exact Nat.le_refl _) (msg := .ref sa) rfl
    (g := { method := m, pc := pc + 6, locals := ls, stack := .ref sa :: .ref T.heap.size :: .ref T.heap.size :: rest, locked := none }) rfl hsize rfl rfl (rest := rest) rfl
    (by rw [hb]; exact d6) (by rw [hb]; exact d9) hout hRframes (by simp only [List.map_cons, List.sum_cons, hcat]; omega) hlocks
  obtain ⟨f1, f2⟩ := vx_frame hsame
  rw [hhp] at f1 f2
  have hWs : s.WarmedH U.vm := State.WarmedH.trans hW0 hW
  have hcl : s.vm.findClass cls = some ce.cls := by
    have h9 := hO.cls
    rw [hvm] at h9
    exact h9
  have hall : s.sameButNew ({ U with vm := s.vm } : State) locs mc ms := by
    subst hA
    obtain ⟨e1, e2⟩ := hsame
    rw [State.setFrames_setFrames] at e1
    have h2 : (T.setVm s.vm).sameButNew ({ U with vm := s.vm } : State) [] (0 + 1) (0 + 6) := ⟨e1, e2⟩
    have h3 := X.same.trans h2
    rw [List.append_nil] at h3
    exact h3.mono hc hs
  refine ⟨U, ?_, .threw T.heap.size, hrun, hend, Or.inr ⟨T.heap.size, rfl, cls, ce, locs, hx U hWs.alike f1 (fun q hq => f2 q hq (fun z hz => nomatch hz)), hce, hO.vm, hcl, hWs, hall, hf⟩⟩
  refine st1 _ ?_
  show Steps p.tables e below (T1.setTop { method := m, pc := pc + 3, locals := ls, stack := .ref T.heap.size :: rest, locked := none }) _
  jvm_step X₁.here [X₁.here.top, hexec, d3', Value.category]
  exact X₁.ldcString hexec (own := own) (text := text) (index := is) (a := sa) hown' hstr'.1 hstr'.2
    (g := { method := m, pc := pc + 4, locals := ls, stack := .ref T.heap.size :: .ref T.heap.size :: rest, locked := none }) rfl d4' _ hsteps
/-- 'throw new E("text")', the text by a wide index -/
theorem vx_throwSW {cc : ByteArray} {pc : Nat} (hexec : p.tables.exec = Jvm.exec) (hb : c.code = cc) (hl : l.stackTraces = false) {own cls text : String} {names : List String} {ik is ic mc ms sa : Nat} {A : Nat → Prop}
    (hown : s.vm.findClass own = some m.cls) (hcls : Bundle.fit cls = true) (hnames : ∀ n ∈ names, Bundle.fit n = true)
    (hk : (Cond.classLink own ik cls).before args s = true) (hini : (Cond.initialized cls).before args s = true) (hstr : vk_R own is text sa s) (hat : ∀ w ∈ vx_atS own ic cls names, w.before args s = true)
    (hgood : ∀ w ∈ Cond.classLink own ik cls :: Cond.initialized cls :: vx_atS own ic cls names, vx_ot w = true)
    (hU : vx_Zq Bundle.tN "UNASSIGNED_STACK" Bundle.steD A s s.heap) (hN : vx_Zq Bundle.tN "SUPPRESSED_SENTINEL" Bundle.listD A s s.heap) (hS : va_S A s.heap H locs) (hsize : ls.size = c.maxLocals)
    (d0 : decode cc pc = .ok (.new ik, 3)) (d3 : decode cc (pc + 3) = .ok (.dup, 1)) (d4 : decode cc (pc + 4) = .ok (.ldc_w is, 3)) (d7 : decode cc (pc + 7) = .ok (.invokespecial ic, 3)) (d10 : decode cc (pc + 10) = .ok (.athrow, 1))
    (hout : ∀ x ∈ c.exceptionTable.toList, covers x (pc + 10) = false)
    (hRframes : names.length + 3 < R.frames) (hRlocals : (rest.map fun v => v.category).sum + (13 * (names.length + 1) + 43) ≤ R.locals) (hRcells : cells + 1 ≤ R.cells) (hRslots : slots + 6 ≤ R.slots) (hlocks : meth.locks = false)
    (hx : ∀ t : State, s.vm.Alike t.vm → H.size ≤ t.heap.size → (∀ q : Nat, q < H.size → t.heap[q]? = H[q]?) → XC cls s t)
    (hf : ∀ z ∈ locs, free z.base) (hc : cells + 1 ≤ mc) (hs : slots + 6 ≤ ms) :
    W p l e R s m args below meth c H locs cells slots (vx_MQ below Qc XC args s mc ms free) (F0 m pc ls rest) := by
  intro T hT X
  have htr : e.platform.stackTraces = false := (show e.platform.stackTraces = l.stackTraces by rw [X.admits.platform]).trans hl
  have Y := vx_rebase X (R' := { frames := R.frames, locals := R.locals, cells := 1, slots := 6 }) (Nat.le_refl _) (Nat.le_refl _) hRcells hRslots
  obtain ⟨s', hA⟩ : ∃ z, z = (T.setVm s.vm).setFrames (.invoking m args :: below) := ⟨_, rfl⟩
  rw [← hA] at Y
  have hvm : s'.vm = s.vm := by rw [hA]; rfl
  have hhp : s'.heap = H := by rw [hA]; exact hT
  have hW0 : s.WarmedH s'.vm := by rw [hvm]; exact State.WarmedH.refl s
  have hat' : ∀ w ∈ vx_atS own ic cls names, w.before args s' = true := fun w hw => vx_ot_at hW0 hvm.symm (hgood w (List.mem_cons_of_mem _ (List.mem_cons_of_mem _ hw))) (hat w hw)
  have hk' : (Cond.classLink own ik cls).before args s' = true := vx_ot_at hW0 hvm.symm (hgood _ List.mem_cons_self) hk
  have hini' : (Cond.initialized cls).before args s' = true := vx_ot_at hW0 hvm.symm (hgood _ (List.mem_cons_of_mem _ List.mem_cons_self)) hini
  have hU' : vx_Zq Bundle.tN "UNASSIGNED_STACK" Bundle.steD A s' s'.heap := by rw [hhp]; exact vx_Zq.moved hW0.alike (hU.kept hS.2.1)
  have hN' : vx_Zq Bundle.tN "SUPPRESSED_SENTINEL" Bundle.listD A s' s'.heap := by rw [hhp]; exact vx_Zq.moved hW0.alike (hN.kept hS.2.1)
  have h : ∀ w ∈ Bundle.ownAtoms own ic cls names, w.before args s' = true := vx_own hat' (vx_isRefq hU'.1) (vx_isRefq hN'.1) hU'.2.word hN'.2.word
  have hown' : s'.vm.findClass own = some m.cls := by rw [hvm]; exact hown
  have hins : (Cond.instantiable cls 6).before args s' = true := h _ (by simp [Bundle.ownAtoms])
  obtain ⟨vm₁, cX, kX, hfX, hkX, -, -, X₁, st1⟩ := Y.newCold hexec (own := own) (C := cls) (index := ik) (n := 6) hown' hk' hins hini'
    (g := F0 m pc ls rest) rfl (by rw [hb]; exact d0) (Nat.le_refl _) (Nat.le_refl _)
  generalize hT1 : (T.setVm vm₁).pushCell { cls := cX, slots := kX.instanceTypes.map defaultValue, vm := .none } = T1 at X₁ st1
  have hcat : (Value.ref T.heap.size).category = 1 := rfl
  have hcellA : T1.heap[T.heap.size]? = some (freshCell cX kX) := by rw [← hT1]; exact State.heap_pushCell_size _ _
  have d3' : decode c.code (pc + 3) = .ok (.dup, 1) := by rw [hb]; exact d3
  have d4' : decode c.code (pc + 4) = .ok (.ldc_w is, 3) := by rw [hb]; exact d4
  have hstr' : vk_R own is text sa s' := vk_R.warm hW0 hstr
  obtain ⟨U, hsteps, hrun, hend, hW, hsame, ce, hce, hO⟩ := X₁.ctorThrowS hexec htr (own := own) (cls := cls) (names := names) (ic := ic) hown' hcls hnames h (fun x hx => nomatch hx) hfX hkX hcellA (by rw [hhp, hT]; exact Nat.le_refl _) (msg := .ref sa) rfl
    (g := { method := m, pc := pc + 7, locals := ls, stack := .ref sa :: .ref T.heap.size :: .ref T.heap.size :: rest, locked := none }) rfl hsize rfl rfl (rest := rest) rfl
    (by rw [hb]; exact d7) (by rw [hb]; exact d10) hout hRframes (by simp only [List.map_cons, List.sum_cons, hcat]; omega) hlocks
  obtain ⟨f1, f2⟩ := vx_frame hsame
  rw [hhp] at f1 f2
  have hWs : s.WarmedH U.vm := State.WarmedH.trans hW0 hW
  have hcl : s.vm.findClass cls = some ce.cls := by
    have h9 := hO.cls
    rw [hvm] at h9
    exact h9
  have hall : s.sameButNew ({ U with vm := s.vm } : State) locs mc ms := by
    subst hA
    obtain ⟨e1, e2⟩ := hsame
    rw [State.setFrames_setFrames] at e1
    have h2 : (T.setVm s.vm).sameButNew ({ U with vm := s.vm } : State) [] (0 + 1) (0 + 6) := ⟨e1, e2⟩
    have h3 := X.same.trans h2
    rw [List.append_nil] at h3
    exact h3.mono hc hs
  refine ⟨U, ?_, .threw T.heap.size, hrun, hend, Or.inr ⟨T.heap.size, rfl, cls, ce, locs, hx U hWs.alike f1 (fun q hq => f2 q hq (fun z hz => nomatch hz)), hce, hO.vm, hcl, hWs, hall, hf⟩⟩
  refine st1 _ ?_
  show Steps p.tables e below (T1.setTop { method := m, pc := pc + 3, locals := ls, stack := .ref T.heap.size :: rest, locked := none }) _
  jvm_step X₁.here [X₁.here.top, hexec, d3', Value.category]
  exact X₁.ldcStringW hexec (own := own) (text := text) (index := is) (a := sa) hown' hstr'.1 hstr'.2
    (g := { method := m, pc := pc + 4, locals := ls, stack := .ref T.heap.size :: .ref T.heap.size :: rest, locked := none }) rfl d4' _ hsteps
end Ends
section Bodies
variable {l : Launch}
theorem vx_ofW {y : MethodName} {ws ws' : List Cond} {rm : Room} {Pc : Array Value → State → Prop} {Qc : Array Value → State → Outcome → State → Prop} {XC : String → State → State → Prop} {mc ms : Nat} {free : Addr → Prop} {cc : ByteArray} {maxL : Nat} {ret : Option FieldType}
    (hy : plainName y.cls = true) (hw : ws = Cond.code y cc maxL ret :: ws')
    (body : ∀ p e s m args below meth c s₁, BodyLoose p l y (headSpec ws rm) cc maxL ret e s m args below meth c s₁ → c.maxLocals = maxL → (∀ x ∈ c.exceptionTable.toList, False) → Pc args s →
      W p l e (headSpec ws rm).room s m args below meth c s.heap [] 0 0 (vx_MQ below Qc XC args s mc ms free) (entryFrame m args maxL)) : vx_Met l y ws rm Pc Qc XC mc ms free := by
  refine MetFree.of_bodyS (code := cc) (maxLocals := maxL) (ret := ret) hy ?_ ?_
  · intro args s m h hn
    obtain ⟨meth, c, h1, h2, h3, h4, h5, h6, -, -⟩ := Cond.code_spec hn (atoms_spec (ws := ws) h _ (by rw [hw]; exact List.mem_cons_self))
    exact ⟨meth, c, h1, h2, h3, h4, h5, h6⟩
  · intro p e s m args below meth c s₁ B hml hP _
    have hh0 : s₁.heap = s.heap := by rw [B.state]; rfl
    have ht : ∀ x ∈ c.exceptionTable.toList, False := by
      obtain ⟨meth9, c9, h1, h2, -, -, -, -, h7, -⟩ := Cond.code_spec B.named (atoms_spec (ws := ws) B.pre _ (by rw [hw]; exact List.mem_cons_self))
      cases Option.some.inj (h1.symm.trans B.method)
      cases Option.some.inj (h2.symm.trans (Stand.of_body B).code)
      intro x hx
      rw [Array.isEmpty_iff.mp h7] at hx
      cases hx
    obtain ⟨t, a1, o, b1, b2, b3⟩ := body p e s m args below meth c s₁ B hml ht hP s₁ hh0 (Stand.of_body B)
    exact ⟨t, o, a1, b1, b2, b3⟩
/-- the table of a body with handlers -/
theorem vx_table {p : Program} {x y : MethodName} {S : Spec} {cc bytes : ByteArray} {maxL maxL' : Nat} {ret ret' : Option FieldType} {e : Env} {s s₁ : State} {m : MethodId} {args : Array Value} {below : List Frame} {meth : Method} {c : Code} {hh : List (Nat × Nat × Nat × Nat)}
    (B : BodyLoose p l y S cc maxL ret e s m args below meth c s₁) (h : (Cond.codeWith y bytes maxL' ret' hh).before args s = true) : c.exceptionTable.toList = tableOf hh := by
  obtain ⟨m9, meth9, c9, hn9, h1, h2, -, -, h6, -⟩ := Cond.codeWith_spec h
  cases Option.some.inj (hn9.symm.trans B.named)
  cases Option.some.inj (h1.symm.trans B.method)
  cases Option.some.inj (h2.symm.trans (Stand.of_body B).code)
  rw [← h6, table_eq]
end Bodies
end VXA
/-! ===== END ===== -/
/-! ===== BEGIN a static call of a method with an exception table ===== -/
section VXS
variable {p : Program} {l : Launch} {e : Env} {R : Room} {s : State} {m : MethodId} {args : Array Value} {below : List Frame} {meth : Method} {c : Code} {T : State} {H : Heap} {locs : List Loc} {cells slots : Nat}
abbrev vx_CSW (R : Room) (s : State) (args : Array Value) (own : String) (index : Nat) (y : MethodName) (bytes : ByteArray) (maxL : Nat) (ret : Option FieldType) (hh : List (Nat × Nat × Nat × Nat)) (ws : List Cond) (rm : Room) (mc ms n : Nat) : Prop :=
  (rm.cells = mc ∧ rm.slots = ms ∧ rm.frames + 1 ≤ R.frames ∧ 8 + (maxL + 11) + rm.locals ≤ R.locals ∧ (∀ w ∈ ws, ∀ (a' : Array Value) (U : State), s.WarmedH U.vm → w.before a' U = true) ∧ Cond.codeWith y bytes maxL ret hh ∈ ws) ∧
  (Cond.codeWith y bytes maxL ret hh).before args s = true ∧ (Cond.initialized y.cls).before args s = true ∧ (y.cls ≠ "java/lang/invoke/MethodHandle" ∧ y.cls ≠ "java/lang/invoke/VarHandle") ∧
  (∀ sig, parseMethodDescriptor y.desc = some sig → n = sig.parameters.length) ∧ (Cond.methodLink own index y).before args s = true ∧ (Cond.static y).before args s = true
theorem vx_cwSW {own : String} {index maxL mc ms : Nat} {y : MethodName} {bytes : ByteArray} {ret : Option FieldType} {hh : List (Nat × Nat × Nat × Nat)} {Ts ws ws' : List Cond} {rm : Room} (n : Nat) (ht : ∀ w ∈ Ts, w.before args s = true) (hT : GoodIn Ts (va_wsS own index y ws)) (hw : ws = Cond.codeWith y bytes maxL ret hh :: ws') (hrc : rm.cells = mc) (hrs : rm.slots = ms)
    (hd : y.cls ≠ "java/lang/invoke/MethodHandle" ∧ y.cls ≠ "java/lang/invoke/VarHandle" ∧ (parseMethodDescriptor y.desc).map (fun d => d.parameters.length) = some n) (hR : rm.frames + 1 ≤ R.frames ∧ 8 + (maxL + 11) + rm.locals ≤ R.locals) :
    vx_CSW R s args own index y bytes maxL ret hh ws rm mc ms n := by
  have ok : ∀ w ∈ va_wsS own index y ws, w.before args s = true := fun w h => ht w (hT w h).1
  have hG : GoodIn Ts ws := fun w h => hT w (by unfold va_wsS; exact List.mem_append_right _ h)
  have hc : Cond.codeWith y bytes maxL ret hh ∈ ws := by rw [hw]; exact List.mem_cons_self
  refine ⟨⟨hrc, hrs, hR.1, hR.2, pay_in ht hG, hc⟩, ht _ (hG _ hc).1, ok _ (by simp [va_wsS]), ⟨hd.1, hd.2.1⟩, fun sig h => ?_, ok _ (by simp [va_wsS]), ok _ (by simp [va_wsS])⟩
  have h2 := hd.2.2
  rw [h] at h2
  exact (Option.some.inj h2).symm
theorem vx_callSW (X : Stand p l e R s m args below meth c T locs cells slots) (hexec : p.tables.exec = Jvm.exec) {own : String} {index : Nat} {y : MethodName} {bytes : ByteArray} {maxL : Nat} {ret : Option FieldType} {hh : List (Nat × Nat × Nat × Nat)}
    (hown : s.vm.findClass own = some m.cls) (hlink : (Cond.methodLink own index y).before args s = true) (hstat : (Cond.static y).before args s = true) (hinit : (Cond.initialized y.cls).before args s = true)
    (hcode : (Cond.codeWith y bytes maxL ret hh).before args s = true) (hy : y.cls ≠ "java/lang/invoke/MethodHandle" ∧ y.cls ≠ "java/lang/invoke/VarHandle")
    {W9 : Nat} {Pre : Pt → Array Value → Prop} {Post : Pt → Array Value → Option Value → Pt → Prop} (hK : Back l R p e below s args y 3 W9 Pre Post)
    {g : JFrame} (hg : g.method = m) (hsize : g.locals.size = c.maxLocals) {argsL rest : List Value} (hlen : ∀ sig, parseMethodDescriptor y.desc = some sig → argsL.length = sig.parameters.length)
    (hstack : g.stack = argsL.reverse ++ rest) (hW : 2 * g.monitorRoom + (rest.map fun v => v.category).sum ≤ W9) (hdg : decode c.code g.pc = .ok (.invokestatic index, 3))
    (hpre : ∀ vm₁, s.WarmedH vm₁ → Pre ⟨T.setVm vm₁, locs, cells, slots⟩ argsL.toArray) :
    ∃ (v : Option Value) (vm₁ : Vm) (B : Pt), s.WarmedH vm₁ ∧ Stand p l e R s m args below meth c B.U B.locs B.cells B.slots ∧ Post ⟨T.setVm vm₁, locs, cells, slots⟩ argsL.toArray v B ∧
      ∀ target, Steps p.tables e below (B.U.setTop { g with pc := g.pc + 3, stack := v.toList ++ rest }) target → Steps p.tables e below (T.setTop g) target := by
  obtain ⟨mk, methM, cM, hnamed, hmethM, -, -, -, -, -, -, hsigM⟩ := Cond.codeWith_spec hcode
  have hstatic : methM.isStatic = true := Cond.static_spec hnamed hmethM hstat
  obtain ⟨kP, hkP, -⟩ := className_of_methodNamed hnamed
  have hinitP : kP.init = .initialized := Cond.initialized_spec (findClass_of_methodNamed hnamed) hkP hinit
  obtain ⟨vm₁, X₁, hstep₁⟩ := X.invokestatic hexec hown hlink hnamed hmethM hstatic hkP hinitP hy (g := g) hg (argsL := argsL) (rest := rest) (hlen _ hsigM) hstack hdg
  obtain ⟨v, B, X', hpost, hsteps⟩ := hK m meth c ⟨T.setVm vm₁, locs, cells, slots⟩ { g with stack := rest } (.invokestatic index) mk argsL.toArray X₁ hg hsize hdg hW (X₁.named hnamed) (hpre vm₁ X₁.warmed)
  exact ⟨v, vm₁, B, X₁.warmed, X', hpost, fun target h => hstep₁ _ fun acts => by rw [doInvoke_state]; exact hsteps.trans h⟩
theorem vx_runSW {y : MethodName} {bytes cc : ByteArray} {maxL nL mc ms n index : Nat} {ret : Option FieldType} {hh : List (Nat × Nat × Nat × Nat)} {ws : List Cond} {rm : Room} {Pc : Array Value → State → Prop} {Qc : Array Value → State → Outcome → State → Prop} {free : Addr → Prop} {Ts : List Cond} {own : String} {As rest : List Value} {g : JFrame}
    (S : CallFix p m c cc nL s args Ts own) (hM : Met l y ws rm Pc Qc mc ms free) (cw : vx_CSW R s args own index y bytes maxL ret hh ws rm mc ms n) (hp : PreS s H Pc As)
    (hg : g.method = m) (hn : As.length = n) (hsize : g.locals.size = nL) (hstack : g.stack = As.reverse ++ rest) (hW : 2 * g.monitorRoom + (rest.map fun v => v.category).sum ≤ 8) (hdg : decode cc g.pc = .ok (.invokestatic index, 3)) (hf : cells + mc ≤ R.cells ∧ slots + ms ≤ R.slots) :
    va_Run p l e R s m args below meth c H locs cells slots mc ms g rest (Qc As.toArray) (free) := by
  obtain ⟨⟨hrc, hrs, hfr, hlo, hws, hcw⟩, hcode, hini, hy, hlen, hl, hstt⟩ := cw
  have hK : Back l R p e below s args y 3 8 (PreOf R mc ms Pc) (PostOf Qc mc ms free) := va_backW (hh := hh) (bytes := bytes) (maxL := maxL) (ret := ret) hM hp.1 hrc hrs hfr hlo hws hcw (fun a' U hW => word_at hW (Or.inl (by first | rfl | simp [Cond.onTables, Cond.keeps, Cond.steady])) hini)
  obtain ⟨hx, hb, hml, ho, -⟩ := S
  intro T hT X
  obtain ⟨v, vm₁, ⟨U', l2, c2, s2⟩, hW₁, X', ⟨g', mk, t, L, e1, e2, hq, h1, hL, h2, h3⟩, st⟩ := vx_callSW X hx (hh := hh) (bytes := bytes) (maxL := maxL) (ret := ret) ho hl hstt hini hcode hy hK hg (hsize.trans hml.symm) (argsL := As) (rest := rest) (fun sig h => hn.trans (hlen sig h)) hstack hW (by rw [hb]; exact hdg)
    (fun vm₁ hW₁ => ⟨hf.1, hf.2, hp.2 (T.setVm vm₁) hT hW₁⟩)
  dsimp only [Pt.U, Pt.locs, Pt.cells, Pt.slots] at X' e1 e2 h1 h2 h3 st
  subst h1; subst h2; subst h3
  exact ⟨v, (T.setVm vm₁).calling g' mk As.toArray, t, U', L, hT, X', hL, e1, e2, hq, st⟩
/-- not caught here, past rows that name other classes: it goes on to the caller -/
theorem vx_outP {p : Program} {l : Launch} {e : Env} {R : Room} {s : State} {m : MethodId} {args : Array Value} {below : List Frame} {meth : Method} {c : Code} {H : Heap} {locs : List Loc} {cells slots : Nat} {free : Addr → Prop} {ls : Array Slot} {rest : List Value} {Qc : Array Value → State → Outcome → State → Prop} {XC : String → State → State → Prop}
    {pc : Nat} {own E : String} {ce : Cell} {q : Addr} {mc ms : Nat} (hown : s.vm.findClass own = some m.cls) (hlocks : meth.locks = false)
    (hpass : ∀ z ∈ c.exceptionTable.toList, covers z pc = false ∨ (z.catchType ≠ 0 ∧ ∃ nm : String, (Cond.classLink own z.catchType nm).before args s = true ∧ va_Nc E nm s)) (hcell : H[q]? = some ce) (hv : ce.vm = .none) (hcl : s.vm.findClass E = some ce.cls)
    (hx : ∀ t : State, t.heap = H → s.vm.Alike t.vm → XC E s t) (hf : ∀ z ∈ locs, free z.base) (hc : cells ≤ mc) (hs : slots ≤ ms) :
    vx_W p l e R s m args below meth c H locs cells slots (vx_MQ below Qc XC args s mc ms free) (F0 m pc ls rest) q := by
  intro T hT X
  have hpl : e.platform.magicAccessors = ({} : Platform).magicAccessors := by rw [X.admits.platform]
  obtain ⟨vm', hW', X', st⟩ := X.outThrough hlocks q (g := F0 m pc ls rest) rfl rfl rfl (cell := ce) (by rw [hT]; exact hcell) (by rw [hv]; rfl)
    (by obtain ⟨k9, h9, -⟩ := Vm.findClass_spec hcl; exact ⟨k9, h9⟩) (fun z hz => by
      rcases hpass z hz with h | ⟨hz0, nm, hl1, hn1⟩
      · exact Or.inl h
      · obtain ⟨c6, hc6, hcl6⟩ := Cond.classLink_spec hown hl1 e.platform hpl
        obtain ⟨a8, b8, h1, h2, h3⟩ := hn1
        cases Option.some.inj (h1.symm.trans hcl)
        cases Option.some.inj (h2.symm.trans hc6)
        exact Or.inr ⟨hz0, _, hcl6, h3⟩)
  obtain ⟨g₀, hfr⟩ := X'.frames_eq
  have hcell9 : ((T.setVm vm').setFrames (.throwing q :: below)).heap[q]? = some ce := by
    show T.heap[q]? = some ce
    rw [hT]; exact hcell
  have hend : Ended ((T.setVm vm').setFrames (.throwing q :: below)) below (.threw q) := State.frames_setFrames _ (State.cur_lt_of_frames hfr)
  refine ⟨(T.setVm vm').setFrames (.throwing q :: below), ?_, .threw q, X'.here.running, hend, Or.inr ⟨q, rfl, E, ce, locs, hx _ hT (X'.ends _).1.alike, hcell9, hv, hcl, (X'.ends _).1, (X'.ends _).2.mono hc hs, hf⟩⟩
  rw [X.pushThrowing_eq]
  exact st
/-- a thing of a world lies in the heap -/
theorem vx_lt {D : va_G} {cl : List vw_C} {ws : va_W} {H1 : Heap} (h : va_P D cl ws H1) {k : Nat} {q : Nat × va_E} (hk : ws[k]? = some q) : q.1 < H1.size := (h k q hk).lt
end VXS
/-! ===== END ===== -/
/-! ===== BEGIN methods with a table of their own: called by a name, returning or throwing ===== -/
section VXH
/-! vx_backW, vx_callVX, vx_callSX, vx_callVW, vx_runVW, vx_runVX, vx_runSX, vx_ofWH follow the same proofs as their sisters above (Free/Laws.lean, Shelf42/LK1.lean); vx_outP calls Shelf42/NT130.lean (outThrough). -/
section
variable {l : Launch} {R : Room} {p : Program} {e : Env} {below : List Frame} {s : State} {sargs : Array Value} {y : MethodName} {len W9 : Nat}
theorem vx_backW {ws : List Cond} {rm : Room} {Pc : Array Value → State → Prop} {Qc : Array Value → State → Outcome → State → Prop} {XC : String → State → State → Prop} {mc ms : Nat} {free : Addr → Prop} {bytes : ByteArray} {maxL : Nat} {ret : Option FieldType} {hh : List (Nat × Nat × Nat × Nat)}
    (hM : vx_Met l y ws rm Pc Qc XC mc ms free) (hblind : FrameBlind Pc) (hrc : rm.cells = mc) (hrs : rm.slots = ms)
    (hframes : rm.frames + 1 ≤ R.frames) (hlocals : W9 + (maxL + 11) + rm.locals ≤ R.locals)
    (hws : ∀ w ∈ ws, ∀ a' U, s.WarmedH U.vm → w.before a' U = true) (hcode : Cond.codeWith y bytes maxL ret hh ∈ ws) (hinit : ∀ a' U, s.WarmedH U.vm → (Cond.initialized y.cls).before a' U = true) :
    vx_Back l R p e below s sargs y len W9 (PreOf R mc ms Pc) (PostOf Qc mc ms free) (vx_Post XC mc ms free) := by
  intro m meth c A g ig mk a X hg hsize hdg hW hn hp
  have h1 : (headSpec ws rm).pre.before a A.U = true := atoms_intro fun w hw => hws w hw _ _ X.warmed
  have h2 : (Cond.codeWith y bytes maxL ret hh).before a A.U = true := hws _ hcode _ _ X.warmed
  have h3 : (Cond.initialized y.cls).before a A.U = true := hinit _ _ X.warmed
  have h4 : A.cells + (headSpec ws rm).room.cells ≤ R.cells := by rw [show (headSpec ws rm).room.cells = mc from hrc]; exact hp.1
  have h5 : A.slots + (headSpec ws rm).room.slots ≤ R.slots := by rw [show (headSpec ws rm).room.slots = ms from hrs]; exact hp.2.1
  have hPc : Pc a (A.U.calling g mk a) := hblind _ _ _ _ hp.2.2
  obtain ⟨U, Ls, c0, s0⟩ := A
  dsimp only [Pt.U, Pt.locs, Pt.cells, Pt.slots] at h1 h2 h3 h4 h5 X hn hPc ⊢
  obtain ⟨m9, methY, cY, hn9, hmY, hcY, -, hlY, -⟩ := Cond.codeWith_spec h2
  cases Option.some.inj (hn9.symm.trans hn)
  obtain ⟨kY, hkY, -⟩ := className_of_methodNamed hn
  have hinitY : kY.init = .initialized := Cond.initialized_spec (findClass_of_methodNamed hn) hkY h3
  have h : At U g.method c below := by rw [hg]; exact X.here
  have hlocals9 : W9 + (maxL + 11) + (headSpec ws rm).room.locals ≤ R.locals := hlocals
  have happ : (headSpec ws rm).appliesLoose y e.platform (U.calling g mk a) = true :=
    Spec.appliesLoose_calling (g := g) h hdg hn hkY hinitY
      (X.room_calling (g := g) (R' := (headSpec ws rm).room) hsize hmY hcY hframes (by rw [hlY]; omega) h4 h5) h1
  obtain ⟨mid, hmid⟩ := h.above
  have hfr : (U.setTop g).frames = (.java g :: mid) ++ below := by rw [State.frames_setTop' g h.top, hmid]; rfl
  obtain ⟨o, s₂, hsteps, -, hend, hq⟩ := Steps.callFree hM p X.admits X.cas X.clock (acts := []) hfr happ hPc trivial
  have hq' : vx_Q Qc XC mc ms free a (U.calling g mk a) o s₂ := hq
  rw [State.frames_setTop' g h.top] at hend
  obtain ⟨g₀, hg0⟩ := Option.isSome_iff_exists.mp h.top
  obtain ⟨r, hr⟩ := State.topJava?_eq_some.mp hg0
  have hr' : (({ U with heap := s₂.heap, slotsUsed := s₂.slotsUsed } : State).setVm s₂.vm).frames = .java g₀ :: r := hr
  rcases hq' with ⟨hqc, L, hfe, hL⟩ | ⟨q, rfl, E, ce, L, hx, hce, hcv, hcl, hW₂, hsm, hL⟩
  · obtain ⟨⟨v, rfl⟩, hW₂, e2, q2, q3, q4, q5, q6⟩ := id hfe
    have e3 : s₂ = ({ (U.calling g mk a).setFrames s₂.frames with heap := s₂.heap, slotsUsed := s₂.slotsUsed } : State).setVm s₂.vm := by
      have : s₂ = ({ s₂ with vm := (U.calling g mk a).vm } : State).setVm s₂.vm := rfl
      rw [e2] at this
      exact this
    obtain ⟨c₂, i₂, len₂, hc₂, hd₂, hf₂⟩ := hend
    have hW' : U.WarmedH s₂.vm := hW₂
    have hcc : c₂ = c := by
      have h1 : s₂.code? g.method = U.code? g.method := by
        rw [State.code?_eq, State.code?_eq, hW'.alike.method?]
      exact Option.some.inj (hc₂.symm.trans (h1.trans h.code))
    subst hcc
    have hlen : len₂ = len := by rw [hdg] at hd₂; cases hd₂; rfl
    subst hlen
    have hs₂ : s₂ = (({ U with heap := s₂.heap, slotsUsed := s₂.slotsUsed } : State).setVm s₂.vm).setTop { g with pc := g.pc + len₂, stack := v.toList ++ g.stack } := by
      refine e3.trans ?_
      rw [hf₂, State.calling_eq h.top, State.setFrames_setFrames, State.setTop_of_frames _ hr', hr]
      rfl
    have hsame : U.sameButNew ({ U with heap := s₂.heap, slotsUsed := s₂.slotsUsed } : State) L mc ms := by
      refine ⟨?_, q2, q3, q4, q5, q6⟩
      obtain ⟨t, ht, -⟩ := State.frames_cons hr
      show ({ U with heap := s₂.heap, slotsUsed := s₂.slotsUsed } : State) = { U.setFrames U.frames with heap := s₂.heap, slotsUsed := s₂.slotsUsed }
      rw [State.setFrames_self ht]
    subst hg
    refine Or.inl ⟨v, ⟨(({ U with heap := s₂.heap, slotsUsed := s₂.slotsUsed } : State).setVm s₂.vm), Ls ++ L, c0 + mc, s0 + ms⟩,
      ⟨X.admits, X.cas, X.clock, X.frames, X.room, X.hears, X.method, X.code, (X.here.setHeapUsed s₂.heap s₂.slotsUsed).setVm hW'.alike, X.tail, State.WarmedH.trans X.warmed hW', X.limits, X.bytes, X.same.trans (hsame.setVm s.vm)⟩,
      ⟨g, mk, s₂, L, rfl, rfl, hqc, rfl, hL, rfl, rfl⟩, ?_⟩
    show Steps p.tables e below _ ((({ U with heap := s₂.heap, slotsUsed := s₂.slotsUsed } : State).setVm s₂.vm).setTop { g with pc := g.pc + len₂, stack := v.toList ++ g.stack })
    rw [← hs₂]
    exact hsteps
  · obtain ⟨e2, q2, q3, q4, q5, q6⟩ := id hsm
    have e3 : s₂ = ({ (U.calling g mk a).setFrames s₂.frames with heap := s₂.heap, slotsUsed := s₂.slotsUsed } : State).setVm s₂.vm := by
      have : s₂ = ({ s₂ with vm := (U.calling g mk a).vm } : State).setVm s₂.vm := rfl
      rw [e2] at this
      exact this
    have hf₂ : s₂.frames = .throwing q :: .java g :: U.frames.tail := hend
    have hW' : U.WarmedH s₂.vm := hW₂
    have hs₂ : s₂ = ((({ U with heap := s₂.heap, slotsUsed := s₂.slotsUsed } : State).setVm s₂.vm).setTop g).pushFrame (.throwing q) := by
      refine e3.trans ?_
      rw [hf₂, State.calling_eq h.top, State.setFrames_setFrames, State.pushFrame, State.frames_setTop _ hr', State.setTop_of_frames _ hr', State.setFrames_setFrames, hr]
      rfl
    have hsame : U.sameButNew ({ U with heap := s₂.heap, slotsUsed := s₂.slotsUsed } : State) L mc ms := by
      refine ⟨?_, q2, q3, q4, q5, q6⟩
      obtain ⟨t, ht, -⟩ := State.frames_cons hr
      show ({ U with heap := s₂.heap, slotsUsed := s₂.slotsUsed } : State) = { U.setFrames U.frames with heap := s₂.heap, slotsUsed := s₂.slotsUsed }
      rw [State.setFrames_self ht]
    subst hg
    refine Or.inr ⟨q, ⟨(({ U with heap := s₂.heap, slotsUsed := s₂.slotsUsed } : State).setVm s₂.vm), Ls ++ L, c0 + mc, s0 + ms⟩,
      ⟨X.admits, X.cas, X.clock, X.frames, X.room, X.hears, X.method, X.code, (X.here.setHeapUsed s₂.heap s₂.slotsUsed).setVm hW'.alike, X.tail, State.WarmedH.trans X.warmed hW', X.limits, X.bytes, X.same.trans (hsame.setVm s.vm)⟩,
      ⟨g, mk, s₂, L, E, ce, rfl, rfl, hx, hce, hcv, hcl, rfl, hL, rfl, rfl⟩, ?_⟩
    show Steps p.tables e below _ (((({ U with heap := s₂.heap, slotsUsed := s₂.slotsUsed } : State).setVm s₂.vm).setTop g).pushFrame (.throwing q))
    rw [← hs₂]
    exact hsteps
end
variable {p : Program} {l : Launch} {e : Env} {R : Room} {s : State} {m : MethodId} {args : Array Value} {below : List Frame} {meth : Method} {c : Code} {T : State} {H : Heap} {locs : List Loc} {cells slots : Nat}
theorem vx_callVX (X : Stand p l e R s m args below meth c T locs cells slots) (hexec : p.tables.exec = Jvm.exec) {own C : String} {index : Nat} {y : MethodName} {bytes : ByteArray} {maxL : Nat} {ret : Option FieldType} {hh : List (Nat × Nat × Nat × Nat)}
    (hown : s.vm.findClass own = some m.cls) (hlink : (Cond.methodLink own index y).before args s = true) (hinst : (Cond.instanceMethod y).before args s = true) (hsel : (Cond.selects C y y).before args s = true)
    (hcode : (Cond.codeWith y bytes maxL ret hh).before args s = true) (hy : y.cls ≠ "java/lang/invoke/MethodHandle" ∧ y.cls ≠ "java/lang/invoke/VarHandle")
    {W9 : Nat} {Pre : Pt → Array Value → Prop} {Post : Pt → Array Value → Option Value → Pt → Prop} {PostX : Pt → Array Value → Addr → Pt → Prop} (hK : vx_Back l R p e below s args y 3 W9 Pre Post PostX)
    {b : Addr} {cellB : Cell} (hcell : T.heap[b]? = some cellB) (hobj : cellB.vm.isStatics = false) (hcls : s.vm.findClass C = some cellB.cls)
    {g : JFrame} (hg : g.method = m) (hsize : g.locals.size = c.maxLocals) {argsL rest : List Value} (hlen : ∀ sig, parseMethodDescriptor y.desc = some sig → argsL.length = sig.parameters.length)
    (hstack : g.stack = argsL.reverse ++ .ref b :: rest) (hW : 2 * g.monitorRoom + (rest.map fun v => v.category).sum ≤ W9) (hdg : decode c.code g.pc = .ok (.invokevirtual index, 3))
    (hpre : ∀ vm₁, s.WarmedH vm₁ → Pre ⟨T.setVm vm₁, locs, cells, slots⟩ (Value.ref b :: argsL).toArray) :
    (∃ (v : Option Value) (vm₁ : Vm) (B : Pt), s.WarmedH vm₁ ∧ Stand p l e R s m args below meth c B.U B.locs B.cells B.slots ∧ Post ⟨T.setVm vm₁, locs, cells, slots⟩ (Value.ref b :: argsL).toArray v B ∧
      ∀ target, Steps p.tables e below (B.U.setTop { g with pc := g.pc + 3, stack := v.toList ++ rest }) target → Steps p.tables e below (T.setTop g) target) ∨
    (∃ (q : Addr) (vm₁ : Vm) (B : Pt), s.WarmedH vm₁ ∧ Stand p l e R s m args below meth c B.U B.locs B.cells B.slots ∧ PostX ⟨T.setVm vm₁, locs, cells, slots⟩ (Value.ref b :: argsL).toArray q B ∧
      Steps p.tables e below (T.setTop g) ((B.U.setTop { g with stack := rest }).pushFrame (.throwing q))) := by
  obtain ⟨mk, methM, hnamed, hmethM, hstM, habM⟩ := Cond.instanceMethod_spec hinst
  obtain ⟨m8, methM', cM, hn8, hmethM', -, -, -, -, -, -, hsigM⟩ := Cond.codeWith_spec hcode
  cases Option.some.inj (hn8.symm.trans hnamed)
  cases hmethM.symm.trans hmethM'
  obtain ⟨c2, r2, m2, q1, q2, q3, q4, kP, hkP, hkPi⟩ := Cond.selects_spec hsel
  cases hcls.symm.trans q1
  cases (State.methodFound?_of_named hnamed hy).symm.trans q2
  cases hnamed.symm.trans q3
  have hselP : selectMethod e.platform s.vm cellB.cls mk = .method mk := by rw [Launch.admits_selectMethod X.admits]; exact q4
  obtain ⟨vm₁, X₁, hstep₁⟩ := X.invokevirtual hexec hown hlink hnamed hmethM hstM hkP hkPi hy (a := b) (cell := cellB) hcell
    (fun z h => by rw [h] at hobj; cases hobj) hselP hmethM habM hkP hkPi (g := g) hg (argsL := argsL) (rest := rest) (hlen _ hsigM) hstack hdg
  rcases hK m meth c ⟨T.setVm vm₁, locs, cells, slots⟩ { g with stack := rest } (.invokevirtual index) mk (Value.ref b :: argsL).toArray X₁ hg hsize hdg hW (X₁.named hnamed) (hpre vm₁ X₁.warmed) with ⟨v, B, X', hpost, hsteps⟩ | ⟨q, B, X', hpost, hsteps⟩
  · exact Or.inl ⟨v, vm₁, B, X₁.warmed, X', hpost, fun target h => hstep₁ _ fun acts => by rw [doInvoke_state]; exact hsteps.trans h⟩
  · exact Or.inr ⟨q, vm₁, B, X₁.warmed, X', hpost, hstep₁ _ fun acts => by rw [doInvoke_state]; exact hsteps⟩
theorem vx_callSX (X : Stand p l e R s m args below meth c T locs cells slots) (hexec : p.tables.exec = Jvm.exec) {own : String} {index : Nat} {y : MethodName} {bytes : ByteArray} {maxL : Nat} {ret : Option FieldType} {hh : List (Nat × Nat × Nat × Nat)}
    (hown : s.vm.findClass own = some m.cls) (hlink : (Cond.methodLink own index y).before args s = true) (hstat : (Cond.static y).before args s = true) (hinit : (Cond.initialized y.cls).before args s = true)
    (hcode : (Cond.codeWith y bytes maxL ret hh).before args s = true) (hy : y.cls ≠ "java/lang/invoke/MethodHandle" ∧ y.cls ≠ "java/lang/invoke/VarHandle")
    {W9 : Nat} {Pre : Pt → Array Value → Prop} {Post : Pt → Array Value → Option Value → Pt → Prop} {PostX : Pt → Array Value → Addr → Pt → Prop} (hK : vx_Back l R p e below s args y 3 W9 Pre Post PostX)
    {g : JFrame} (hg : g.method = m) (hsize : g.locals.size = c.maxLocals) {argsL rest : List Value} (hlen : ∀ sig, parseMethodDescriptor y.desc = some sig → argsL.length = sig.parameters.length)
    (hstack : g.stack = argsL.reverse ++ rest) (hW : 2 * g.monitorRoom + (rest.map fun v => v.category).sum ≤ W9) (hdg : decode c.code g.pc = .ok (.invokestatic index, 3))
    (hpre : ∀ vm₁, s.WarmedH vm₁ → Pre ⟨T.setVm vm₁, locs, cells, slots⟩ argsL.toArray) :
    (∃ (v : Option Value) (vm₁ : Vm) (B : Pt), s.WarmedH vm₁ ∧ Stand p l e R s m args below meth c B.U B.locs B.cells B.slots ∧ Post ⟨T.setVm vm₁, locs, cells, slots⟩ argsL.toArray v B ∧
      ∀ target, Steps p.tables e below (B.U.setTop { g with pc := g.pc + 3, stack := v.toList ++ rest }) target → Steps p.tables e below (T.setTop g) target) ∨
    (∃ (q : Addr) (vm₁ : Vm) (B : Pt), s.WarmedH vm₁ ∧ Stand p l e R s m args below meth c B.U B.locs B.cells B.slots ∧ PostX ⟨T.setVm vm₁, locs, cells, slots⟩ argsL.toArray q B ∧
      Steps p.tables e below (T.setTop g) ((B.U.setTop { g with stack := rest }).pushFrame (.throwing q))) := by
  obtain ⟨mk, methM, cM, hnamed, hmethM, -, -, -, -, -, -, hsigM⟩ := Cond.codeWith_spec hcode
  have hstatic : methM.isStatic = true := Cond.static_spec hnamed hmethM hstat
  obtain ⟨kP, hkP, -⟩ := className_of_methodNamed hnamed
  have hinitP : kP.init = .initialized := Cond.initialized_spec (findClass_of_methodNamed hnamed) hkP hinit
  obtain ⟨vm₁, X₁, hstep₁⟩ := X.invokestatic hexec hown hlink hnamed hmethM hstatic hkP hinitP hy (g := g) hg (argsL := argsL) (rest := rest) (hlen _ hsigM) hstack hdg
  rcases hK m meth c ⟨T.setVm vm₁, locs, cells, slots⟩ { g with stack := rest } (.invokestatic index) mk argsL.toArray X₁ hg hsize hdg hW (X₁.named hnamed) (hpre vm₁ X₁.warmed) with ⟨v, B, X', hpost, hsteps⟩ | ⟨q, B, X', hpost, hsteps⟩
  · exact Or.inl ⟨v, vm₁, B, X₁.warmed, X', hpost, fun target h => hstep₁ _ fun acts => by rw [doInvoke_state]; exact hsteps.trans h⟩
  · exact Or.inr ⟨q, vm₁, B, X₁.warmed, X', hpost, hstep₁ _ fun acts => by rw [doInvoke_state]; exact hsteps⟩
theorem vx_callVW (X : Stand p l e R s m args below meth c T locs cells slots) (hexec : p.tables.exec = Jvm.exec) {own C : String} {index : Nat} {y : MethodName} {bytes : ByteArray} {maxL : Nat} {ret : Option FieldType} {hh : List (Nat × Nat × Nat × Nat)}
    (hown : s.vm.findClass own = some m.cls) (hlink : (Cond.methodLink own index y).before args s = true) (hinst : (Cond.instanceMethod y).before args s = true) (hsel : (Cond.selects C y y).before args s = true)
    (hcode : (Cond.codeWith y bytes maxL ret hh).before args s = true) (hy : y.cls ≠ "java/lang/invoke/MethodHandle" ∧ y.cls ≠ "java/lang/invoke/VarHandle")
    {W9 : Nat} {Pre : Pt → Array Value → Prop} {Post : Pt → Array Value → Option Value → Pt → Prop} (hK : Back l R p e below s args y 3 W9 Pre Post)
    {b : Addr} {cellB : Cell} (hcell : T.heap[b]? = some cellB) (hobj : cellB.vm.isStatics = false) (hcls : s.vm.findClass C = some cellB.cls)
    {g : JFrame} (hg : g.method = m) (hsize : g.locals.size = c.maxLocals) {argsL rest : List Value} (hlen : ∀ sig, parseMethodDescriptor y.desc = some sig → argsL.length = sig.parameters.length)
    (hstack : g.stack = argsL.reverse ++ .ref b :: rest) (hW : 2 * g.monitorRoom + (rest.map fun v => v.category).sum ≤ W9) (hdg : decode c.code g.pc = .ok (.invokevirtual index, 3))
    (hpre : ∀ vm₁, s.WarmedH vm₁ → Pre ⟨T.setVm vm₁, locs, cells, slots⟩ (Value.ref b :: argsL).toArray) :
    ∃ (v : Option Value) (vm₁ : Vm) (B : Pt), s.WarmedH vm₁ ∧ Stand p l e R s m args below meth c B.U B.locs B.cells B.slots ∧ Post ⟨T.setVm vm₁, locs, cells, slots⟩ (Value.ref b :: argsL).toArray v B ∧
      ∀ target, Steps p.tables e below (B.U.setTop { g with pc := g.pc + 3, stack := v.toList ++ rest }) target → Steps p.tables e below (T.setTop g) target := by
  obtain ⟨mk, methM, hnamed, hmethM, hstM, habM⟩ := Cond.instanceMethod_spec hinst
  obtain ⟨m8, methM', cM, hn8, hmethM', -, -, -, -, -, -, hsigM⟩ := Cond.codeWith_spec hcode
  cases Option.some.inj (hn8.symm.trans hnamed)
  cases hmethM.symm.trans hmethM'
  obtain ⟨c2, r2, m2, q1, q2, q3, q4, kP, hkP, hkPi⟩ := Cond.selects_spec hsel
  cases hcls.symm.trans q1
  cases (State.methodFound?_of_named hnamed hy).symm.trans q2
  cases hnamed.symm.trans q3
  have hselP : selectMethod e.platform s.vm cellB.cls mk = .method mk := by rw [Launch.admits_selectMethod X.admits]; exact q4
  obtain ⟨vm₁, X₁, hstep₁⟩ := X.invokevirtual hexec hown hlink hnamed hmethM hstM hkP hkPi hy (a := b) (cell := cellB) hcell
    (fun z h => by rw [h] at hobj; cases hobj) hselP hmethM habM hkP hkPi (g := g) hg (argsL := argsL) (rest := rest) (hlen _ hsigM) hstack hdg
  obtain ⟨v, B, X', hpost, hsteps⟩ := hK m meth c ⟨T.setVm vm₁, locs, cells, slots⟩ { g with stack := rest } (.invokevirtual index) mk (Value.ref b :: argsL).toArray X₁ hg hsize hdg hW (X₁.named hnamed) (hpre vm₁ X₁.warmed)
  exact ⟨v, vm₁, B, X₁.warmed, X', hpost, fun target h => hstep₁ _ fun acts => by rw [doInvoke_state]; exact hsteps.trans h⟩
abbrev vx_CVW (R : Room) (s : State) (args : Array Value) (own C : String) (index : Nat) (y : MethodName) (bytes : ByteArray) (maxL : Nat) (ret : Option FieldType) (hh : List (Nat × Nat × Nat × Nat)) (ws : List Cond) (rm : Room) (mc ms n : Nat) : Prop :=
  (rm.cells = mc ∧ rm.slots = ms ∧ rm.frames + 1 ≤ R.frames ∧ 8 + (maxL + 11) + rm.locals ≤ R.locals ∧ (∀ w ∈ ws, ∀ (a' : Array Value) (U : State), s.WarmedH U.vm → w.before a' U = true) ∧ Cond.codeWith y bytes maxL ret hh ∈ ws) ∧
  (Cond.codeWith y bytes maxL ret hh).before args s = true ∧ (Cond.initialized y.cls).before args s = true ∧ (y.cls ≠ "java/lang/invoke/MethodHandle" ∧ y.cls ≠ "java/lang/invoke/VarHandle") ∧
  (∀ sig, parseMethodDescriptor y.desc = some sig → n = sig.parameters.length) ∧ (Cond.methodLink own index y).before args s = true ∧ (Cond.instanceMethod y).before args s = true ∧ (Cond.selects C y y).before args s = true
theorem vx_cwVW {own C : String} {index maxL mc ms : Nat} {y : MethodName} {bytes : ByteArray} {ret : Option FieldType} {hh : List (Nat × Nat × Nat × Nat)} {Ts ws ws' : List Cond} {rm : Room} (n : Nat) (ht : ∀ w ∈ Ts, w.before args s = true) (hT : GoodIn Ts (wsV own index C y ws)) (hw : ws = Cond.codeWith y bytes maxL ret hh :: ws') (hrc : rm.cells = mc) (hrs : rm.slots = ms)
    (hd : y.cls = C ∧ y.cls ≠ "java/lang/invoke/MethodHandle" ∧ y.cls ≠ "java/lang/invoke/VarHandle" ∧ (parseMethodDescriptor y.desc).map (fun d => d.parameters.length) = some n) (hR : rm.frames + 1 ≤ R.frames ∧ 8 + (maxL + 11) + rm.locals ≤ R.locals) :
    vx_CVW R s args own C index y bytes maxL ret hh ws rm mc ms n := by
  obtain ⟨hC, hd⟩ := hd
  subst hC
  have ok : ∀ w ∈ wsV own index y.cls y ws, w.before args s = true := fun w h => ht w (hT w h).1
  have hG : GoodIn Ts ws := fun w h => hT w (by unfold wsV; exact List.mem_append_right _ h)
  have hc : Cond.codeWith y bytes maxL ret hh ∈ ws := by rw [hw]; exact List.mem_cons_self
  refine ⟨⟨hrc, hrs, hR.1, hR.2, pay_in ht hG, hc⟩, ht _ (hG _ hc).1, ok _ (by simp [wsV]), ⟨hd.1, hd.2.1⟩, fun sig h => ?_, ok _ (by simp [wsV]), ok _ (by simp [wsV]), ok _ (by simp [wsV])⟩
  have h2 := hd.2.2
  rw [h] at h2
  exact (Option.some.inj h2).symm
theorem vx_runVW {y : MethodName} {bytes cc : ByteArray} {maxL nL mc ms n index : Nat} {ret : Option FieldType} {hh : List (Nat × Nat × Nat × Nat)} {ws : List Cond} {rm : Room} {Pc : Array Value → State → Prop} {Qc : Array Value → State → Outcome → State → Prop} {free : Addr → Prop} {Ts : List Cond} {own C : String} {b : Addr} {As rest : List Value} {g : JFrame}
    (S : CallFix p m c cc nL s args Ts own) (hM : Met l y ws rm Pc Qc mc ms free) (cw : vx_CVW R s args own C index y bytes maxL ret hh ws rm mc ms n) (hp : PreV s H C b Pc As)
    (hg : g.method = m) (hn : As.length = n) (hsize : g.locals.size = nL) (hstack : g.stack = As.reverse ++ .ref b :: rest) (hW : 2 * g.monitorRoom + (rest.map fun v => v.category).sum ≤ 8) (hdg : decode cc g.pc = .ok (.invokevirtual index, 3)) (hf : cells + mc ≤ R.cells ∧ slots + ms ≤ R.slots) :
    va_Run p l e R s m args below meth c H locs cells slots mc ms g rest (Qc (Value.ref b :: As).toArray) free := by
  obtain ⟨⟨hrc, hrs, hfr, hlo, hws, hcw⟩, hcode, hini, hy, hlen, hl, hin, hse⟩ := cw
  have hK : Back l R p e below s args y 3 8 (PreOf R mc ms Pc) (PostOf Qc mc ms free) := va_backW (hh := hh) (bytes := bytes) (maxL := maxL) (ret := ret) hM hp.1 hrc hrs hfr hlo hws hcw (fun a' U hW => word_at hW (Or.inl (by first | rfl | simp [Cond.onTables, Cond.keeps, Cond.steady])) hini)
  obtain ⟨hx, hb, hml, ho, -⟩ := S
  obtain ⟨-, ⟨cellB, hcB, hoB, hclB⟩, hPc⟩ := hp
  intro T hT X
  obtain ⟨v, vm₁, ⟨U', l2, c2, s2⟩, hW₁, X', ⟨g', mk, t, L, e1, e2, hq, h1, hL, h2, h3⟩, st⟩ := vx_callVW X hx (C := C) (hh := hh) (bytes := bytes) (maxL := maxL) (ret := ret) ho hl hin hse hcode hy hK (by rw [hT]; exact hcB) hoB hclB hg (hsize.trans hml.symm) (argsL := As) (rest := rest) (fun sig h => hn.trans (hlen sig h)) hstack hW (by rw [hb]; exact hdg)
    (fun vm₁ hW₁ => ⟨hf.1, hf.2, hPc (T.setVm vm₁) hT hW₁⟩)
  dsimp only [Pt.U, Pt.locs, Pt.cells, Pt.slots] at X' e1 e2 h1 h2 h3 st
  subst h1; subst h2; subst h3
  exact ⟨v, (T.setVm vm₁).calling g' mk (Value.ref b :: As).toArray, t, U', L, hT, X', hL, e1, e2, hq, st⟩
section
variable {y : MethodName} {bytes cc : ByteArray} {maxL nL mc ms n index : Nat} {ret : Option FieldType} {ws : List Cond} {rm : Room} {Pc : Array Value → State → Prop} {Qc : Array Value → State → Outcome → State → Prop} {XC : String → State → State → Prop} {free : Addr → Prop} {Ts : List Cond} {own C : String} {b : Addr} {As rest : List Value} {g : JFrame}
theorem vx_runVX {hh : List (Nat × Nat × Nat × Nat)} (S : CallFix p m c cc nL s args Ts own) (hM : vx_Met l y ws rm Pc Qc XC mc ms free) (cw : vx_CVW R s args own C index y bytes maxL ret hh ws rm mc ms n) (hp : PreV s H C b Pc As)
    (hg : g.method = m) (hn : As.length = n) (hsize : g.locals.size = nL) (hstack : g.stack = As.reverse ++ .ref b :: rest) (hW : 2 * g.monitorRoom + (rest.map fun v => v.category).sum ≤ 8) (hdg : decode cc g.pc = .ok (.invokevirtual index, 3)) (hf : cells + mc ≤ R.cells ∧ slots + ms ≤ R.slots) :
    vx_Run p l e R s m args below meth c H locs cells slots mc ms g rest (Qc (Value.ref b :: As).toArray) XC free := by
  obtain ⟨⟨hrc, hrs, hfr, hlo, hws, hcw⟩, hcode, hini, hy, hlen, hl, hin, hse⟩ := cw
  have hK : vx_Back l R p e below s args y 3 8 (PreOf R mc ms Pc) (PostOf Qc mc ms free) (vx_Post XC mc ms free) := vx_backW (hh := hh) (bytes := bytes) (maxL := maxL) (ret := ret) hM hp.1 hrc hrs hfr hlo hws hcw (fun a' U hW => word_at hW (Or.inl (by first | rfl | simp [Cond.onTables, Cond.keeps, Cond.steady])) hini)
  obtain ⟨hx, hb, hml, ho, -⟩ := S
  obtain ⟨-, ⟨cellB, hcB, hoB, hclB⟩, hPc⟩ := hp
  intro T hT X
  rcases vx_callVX X hx (C := C) (hh := hh) (bytes := bytes) (maxL := maxL) (ret := ret) ho hl hin hse hcode hy hK (by rw [hT]; exact hcB) hoB hclB hg (hsize.trans hml.symm) (argsL := As) (rest := rest) (fun sig h => hn.trans (hlen sig h)) hstack hW (by rw [hb]; exact hdg)
    (fun vm₁ hW₁ => ⟨hf.1, hf.2, hPc (T.setVm vm₁) hT hW₁⟩) with ⟨v, vm₁, ⟨U', l2, c2, s2⟩, hW₁, X', ⟨g', mk, t, L, e1, e2, hq, h1, hL, h2, h3⟩, st⟩ | ⟨q, vm₁, ⟨U', l2, c2, s2⟩, hW₁, X', ⟨g', mk, t, L, E, ce, e1, e2, hq, hce, hcv, hcl, h1, hL, h2, h3⟩, st⟩
  · dsimp only [Pt.U, Pt.locs, Pt.cells, Pt.slots] at X' e1 e2 h1 h2 h3 st
    subst h1; subst h2; subst h3
    exact Or.inl ⟨v, (T.setVm vm₁).calling g' mk (Value.ref b :: As).toArray, t, U', L, hT, X', hL, e1, e2, hq, st⟩
  · dsimp only [Pt.U, Pt.locs, Pt.cells, Pt.slots] at X' e1 e2 h1 h2 h3 st hcl
    subst h1; subst h2; subst h3
    exact Or.inr ⟨q, (T.setVm vm₁).calling g' mk (Value.ref b :: As).toArray, t, U', L, E, ce, hT, X', hL, e1, e2, hq, hce, hcv, vx_cls hW₁ hcl, st⟩
theorem vx_runSX {hh : List (Nat × Nat × Nat × Nat)} (S : CallFix p m c cc nL s args Ts own) (hM : vx_Met l y ws rm Pc Qc XC mc ms free) (cw : vx_CSW R s args own index y bytes maxL ret hh ws rm mc ms n) (hp : PreS s H Pc As)
    (hg : g.method = m) (hn : As.length = n) (hsize : g.locals.size = nL) (hstack : g.stack = As.reverse ++ rest) (hW : 2 * g.monitorRoom + (rest.map fun v => v.category).sum ≤ 8) (hdg : decode cc g.pc = .ok (.invokestatic index, 3)) (hf : cells + mc ≤ R.cells ∧ slots + ms ≤ R.slots) :
    vx_Run p l e R s m args below meth c H locs cells slots mc ms g rest (Qc As.toArray) XC free := by
  obtain ⟨⟨hrc, hrs, hfr, hlo, hws, hcw⟩, hcode, hini, hy, hlen, hl, hstt⟩ := cw
  have hK : vx_Back l R p e below s args y 3 8 (PreOf R mc ms Pc) (PostOf Qc mc ms free) (vx_Post XC mc ms free) := vx_backW (hh := hh) (bytes := bytes) (maxL := maxL) (ret := ret) hM hp.1 hrc hrs hfr hlo hws hcw (fun a' U hW => word_at hW (Or.inl (by first | rfl | simp [Cond.onTables, Cond.keeps, Cond.steady])) hini)
  obtain ⟨hx, hb, hml, ho, -⟩ := S
  intro T hT X
  rcases vx_callSX X hx (hh := hh) (bytes := bytes) (maxL := maxL) (ret := ret) ho hl hstt hini hcode hy hK hg (hsize.trans hml.symm) (argsL := As) (rest := rest) (fun sig h => hn.trans (hlen sig h)) hstack hW (by rw [hb]; exact hdg)
    (fun vm₁ hW₁ => ⟨hf.1, hf.2, hp.2 (T.setVm vm₁) hT hW₁⟩) with ⟨v, vm₁, ⟨U', l2, c2, s2⟩, hW₁, X', ⟨g', mk, t, L, e1, e2, hq, h1, hL, h2, h3⟩, st⟩ | ⟨q, vm₁, ⟨U', l2, c2, s2⟩, hW₁, X', ⟨g', mk, t, L, E, ce, e1, e2, hq, hce, hcv, hcl, h1, hL, h2, h3⟩, st⟩
  · dsimp only [Pt.U, Pt.locs, Pt.cells, Pt.slots] at X' e1 e2 h1 h2 h3 st
    subst h1; subst h2; subst h3
    exact Or.inl ⟨v, (T.setVm vm₁).calling g' mk As.toArray, t, U', L, hT, X', hL, e1, e2, hq, st⟩
  · dsimp only [Pt.U, Pt.locs, Pt.cells, Pt.slots] at X' e1 e2 h1 h2 h3 st hcl
    subst h1; subst h2; subst h3
    exact Or.inr ⟨q, (T.setVm vm₁).calling g' mk As.toArray, t, U', L, E, ce, hT, X', hL, e1, e2, hq, hce, hcv, vx_cls hW₁ hcl, st⟩
end
end VXH
theorem vx_ofWH {l : Launch} {y : MethodName} {ws ws' : List Cond} {rm : Room} {Pc : Array Value → State → Prop} {Qc : Array Value → State → Outcome → State → Prop} {XC : String → State → State → Prop} {mc ms : Nat} {free : Addr → Prop} {cc : ByteArray} {maxL : Nat} {ret : Option FieldType} {hh : List (Nat × Nat × Nat × Nat)}
    (hy : plainName y.cls = true) (hw : ws = Cond.codeWith y cc maxL ret hh :: ws')
    (body : ∀ p e s m args below meth c s₁, BodyLoose p l y (headSpec ws rm) cc maxL ret e s m args below meth c s₁ → c.maxLocals = maxL → Pc args s →
      W p l e (headSpec ws rm).room s m args below meth c s.heap [] 0 0 (vx_MQ below Qc XC args s mc ms free) (entryFrame m args maxL)) : vx_Met l y ws rm Pc Qc XC mc ms free := by
  refine MetFree.of_bodyS (code := cc) (maxLocals := maxL) (ret := ret) hy ?_ ?_
  · intro args s m h hn
    obtain ⟨m9, meth, c, hn9, h1, h2, h3, h4, -, h5, h6, -⟩ := Cond.codeWith_spec (atoms_spec (ws := ws) h _ (by rw [hw]; exact List.mem_cons_self))
    cases hn.symm.trans hn9
    exact ⟨meth, c, h1, h2, h3, h4, h5, h6⟩
  · intro p e s m args below meth c s₁ B hml hP _
    have hh0 : s₁.heap = s.heap := by rw [B.state]; rfl
    obtain ⟨t, a1, o, b1, b2, b3⟩ := body p e s m args below meth c s₁ B hml hP s₁ hh0 (Stand.of_body B)
    exact ⟨t, o, a1, b1, b2, b3⟩
/-! ===== END ===== -/
end
section
/-! ===== BEGIN printed: names, fields, word lists, decode rows ===== -/
def RX0 : String := "KindlingTree$Board"
def TX0 : u_T := fun k => match k with
  | 0 => ("KindlingTree$Board", "cells", "[I", true)
  | 1 => ("KindlingTree$Board", "columns", "I", false)
  | 2 => ("KindlingTree$Board", "rows", "I", false)
  | _ => ("KindlingTree$Board", "side", "I", false)
def tyX0 : Nat → FieldType := fun k => match k with
  | 0 => .array .int
  | 1 => .int
  | 2 => .int
  | _ => .int
abbrev wsX00 : List Cond := u_ws RX0 TX0 4
theorem nmX0 : ∀ a, a < 4 → ∀ b, b < 4 → a ≠ b → (TX0 a).2.1 ≠ (TX0 b).2.1 := by decide +kernel
theorem tyX0_ok : ∀ k, k < 4 → parseFieldDescriptor (TX0 k).2.2.1 = some (tyX0 k) := by decide +kernel
abbrev cX0_init : ByteArray := prog_2_method_1_code
def yX0_init : MethodName := ⟨RX0, "<init>", "()V"⟩
abbrev cX0_lay : ByteArray := prog_2_method_2_code
def yX0_lay : MethodName := ⟨RX0, "lay", "(III)V"⟩
abbrev cX0_layOn : ByteArray := prog_2_method_3_code
def yX0_layOn : MethodName := ⟨RX0, "layOn", "(II)V"⟩
abbrev cX0_turnTo : ByteArray := prog_2_method_4_code
def yX0_turnTo : MethodName := ⟨RX0, "turnTo", "(I)V"⟩
abbrev cX0_width : ByteArray := prog_2_method_5_code
def yX0_width : MethodName := ⟨RX0, "width", "()I"⟩
abbrev cX0_height : ByteArray := prog_2_method_6_code
def yX0_height : MethodName := ⟨RX0, "height", "()I"⟩
abbrev cX0_mover : ByteArray := prog_2_method_7_code
def yX0_mover : MethodName := ⟨RX0, "mover", "()I"⟩
abbrev cX0_countFields : ByteArray := prog_2_method_8_code
def yX0_countFields : MethodName := ⟨RX0, "countFields", "()I"⟩
abbrev cX0_isField : ByteArray := prog_2_method_9_code
def yX0_isField : MethodName := ⟨RX0, "isField", "(I)Z"⟩
abbrev cX0_pawnAt : ByteArray := prog_2_method_10_code
def yX0_pawnAt : MethodName := ⟨RX0, "pawnAt", "(I)I"⟩
abbrev cX0_countPawns : ByteArray := prog_2_method_11_code
def yX0_countPawns : MethodName := ⟨RX0, "countPawns", "(I)I"⟩
abbrev cX0_keyNumber : ByteArray := prog_2_method_12_code
def yX0_keyNumber : MethodName := ⟨RX0, "keyNumber", "()J"⟩
abbrev cX0_advance : ByteArray := prog_2_method_13_code
def yX0_advance : MethodName := ⟨RX0, "advance", "(I)I"⟩
abbrev cX0_retreat : ByteArray := prog_2_method_14_code
def yX0_retreat : MethodName := ⟨RX0, "retreat", "(II)V"⟩
abbrev cX0_listMoves : ByteArray := prog_2_method_15_code
def yX0_listMoves : MethodName := ⟨RX0, "listMoves", "(LKindlingTree$MoveList;)V"⟩
abbrev cX0_isOtherThrough : ByteArray := prog_2_method_16_code
def yX0_isOtherThrough : MethodName := ⟨RX0, "isOtherThrough", "()Z"⟩
abbrev cX0_listSteps : ByteArray := prog_2_method_17_code
def yX0_listSteps : MethodName := ⟨RX0, "listSteps", "(LKindlingTree$MoveList;II)V"⟩
abbrev cX0_canStep : ByteArray := prog_2_method_18_code
def yX0_canStep : MethodName := ⟨RX0, "canStep", "(III)Z"⟩
def RX1 : String := "KindlingTree$Book"
def TX1 : u_T := fun k => match k with
  | 0 => ("KindlingTree$Book", "keys", "[J", true)
  | 1 => ("KindlingTree$Book", "moves", "[I", true)
  | 2 => ("KindlingTree$Book", "weights", "[I", true)
  | _ => ("KindlingTree$Book", "count", "I", false)
def tyX1 : Nat → FieldType := fun k => match k with
  | 0 => .array .long
  | 1 => .array .int
  | 2 => .array .int
  | _ => .int
abbrev wsX10 : List Cond := u_ws RX1 TX1 4
theorem nmX1 : ∀ a, a < 4 → ∀ b, b < 4 → a ≠ b → (TX1 a).2.1 ≠ (TX1 b).2.1 := by decide +kernel
theorem tyX1_ok : ∀ k, k < 4 → parseFieldDescriptor (TX1 k).2.2.1 = some (tyX1 k) := by decide +kernel
abbrev cX1_init : ByteArray := prog_3_method_1_code
def yX1_init : MethodName := ⟨RX1, "<init>", "()V"⟩
abbrev cX1_length : ByteArray := prog_3_method_2_code
def yX1_length : MethodName := ⟨RX1, "length", "()I"⟩
abbrev cX1_isFull : ByteArray := prog_3_method_3_code
def yX1_isFull : MethodName := ⟨RX1, "isFull", "()Z"⟩
abbrev cX1_find : ByteArray := prog_3_method_4_code
def yX1_find : MethodName := ⟨RX1, "find", "(JI)I"⟩
abbrev cX1_write : ByteArray := prog_3_method_5_code
def yX1_write : MethodName := ⟨RX1, "write", "(JII)V"⟩
abbrev cX1_choose : ByteArray := prog_3_method_6_code
def yX1_choose : MethodName := ⟨RX1, "choose", "(JLKindlingTree$MoveList;)I"⟩
abbrev cX1_weightAt : ByteArray := prog_3_method_7_code
def yX1_weightAt : MethodName := ⟨RX1, "weightAt", "(I)I"⟩
def RX2 : String := "KindlingTree$Judge"
def TX2 : u_T := fun k => match k with
  | 0 => ("KindlingTree$Judge", "perPawn", "I", false)
  | 1 => ("KindlingTree$Judge", "perRow", "I", false)
  | 2 => ("KindlingTree$Judge", "perStep", "I", false)
  | _ => ("KindlingTree$Judge", "isQuiet", "Z", false)
def tyX2 : Nat → FieldType := fun k => match k with
  | 0 => .int
  | 1 => .int
  | 2 => .int
  | _ => .boolean
abbrev wsX20 : List Cond := u_ws RX2 TX2 4
theorem nmX2 : ∀ a, a < 4 → ∀ b, b < 4 → a ≠ b → (TX2 a).2.1 ≠ (TX2 b).2.1 := by decide +kernel
theorem tyX2_ok : ∀ k, k < 4 → parseFieldDescriptor (TX2 k).2.2.1 = some (tyX2 k) := by decide +kernel
abbrev cX2_init : ByteArray := prog_4_method_1_code
def yX2_init : MethodName := ⟨RX2, "<init>", "()V"⟩
abbrev cX2_setWeights : ByteArray := prog_4_method_2_code
def yX2_setWeights : MethodName := ⟨RX2, "setWeights", "(III)V"⟩
abbrev cX2_isQuietOn : ByteArray := prog_4_method_3_code
def yX2_isQuietOn : MethodName := ⟨RX2, "isQuietOn", "()Z"⟩
abbrev cX2_switchQuiet : ByteArray := prog_4_method_4_code
def yX2_switchQuiet : MethodName := ⟨RX2, "switchQuiet", "(Z)V"⟩
abbrev cX2_evaluate : ByteArray := prog_4_method_5_code
def yX2_evaluate : MethodName := ⟨RX2, "evaluate", "(LKindlingTree$Board;)I"⟩
abbrev cX2_weighPawn : ByteArray := prog_4_method_6_code
def yX2_weighPawn : MethodName := ⟨RX2, "weighPawn", "(LKindlingTree$Board;III)I"⟩
def RX3 : String := "KindlingTree$Killers"
def TX3 : u_T := fun k => match k with
  | 0 => ("KindlingTree$Killers", "newer", "[I", true)
  | _ => ("KindlingTree$Killers", "older", "[I", true)
def tyX3 : Nat → FieldType := fun k => match k with
  | 0 => .array .int
  | _ => .array .int
abbrev wsX30 : List Cond := u_ws RX3 TX3 2
theorem nmX3 : ∀ a, a < 2 → ∀ b, b < 2 → a ≠ b → (TX3 a).2.1 ≠ (TX3 b).2.1 := by decide +kernel
theorem tyX3_ok : ∀ k, k < 2 → parseFieldDescriptor (TX3 k).2.2.1 = some (tyX3 k) := by decide +kernel
abbrev cX3_init : ByteArray := prog_5_method_1_code
def yX3_init : MethodName := ⟨RX3, "<init>", "()V"⟩
abbrev cX3_clear : ByteArray := prog_5_method_2_code
def yX3_clear : MethodName := ⟨RX3, "clear", "()V"⟩
abbrev cX3_newerOf : ByteArray := prog_5_method_3_code
def yX3_newerOf : MethodName := ⟨RX3, "newerOf", "(I)I"⟩
abbrev cX3_olderOf : ByteArray := prog_5_method_4_code
def yX3_olderOf : MethodName := ⟨RX3, "olderOf", "(I)I"⟩
abbrev cX3_note : ByteArray := prog_5_method_5_code
def yX3_note : MethodName := ⟨RX3, "note", "(II)V"⟩
def RX4 : String := "KindlingTree$Levels"
def TX4 : u_T := fun k => match k with
  | 0 => ("KindlingTree$Levels", "lists", "[LKindlingTree$MoveList;", true)
  | _ => ("KindlingTree$Levels", "spare", "LKindlingTree$MoveList;", true)
def tyX4 : Nat → FieldType := fun k => match k with
  | 0 => .array (.object "KindlingTree$MoveList")
  | _ => .object "KindlingTree$MoveList"
abbrev wsX40 : List Cond := u_ws RX4 TX4 2
theorem nmX4 : ∀ a, a < 2 → ∀ b, b < 2 → a ≠ b → (TX4 a).2.1 ≠ (TX4 b).2.1 := by decide +kernel
theorem tyX4_ok : ∀ k, k < 2 → parseFieldDescriptor (TX4 k).2.2.1 = some (tyX4 k) := by decide +kernel
abbrev cX4_init : ByteArray := prog_6_method_1_code
def yX4_init : MethodName := ⟨RX4, "<init>", "()V"⟩
abbrev cX4_ofDepth : ByteArray := prog_6_method_2_code
def yX4_ofDepth : MethodName := ⟨RX4, "ofDepth", "(I)LKindlingTree$MoveList;"⟩
abbrev cX4_ofTurns : ByteArray := prog_6_method_3_code
def yX4_ofTurns : MethodName := ⟨RX4, "ofTurns", "(I)LKindlingTree$MoveList;"⟩
def RX5 : String := "KindlingTree$MoveList"
def TX5 : u_T := fun k => match k with
  | 0 => ("KindlingTree$MoveList", "moves", "[I", true)
  | 1 => ("KindlingTree$MoveList", "taking", "[Z", true)
  | 2 => ("KindlingTree$MoveList", "order", "[I", true)
  | 3 => ("KindlingTree$MoveList", "isPlaced", "[Z", true)
  | 4 => ("KindlingTree$MoveList", "count", "I", false)
  | _ => ("KindlingTree$MoveList", "placed", "I", false)
def tyX5 : Nat → FieldType := fun k => match k with
  | 0 => .array .int
  | 1 => .array .boolean
  | 2 => .array .int
  | 3 => .array .boolean
  | 4 => .int
  | _ => .int
abbrev wsX50 : List Cond := u_ws RX5 TX5 6
theorem nmX5 : ∀ a, a < 6 → ∀ b, b < 6 → a ≠ b → (TX5 a).2.1 ≠ (TX5 b).2.1 := by decide +kernel
theorem tyX5_ok : ∀ k, k < 6 → parseFieldDescriptor (TX5 k).2.2.1 = some (tyX5 k) := by decide +kernel
abbrev cX5_init : ByteArray := prog_7_method_1_code
def yX5_init : MethodName := ⟨RX5, "<init>", "()V"⟩
abbrev cX5_clear : ByteArray := prog_7_method_2_code
def yX5_clear : MethodName := ⟨RX5, "clear", "()V"⟩
abbrev cX5_add : ByteArray := prog_7_method_3_code
def yX5_add : MethodName := ⟨RX5, "add", "(IZ)V"⟩
abbrev cX5_size : ByteArray := prog_7_method_4_code
def yX5_size : MethodName := ⟨RX5, "size", "()I"⟩
abbrev cX5_has : ByteArray := prog_7_method_5_code
def yX5_has : MethodName := ⟨RX5, "has", "(I)Z"⟩
abbrev cX5_moveAt : ByteArray := prog_7_method_6_code
def yX5_moveAt : MethodName := ⟨RX5, "moveAt", "(I)I"⟩
abbrev cX5_isTaking : ByteArray := prog_7_method_7_code
def yX5_isTaking : MethodName := ⟨RX5, "isTaking", "(I)Z"⟩
abbrev cX5_indexOf : ByteArray := prog_7_method_8_code
def yX5_indexOf : MethodName := ⟨RX5, "indexOf", "(I)I"⟩
abbrev cX5_arrange : ByteArray := prog_7_method_9_code
def yX5_arrange : MethodName := ⟨RX5, "arrange", "(III)V"⟩
abbrev cX5_place : ByteArray := prog_7_method_10_code
def yX5_place : MethodName := ⟨RX5, "place", "(I)V"⟩
abbrev cX5_inOrder : ByteArray := prog_7_method_11_code
def yX5_inOrder : MethodName := ⟨RX5, "inOrder", "(I)I"⟩
def RX6 : String := "KindlingTree$Quiet"
def TX6 : u_T := fun k => match k with
  | 0 => ("KindlingTree$Quiet", "board", "LKindlingTree$Board;", true)
  | 1 => ("KindlingTree$Quiet", "judge", "LKindlingTree$Judge;", true)
  | 2 => ("KindlingTree$Quiet", "levels", "LKindlingTree$Levels;", true)
  | _ => ("KindlingTree$Quiet", "nodes", "I", false)
def tyX6 : Nat → FieldType := fun k => match k with
  | 0 => .object "KindlingTree$Board"
  | 1 => .object "KindlingTree$Judge"
  | 2 => .object "KindlingTree$Levels"
  | _ => .int
abbrev wsX60 : List Cond := u_ws RX6 TX6 4
theorem nmX6 : ∀ a, a < 4 → ∀ b, b < 4 → a ≠ b → (TX6 a).2.1 ≠ (TX6 b).2.1 := by decide +kernel
theorem tyX6_ok : ∀ k, k < 4 → parseFieldDescriptor (TX6 k).2.2.1 = some (tyX6 k) := by decide +kernel
abbrev cX6_init : ByteArray := prog_8_method_1_code
def yX6_init : MethodName := ⟨RX6, "<init>", "(LKindlingTree$Board;LKindlingTree$Judge;LKindlingTree$Levels;)V"⟩
abbrev cX6_clearCount : ByteArray := prog_8_method_2_code
def yX6_clearCount : MethodName := ⟨RX6, "clearCount", "()V"⟩
abbrev cX6_nodeCount : ByteArray := prog_8_method_3_code
def yX6_nodeCount : MethodName := ⟨RX6, "nodeCount", "()I"⟩
abbrev cX6_lookOn : ByteArray := prog_8_method_4_code
def yX6_lookOn : MethodName := ⟨RX6, "lookOn", "(III)I"⟩
abbrev cX6_behind : ByteArray := prog_8_method_5_code
def yX6_behind : MethodName := ⟨RX6, "behind", "(IIII)I"⟩
def RX7 : String := "KindlingTree$Seeker"
def TX7 : u_T := fun k => match k with
  | 0 => ("KindlingTree$Seeker", "board", "LKindlingTree$Board;", true)
  | 1 => ("KindlingTree$Seeker", "levels", "LKindlingTree$Levels;", true)
  | 2 => ("KindlingTree$Seeker", "table", "LKindlingTree$Table;", true)
  | 3 => ("KindlingTree$Seeker", "quiet", "LKindlingTree$Quiet;", true)
  | 4 => ("KindlingTree$Seeker", "killers", "LKindlingTree$Killers;", true)
  | 5 => ("KindlingTree$Seeker", "best", "I", false)
  | 6 => ("KindlingTree$Seeker", "reached", "I", false)
  | 7 => ("KindlingTree$Seeker", "nodes", "I", false)
  | 8 => ("KindlingTree$Seeker", "hits", "I", false)
  | _ => ("KindlingTree$Seeker", "cuts", "I", false)
def tyX7 : Nat → FieldType := fun k => match k with
  | 0 => .object "KindlingTree$Board"
  | 1 => .object "KindlingTree$Levels"
  | 2 => .object "KindlingTree$Table"
  | 3 => .object "KindlingTree$Quiet"
  | 4 => .object "KindlingTree$Killers"
  | 5 => .int
  | 6 => .int
  | 7 => .int
  | 8 => .int
  | _ => .int
abbrev wsX70 : List Cond := u_ws RX7 TX7 10
theorem nmX7 : ∀ a, a < 10 → ∀ b, b < 10 → a ≠ b → (TX7 a).2.1 ≠ (TX7 b).2.1 := by decide +kernel
theorem tyX7_ok : ∀ k, k < 10 → parseFieldDescriptor (TX7 k).2.2.1 = some (tyX7 k) := by decide +kernel
abbrev cX7_init : ByteArray := prog_9_method_1_code
def yX7_init : MethodName := ⟨RX7, "<init>", "(LKindlingTree$Board;LKindlingTree$Levels;LKindlingTree$Table;LKindlingTree$Quiet;)V"⟩
abbrev cX7_bestMove : ByteArray := prog_9_method_2_code
def yX7_bestMove : MethodName := ⟨RX7, "bestMove", "()I"⟩
abbrev cX7_depthReached : ByteArray := prog_9_method_3_code
def yX7_depthReached : MethodName := ⟨RX7, "depthReached", "()I"⟩
abbrev cX7_nodeCount : ByteArray := prog_9_method_4_code
def yX7_nodeCount : MethodName := ⟨RX7, "nodeCount", "()I"⟩
abbrev cX7_hitCount : ByteArray := prog_9_method_5_code
def yX7_hitCount : MethodName := ⟨RX7, "hitCount", "()I"⟩
abbrev cX7_cutCount : ByteArray := prog_9_method_6_code
def yX7_cutCount : MethodName := ⟨RX7, "cutCount", "()I"⟩
abbrev cX7_killerOf : ByteArray := prog_9_method_7_code
def yX7_killerOf : MethodName := ⟨RX7, "killerOf", "(IZ)I"⟩
abbrev cX7_seek : ByteArray := prog_9_method_8_code
def yX7_seek : MethodName := ⟨RX7, "seek", "(I)I"⟩
abbrev cX7_explore : ByteArray := prog_9_method_9_code
def yX7_explore : MethodName := ⟨RX7, "explore", "(III)I"⟩
abbrev cX7_tryMoves : ByteArray := prog_9_method_10_code
def yX7_tryMoves : MethodName := ⟨RX7, "tryMoves", "(LKindlingTree$MoveList;JIII)I"⟩
abbrev cX7_behind : ByteArray := prog_9_method_11_code
def yX7_behind : MethodName := ⟨RX7, "behind", "(IIII)I"⟩
abbrev cX7_noteCut : ByteArray := prog_9_method_12_code
def yX7_noteCut : MethodName := ⟨RX7, "noteCut", "(LKindlingTree$MoveList;II)V"⟩
def RX8 : String := "KindlingTree$Table"
def TX8 : u_T := fun k => match k with
  | 0 => ("KindlingTree$Table", "keys", "[J", true)
  | 1 => ("KindlingTree$Table", "depths", "[I", true)
  | 2 => ("KindlingTree$Table", "numbers", "[I", true)
  | 3 => ("KindlingTree$Table", "kinds", "[I", true)
  | 4 => ("KindlingTree$Table", "moves", "[I", true)
  | _ => ("KindlingTree$Table", "slots", "I", false)
def tyX8 : Nat → FieldType := fun k => match k with
  | 0 => .array .long
  | 1 => .array .int
  | 2 => .array .int
  | 3 => .array .int
  | 4 => .array .int
  | _ => .int
abbrev wsX80 : List Cond := u_ws RX8 TX8 6
theorem nmX8 : ∀ a, a < 6 → ∀ b, b < 6 → a ≠ b → (TX8 a).2.1 ≠ (TX8 b).2.1 := by decide +kernel
theorem tyX8_ok : ∀ k, k < 6 → parseFieldDescriptor (TX8 k).2.2.1 = some (tyX8 k) := by decide +kernel
abbrev cX8_init : ByteArray := prog_10_method_1_code
def yX8_init : MethodName := ⟨RX8, "<init>", "()V"⟩
abbrev cX8_size : ByteArray := prog_10_method_2_code
def yX8_size : MethodName := ⟨RX8, "size", "()I"⟩
abbrev cX8_resize : ByteArray := prog_10_method_3_code
def yX8_resize : MethodName := ⟨RX8, "resize", "(I)V"⟩
abbrev cX8_wipe : ByteArray := prog_10_method_4_code
def yX8_wipe : MethodName := ⟨RX8, "wipe", "()V"⟩
abbrev cX8_countEntries : ByteArray := prog_10_method_5_code
def yX8_countEntries : MethodName := ⟨RX8, "countEntries", "()I"⟩
abbrev cX8_isSlot : ByteArray := prog_10_method_6_code
def yX8_isSlot : MethodName := ⟨RX8, "isSlot", "(I)Z"⟩
abbrev cX8_slotOf : ByteArray := prog_10_method_7_code
def yX8_slotOf : MethodName := ⟨RX8, "slotOf", "(J)I"⟩
abbrev cX8_find : ByteArray := prog_10_method_8_code
def yX8_find : MethodName := ⟨RX8, "find", "(J)I"⟩
abbrev cX8_store : ByteArray := prog_10_method_9_code
def yX8_store : MethodName := ⟨RX8, "store", "(JIIII)V"⟩
abbrev cX8_isAnswer : ByteArray := prog_10_method_10_code
def yX8_isAnswer : MethodName := ⟨RX8, "isAnswer", "(IIII)Z"⟩
abbrev cX8_tell : ByteArray := prog_10_method_11_code
def yX8_tell : MethodName := ⟨RX8, "tell", "(II)I"⟩
abbrev cX8_keyAt : ByteArray := prog_10_method_12_code
def yX8_keyAt : MethodName := ⟨RX8, "keyAt", "(I)J"⟩
abbrev cX8_depthAt : ByteArray := prog_10_method_13_code
def yX8_depthAt : MethodName := ⟨RX8, "depthAt", "(I)I"⟩
abbrev cX8_numberAt : ByteArray := prog_10_method_14_code
def yX8_numberAt : MethodName := ⟨RX8, "numberAt", "(I)I"⟩
abbrev cX8_kindAt : ByteArray := prog_10_method_15_code
def yX8_kindAt : MethodName := ⟨RX8, "kindAt", "(I)I"⟩
abbrev cX8_moveAt : ByteArray := prog_10_method_16_code
def yX8_moveAt : MethodName := ⟨RX8, "moveAt", "(I)I"⟩
def RX9 : String := "KindlingTree$Trail"
def TX9 : u_T := fun k => match k with
  | 0 => ("KindlingTree$Trail", "moves", "[I", true)
  | 1 => ("KindlingTree$Trail", "taken", "[I", true)
  | _ => ("KindlingTree$Trail", "count", "I", false)
def tyX9 : Nat → FieldType := fun k => match k with
  | 0 => .array .int
  | 1 => .array .int
  | _ => .int
abbrev wsX90 : List Cond := u_ws RX9 TX9 3
theorem nmX9 : ∀ a, a < 3 → ∀ b, b < 3 → a ≠ b → (TX9 a).2.1 ≠ (TX9 b).2.1 := by decide +kernel
theorem tyX9_ok : ∀ k, k < 3 → parseFieldDescriptor (TX9 k).2.2.1 = some (tyX9 k) := by decide +kernel
abbrev cX9_init : ByteArray := prog_11_method_1_code
def yX9_init : MethodName := ⟨RX9, "<init>", "()V"⟩
abbrev cX9_clear : ByteArray := prog_11_method_2_code
def yX9_clear : MethodName := ⟨RX9, "clear", "()V"⟩
abbrev cX9_length : ByteArray := prog_11_method_3_code
def yX9_length : MethodName := ⟨RX9, "length", "()I"⟩
abbrev cX9_add : ByteArray := prog_11_method_4_code
def yX9_add : MethodName := ⟨RX9, "add", "(II)V"⟩
abbrev cX9_forgetOldest : ByteArray := prog_11_method_5_code
def yX9_forgetOldest : MethodName := ⟨RX9, "forgetOldest", "()V"⟩
abbrev cX9_lastMove : ByteArray := prog_11_method_6_code
def yX9_lastMove : MethodName := ⟨RX9, "lastMove", "()I"⟩
abbrev cX9_lastTaken : ByteArray := prog_11_method_7_code
def yX9_lastTaken : MethodName := ⟨RX9, "lastTaken", "()I"⟩
abbrev cX9_dropLast : ByteArray := prog_11_method_8_code
def yX9_dropLast : MethodName := ⟨RX9, "dropLast", "()V"⟩
def RX10 : String := "KindlingTree$Valuer"
def TX10 : u_T := fun k => match k with
  | 0 => ("KindlingTree$Valuer", "board", "LKindlingTree$Board;", true)
  | 1 => ("KindlingTree$Valuer", "levels", "LKindlingTree$Levels;", true)
  | _ => ("KindlingTree$Valuer", "quiet", "LKindlingTree$Quiet;", true)
def tyX10 : Nat → FieldType := fun k => match k with
  | 0 => .object "KindlingTree$Board"
  | 1 => .object "KindlingTree$Levels"
  | _ => .object "KindlingTree$Quiet"
abbrev wsX100 : List Cond := u_ws RX10 TX10 3
theorem nmX10 : ∀ a, a < 3 → ∀ b, b < 3 → a ≠ b → (TX10 a).2.1 ≠ (TX10 b).2.1 := by decide +kernel
theorem tyX10_ok : ∀ k, k < 3 → parseFieldDescriptor (TX10 k).2.2.1 = some (tyX10 k) := by decide +kernel
abbrev cX10_init : ByteArray := prog_12_method_1_code
def yX10_init : MethodName := ⟨RX10, "<init>", "(LKindlingTree$Board;LKindlingTree$Levels;LKindlingTree$Quiet;)V"⟩
abbrev cX10_countWays : ByteArray := prog_12_method_2_code
def yX10_countWays : MethodName := ⟨RX10, "countWays", "(I)I"⟩
abbrev cX10_countBehind : ByteArray := prog_12_method_3_code
def yX10_countBehind : MethodName := ⟨RX10, "countBehind", "(II)I"⟩
abbrev cX10_worth : ByteArray := prog_12_method_4_code
def yX10_worth : MethodName := ⟨RX10, "worth", "(III)I"⟩
abbrev cX10_worthBehind : ByteArray := prog_12_method_5_code
def yX10_worthBehind : MethodName := ⟨RX10, "worthBehind", "(IIII)I"⟩
def RX11 : String := "KindlingTree"
def TX11 : u_T := fun k => match k with
  | 0 => ("KindlingTree", "board", "LKindlingTree$Board;", true)
  | 1 => ("KindlingTree", "here", "LKindlingTree$MoveList;", true)
  | 2 => ("KindlingTree", "trail", "LKindlingTree$Trail;", true)
  | 3 => ("KindlingTree", "judge", "LKindlingTree$Judge;", true)
  | 4 => ("KindlingTree", "table", "LKindlingTree$Table;", true)
  | 5 => ("KindlingTree", "valuer", "LKindlingTree$Valuer;", true)
  | 6 => ("KindlingTree", "seeker", "LKindlingTree$Seeker;", true)
  | _ => ("KindlingTree", "book", "LKindlingTree$Book;", true)
def tyX11 : Nat → FieldType := fun k => match k with
  | 0 => .object "KindlingTree$Board"
  | 1 => .object "KindlingTree$MoveList"
  | 2 => .object "KindlingTree$Trail"
  | 3 => .object "KindlingTree$Judge"
  | 4 => .object "KindlingTree$Table"
  | 5 => .object "KindlingTree$Valuer"
  | 6 => .object "KindlingTree$Seeker"
  | _ => .object "KindlingTree$Book"
abbrev wsX110 : List Cond := u_ws RX11 TX11 8
theorem nmX11 : ∀ a, a < 8 → ∀ b, b < 8 → a ≠ b → (TX11 a).2.1 ≠ (TX11 b).2.1 := by decide +kernel
theorem tyX11_ok : ∀ k, k < 8 → parseFieldDescriptor (TX11 k).2.2.1 = some (tyX11 k) := by decide +kernel
abbrev cX11_init : ByteArray := prog_1_method_1_code
def yX11_init : MethodName := ⟨RX11, "<init>", "()V"⟩
abbrev cX11_setUp : ByteArray := prog_1_method_2_code
def yX11_setUp : MethodName := ⟨RX11, "setUp", "(III)I"⟩
abbrev cX11_put : ByteArray := prog_1_method_3_code
def yX11_put : MethodName := ⟨RX11, "put", "(II)I"⟩
abbrev cX11_setSide : ByteArray := prog_1_method_4_code
def yX11_setSide : MethodName := ⟨RX11, "setSide", "(I)I"⟩
abbrev cX11_play : ByteArray := prog_1_method_5_code
def yX11_play : MethodName := ⟨RX11, "play", "(I)I"⟩
abbrev cX11_back : ByteArray := prog_1_method_6_code
def yX11_back : MethodName := ⟨RX11, "back", "()I"⟩
abbrev cX11_weigh : ByteArray := prog_1_method_7_code
def yX11_weigh : MethodName := ⟨RX11, "weigh", "(III)I"⟩
abbrev cX11_setQuiet : ByteArray := prog_1_method_8_code
def yX11_setQuiet : MethodName := ⟨RX11, "setQuiet", "(Z)Z"⟩
abbrev cX11_setSlots : ByteArray := prog_1_method_9_code
def yX11_setSlots : MethodName := ⟨RX11, "setSlots", "(I)I"⟩
abbrev cX11_empty : ByteArray := prog_1_method_10_code
def yX11_empty : MethodName := ⟨RX11, "empty", "()I"⟩
abbrev cX11_columns : ByteArray := prog_1_method_11_code
def yX11_columns : MethodName := ⟨RX11, "columns", "()I"⟩
abbrev cX11_rows : ByteArray := prog_1_method_12_code
def yX11_rows : MethodName := ⟨RX11, "rows", "()I"⟩
abbrev cX11_at : ByteArray := prog_1_method_13_code
def yX11_at : MethodName := ⟨RX11, "at", "(I)I"⟩
abbrev cX11_side : ByteArray := prog_1_method_14_code
def yX11_side : MethodName := ⟨RX11, "side", "()I"⟩
abbrev cX11_played : ByteArray := prog_1_method_15_code
def yX11_played : MethodName := ⟨RX11, "played", "()I"⟩
abbrev cX11_moves : ByteArray := prog_1_method_16_code
def yX11_moves : MethodName := ⟨RX11, "moves", "()I"⟩
abbrev cX11_from : ByteArray := prog_1_method_17_code
def yX11_from : MethodName := ⟨RX11, "from", "(I)I"⟩
abbrev cX11_to : ByteArray := prog_1_method_18_code
def yX11_to : MethodName := ⟨RX11, "to", "(I)I"⟩
abbrev cX11_takes : ByteArray := prog_1_method_19_code
def yX11_takes : MethodName := ⟨RX11, "takes", "(I)Z"⟩
abbrev cX11_isLost : ByteArray := prog_1_method_20_code
def yX11_isLost : MethodName := ⟨RX11, "isLost", "()Z"⟩
abbrev cX11_key : ByteArray := prog_1_method_21_code
def yX11_key : MethodName := ⟨RX11, "key", "()J"⟩
abbrev cX11_evaluation : ByteArray := prog_1_method_22_code
def yX11_evaluation : MethodName := ⟨RX11, "evaluation", "()I"⟩
abbrev cX11_ways : ByteArray := prog_1_method_23_code
def yX11_ways : MethodName := ⟨RX11, "ways", "(I)I"⟩
abbrev cX11_value : ByteArray := prog_1_method_24_code
def yX11_value : MethodName := ⟨RX11, "value", "(I)I"⟩
abbrev cX11_valueOf : ByteArray := prog_1_method_25_code
def yX11_valueOf : MethodName := ⟨RX11, "valueOf", "(II)I"⟩
abbrev cX11_search : ByteArray := prog_1_method_26_code
def yX11_search : MethodName := ⟨RX11, "search", "(I)I"⟩
abbrev cX11_bestFrom : ByteArray := prog_1_method_27_code
def yX11_bestFrom : MethodName := ⟨RX11, "bestFrom", "()I"⟩
abbrev cX11_bestTo : ByteArray := prog_1_method_28_code
def yX11_bestTo : MethodName := ⟨RX11, "bestTo", "()I"⟩
abbrev cX11_reached : ByteArray := prog_1_method_29_code
def yX11_reached : MethodName := ⟨RX11, "reached", "()I"⟩
abbrev cX11_nodes : ByteArray := prog_1_method_30_code
def yX11_nodes : MethodName := ⟨RX11, "nodes", "()I"⟩
abbrev cX11_hits : ByteArray := prog_1_method_31_code
def yX11_hits : MethodName := ⟨RX11, "hits", "()I"⟩
abbrev cX11_cuts : ByteArray := prog_1_method_32_code
def yX11_cuts : MethodName := ⟨RX11, "cuts", "()I"⟩
abbrev cX11_killer : ByteArray := prog_1_method_33_code
def yX11_killer : MethodName := ⟨RX11, "killer", "(IZ)I"⟩
abbrev cX11_slots : ByteArray := prog_1_method_34_code
def yX11_slots : MethodName := ⟨RX11, "slots", "()I"⟩
abbrev cX11_entries : ByteArray := prog_1_method_35_code
def yX11_entries : MethodName := ⟨RX11, "entries", "()I"⟩
abbrev cX11_ofSlot : ByteArray := prog_1_method_36_code
def yX11_ofSlot : MethodName := ⟨RX11, "ofSlot", "(II)I"⟩
abbrev cX11_known : ByteArray := prog_1_method_37_code
def yX11_known : MethodName := ⟨RX11, "known", "()I"⟩
abbrev cX11_teach : ByteArray := prog_1_method_38_code
def yX11_teach : MethodName := ⟨RX11, "teach", "(II)I"⟩
abbrev cX11_told : ByteArray := prog_1_method_39_code
def yX11_told : MethodName := ⟨RX11, "told", "()I"⟩
abbrev cX11_go : ByteArray := prog_1_method_40_code
def yX11_go : MethodName := ⟨RX11, "go", "(I)I"⟩
abbrev cX11_playOut : ByteArray := prog_1_method_41_code
def yX11_playOut : MethodName := ⟨RX11, "playOut", "(II)I"⟩
abbrev cX11_pages : ByteArray := prog_1_method_42_code
def yX11_pages : MethodName := ⟨RX11, "pages", "()I"⟩
abbrev cX11_effort : ByteArray := prog_1_method_43_code
def yX11_effort : MethodName := ⟨RX11, "effort", "()D"⟩
abbrev cX11_digest : ByteArray := prog_1_method_44_code
def yX11_digest : MethodName := ⟨RX11, "digest", "()J"⟩
abbrev cX11_addBoard : ByteArray := prog_1_method_45_code
def yX11_addBoard : MethodName := ⟨RX11, "addBoard", "(J)J"⟩
abbrev cX11_addMoves : ByteArray := prog_1_method_46_code
def yX11_addMoves : MethodName := ⟨RX11, "addMoves", "(J)J"⟩
abbrev cX11_addSearch : ByteArray := prog_1_method_47_code
def yX11_addSearch : MethodName := ⟨RX11, "addSearch", "(J)J"⟩
abbrev cX11_addTable : ByteArray := prog_1_method_48_code
def yX11_addTable : MethodName := ⟨RX11, "addTable", "(J)J"⟩
abbrev cX11_join : ByteArray := prog_1_method_49_code
def yX11_join : MethodName := ⟨RX11, "join", "(JJ)J"⟩
abbrev cX11_isWithin : ByteArray := prog_1_method_50_code
def yX11_isWithin : MethodName := ⟨RX11, "isWithin", "(III)Z"⟩
abbrev cX11_fromOf : ByteArray := prog_1_method_51_code
def yX11_fromOf : MethodName := ⟨RX11, "fromOf", "(I)I"⟩
abbrev cX11_toOf : ByteArray := prog_1_method_52_code
def yX11_toOf : MethodName := ⟨RX11, "toOf", "(I)I"⟩
abbrev cX11_isOver : ByteArray := prog_1_method_53_code
def yX11_isOver : MethodName := ⟨RX11, "isOver", "()Z"⟩
abbrev cX11_startAnew : ByteArray := prog_1_method_54_code
def yX11_startAnew : MethodName := ⟨RX11, "startAnew", "()V"⟩
abbrev cX11_playHere : ByteArray := prog_1_method_55_code
def yX11_playHere : MethodName := ⟨RX11, "playHere", "(I)I"⟩
abbrev cX11_goOn : ByteArray := prog_1_method_56_code
def yX11_goOn : MethodName := ⟨RX11, "goOn", "(I)I"⟩
def RX12 : String := "KindlingTreeModel"
def TX12 : u_T := fun k => match k with
  | 0 => ("KindlingTreeModel", "thrown", "I", false)
  | 1 => ("KindlingTreeModel", "columns", "I", false)
  | 2 => ("KindlingTreeModel", "rows", "I", false)
  | 3 => ("KindlingTreeModel", "now", "[I", false)
  | 4 => ("KindlingTreeModel", "gone", "[I", true)
  | 5 => ("KindlingTreeModel", "played", "I", false)
  | 6 => ("KindlingTreeModel", "perPawn", "I", false)
  | 7 => ("KindlingTreeModel", "perRow", "I", false)
  | 8 => ("KindlingTreeModel", "perStep", "I", false)
  | 9 => ("KindlingTreeModel", "isQuiet", "Z", false)
  | 10 => ("KindlingTreeModel", "listed", "[[I", true)
  | 11 => ("KindlingTreeModel", "slots", "I", false)
  | 12 => ("KindlingTreeModel", "slotKey", "[J", true)
  | 13 => ("KindlingTreeModel", "slot", "[[I", true)
  | 14 => ("KindlingTreeModel", "tried", "[[I", true)
  | 15 => ("KindlingTreeModel", "killer", "[[I", true)
  | 16 => ("KindlingTreeModel", "nodes", "I", false)
  | 17 => ("KindlingTreeModel", "hits", "I", false)
  | 18 => ("KindlingTreeModel", "cuts", "I", false)
  | 19 => ("KindlingTreeModel", "reached", "I", false)
  | 20 => ("KindlingTreeModel", "best", "I", false)
  | 21 => ("KindlingTreeModel", "bestMove", "I", false)
  | 22 => ("KindlingTreeModel", "pages", "I", false)
  | 23 => ("KindlingTreeModel", "pageKey", "[J", true)
  | 24 => ("KindlingTreeModel", "page", "[[I", true)
  | _ => ("KindlingTreeModel", "sum", "J", false)
def tyX12 : Nat → FieldType := fun k => match k with
  | 0 => .int
  | 1 => .int
  | 2 => .int
  | 3 => .array .int
  | 4 => .array .int
  | 5 => .int
  | 6 => .int
  | 7 => .int
  | 8 => .int
  | 9 => .boolean
  | 10 => .array (.array .int)
  | 11 => .int
  | 12 => .array .long
  | 13 => .array (.array .int)
  | 14 => .array (.array .int)
  | 15 => .array (.array .int)
  | 16 => .int
  | 17 => .int
  | 18 => .int
  | 19 => .int
  | 20 => .int
  | 21 => .int
  | 22 => .int
  | 23 => .array .long
  | 24 => .array (.array .int)
  | _ => .long
abbrev wsX120 : List Cond := u_ws RX12 TX12 26
theorem nmX12 : ∀ a, a < 26 → ∀ b, b < 26 → a ≠ b → (TX12 a).2.1 ≠ (TX12 b).2.1 := by decide +kernel
theorem tyX12_ok : ∀ k, k < 26 → parseFieldDescriptor (TX12 k).2.2.1 = some (tyX12 k) := by decide +kernel
abbrev cX12_init : ByteArray := prog_14_method_1_code
def yX12_init : MethodName := ⟨RX12, "<init>", "()V"⟩
abbrev cX12_thrown : ByteArray := prog_14_method_2_code
def yX12_thrown : MethodName := ⟨RX12, "thrown", "()I"⟩
abbrev cX12_refuse : ByteArray := prog_14_method_3_code
def yX12_refuse : MethodName := ⟨RX12, "refuse", "(I)I"⟩
abbrev cX12_is : ByteArray := prog_14_method_4_code
def yX12_is : MethodName := ⟨RX12, "is", "(III)Z"⟩
abbrev cX12_lay : ByteArray := prog_14_method_5_code
def yX12_lay : MethodName := ⟨RX12, "lay", "(III)V"⟩
abbrev cX12_sideNow : ByteArray := prog_14_method_6_code
def yX12_sideNow : MethodName := ⟨RX12, "sideNow", "()I"⟩
abbrev cX12_goal : ByteArray := prog_14_method_7_code
def yX12_goal : MethodName := ⟨RX12, "goal", "(I)I"⟩
abbrev cX12_target : ByteArray := prog_14_method_8_code
def yX12_target : MethodName := ⟨RX12, "target", "(III)I"⟩
abbrev cX12_isStep : ByteArray := prog_14_method_9_code
def yX12_isStep : MethodName := ⟨RX12, "isStep", "(III)Z"⟩
abbrev cX12_countSteps : ByteArray := prog_14_method_10_code
def yX12_countSteps : MethodName := ⟨RX12, "countSteps", "(I)I"⟩
abbrev cX12_isLostNow : ByteArray := prog_14_method_11_code
def yX12_isLostNow : MethodName := ⟨RX12, "isLostNow", "()Z"⟩
abbrev cX12_list : ByteArray := prog_14_method_12_code
def yX12_list : MethodName := ⟨RX12, "list", "(I)I"⟩
abbrev cX12_isTaking : ByteArray := prog_14_method_13_code
def yX12_isTaking : MethodName := ⟨RX12, "isTaking", "(I)Z"⟩
abbrev cX12_make : ByteArray := prog_14_method_14_code
def yX12_make : MethodName := ⟨RX12, "make", "(I)I"⟩
abbrev cX12_unmake : ByteArray := prog_14_method_15_code
def yX12_unmake : MethodName := ⟨RX12, "unmake", "(II)V"⟩
abbrev cX12_keyNow : ByteArray := prog_14_method_16_code
def yX12_keyNow : MethodName := ⟨RX12, "keyNow", "()J"⟩
abbrev cX12_worth : ByteArray := prog_14_method_17_code
def yX12_worth : MethodName := ⟨RX12, "worth", "(I)I"⟩
abbrev cX12_evaluated : ByteArray := prog_14_method_18_code
def yX12_evaluated : MethodName := ⟨RX12, "evaluated", "()I"⟩
abbrev cX12_quietValue : ByteArray := prog_14_method_19_code
def yX12_quietValue : MethodName := ⟨RX12, "quietValue", "(II)I"⟩
abbrev cX12_valueNow : ByteArray := prog_14_method_20_code
def yX12_valueNow : MethodName := ⟨RX12, "valueNow", "(II)I"⟩
abbrev cX12_valueBehind : ByteArray := prog_14_method_21_code
def yX12_valueBehind : MethodName := ⟨RX12, "valueBehind", "(III)I"⟩
abbrev cX12_waysNow : ByteArray := prog_14_method_22_code
def yX12_waysNow : MethodName := ⟨RX12, "waysNow", "(II)I"⟩
abbrev cX12_clear : ByteArray := prog_14_method_23_code
def yX12_clear : MethodName := ⟨RX12, "clear", "(I)I"⟩
abbrev cX12_entriesNow : ByteArray := prog_14_method_24_code
def yX12_entriesNow : MethodName := ⟨RX12, "entriesNow", "()I"⟩
abbrev cX12_slotOf : ByteArray := prog_14_method_25_code
def yX12_slotOf : MethodName := ⟨RX12, "slotOf", "(J)I"⟩
abbrev cX12_keep : ByteArray := prog_14_method_26_code
def yX12_keep : MethodName := ⟨RX12, "keep", "(IIII)V"⟩
abbrev cX12_order : ByteArray := prog_14_method_27_code
def yX12_order : MethodName := ⟨RX12, "order", "(III)I"⟩
abbrev cX12_want : ByteArray := prog_14_method_28_code
def yX12_want : MethodName := ⟨RX12, "want", "(IIII)I"⟩
abbrev cX12_has : ByteArray := prog_14_method_29_code
def yX12_has : MethodName := ⟨RX12, "has", "([III)Z"⟩
abbrev cX12_searched : ByteArray := prog_14_method_30_code
def yX12_searched : MethodName := ⟨RX12, "searched", "(IIII)I"⟩
abbrev cX12_answers : ByteArray := prog_14_method_31_code
def yX12_answers : MethodName := ⟨RX12, "answers", "([III)Z"⟩
abbrev cX12_cut : ByteArray := prog_14_method_32_code
def yX12_cut : MethodName := ⟨RX12, "cut", "(II)V"⟩
abbrev cX12_quietly : ByteArray := prog_14_method_33_code
def yX12_quietly : MethodName := ⟨RX12, "quietly", "(IIII)I"⟩
abbrev cX12_searchNow : ByteArray := prog_14_method_34_code
def yX12_searchNow : MethodName := ⟨RX12, "searchNow", "(I)I"⟩
abbrev cX12_pageOf : ByteArray := prog_14_method_35_code
def yX12_pageOf : MethodName := ⟨RX12, "pageOf", "(JI)I"⟩
abbrev cX12_toldNow : ByteArray := prog_14_method_36_code
def yX12_toldNow : MethodName := ⟨RX12, "toldNow", "()I"⟩
abbrev cX12_setUp : ByteArray := prog_14_method_37_code
def yX12_setUp : MethodName := ⟨RX12, "setUp", "(III)I"⟩
abbrev cX12_pawns : ByteArray := prog_14_method_38_code
def yX12_pawns : MethodName := ⟨RX12, "pawns", "(I)I"⟩
abbrev cX12_isField : ByteArray := prog_14_method_39_code
def yX12_isField : MethodName := ⟨RX12, "isField", "(I)Z"⟩
abbrev cX12_put : ByteArray := prog_14_method_40_code
def yX12_put : MethodName := ⟨RX12, "put", "(II)I"⟩
abbrev cX12_setSide : ByteArray := prog_14_method_41_code
def yX12_setSide : MethodName := ⟨RX12, "setSide", "(I)I"⟩
abbrev cX12_isMove : ByteArray := prog_14_method_42_code
def yX12_isMove : MethodName := ⟨RX12, "isMove", "(I)Z"⟩
abbrev cX12_playNow : ByteArray := prog_14_method_43_code
def yX12_playNow : MethodName := ⟨RX12, "playNow", "(I)I"⟩
abbrev cX12_play : ByteArray := prog_14_method_44_code
def yX12_play : MethodName := ⟨RX12, "play", "(I)I"⟩
abbrev cX12_back : ByteArray := prog_14_method_45_code
def yX12_back : MethodName := ⟨RX12, "back", "()I"⟩
abbrev cX12_weigh : ByteArray := prog_14_method_46_code
def yX12_weigh : MethodName := ⟨RX12, "weigh", "(III)I"⟩
abbrev cX12_setQuiet : ByteArray := prog_14_method_47_code
def yX12_setQuiet : MethodName := ⟨RX12, "setQuiet", "(Z)Z"⟩
abbrev cX12_setSlots : ByteArray := prog_14_method_48_code
def yX12_setSlots : MethodName := ⟨RX12, "setSlots", "(I)I"⟩
abbrev cX12_empty : ByteArray := prog_14_method_49_code
def yX12_empty : MethodName := ⟨RX12, "empty", "()I"⟩
abbrev cX12_columns : ByteArray := prog_14_method_50_code
def yX12_columns : MethodName := ⟨RX12, "columns", "()I"⟩
abbrev cX12_rows : ByteArray := prog_14_method_51_code
def yX12_rows : MethodName := ⟨RX12, "rows", "()I"⟩
abbrev cX12_at : ByteArray := prog_14_method_52_code
def yX12_at : MethodName := ⟨RX12, "at", "(I)I"⟩
abbrev cX12_side : ByteArray := prog_14_method_53_code
def yX12_side : MethodName := ⟨RX12, "side", "()I"⟩
abbrev cX12_played : ByteArray := prog_14_method_54_code
def yX12_played : MethodName := ⟨RX12, "played", "()I"⟩
abbrev cX12_moves : ByteArray := prog_14_method_55_code
def yX12_moves : MethodName := ⟨RX12, "moves", "()I"⟩
abbrev cX12_from : ByteArray := prog_14_method_56_code
def yX12_from : MethodName := ⟨RX12, "from", "(I)I"⟩
abbrev cX12_to : ByteArray := prog_14_method_57_code
def yX12_to : MethodName := ⟨RX12, "to", "(I)I"⟩
abbrev cX12_takes : ByteArray := prog_14_method_58_code
def yX12_takes : MethodName := ⟨RX12, "takes", "(I)Z"⟩
abbrev cX12_isLost : ByteArray := prog_14_method_59_code
def yX12_isLost : MethodName := ⟨RX12, "isLost", "()Z"⟩
abbrev cX12_key : ByteArray := prog_14_method_60_code
def yX12_key : MethodName := ⟨RX12, "key", "()J"⟩
abbrev cX12_evaluation : ByteArray := prog_14_method_61_code
def yX12_evaluation : MethodName := ⟨RX12, "evaluation", "()I"⟩
abbrev cX12_ways : ByteArray := prog_14_method_62_code
def yX12_ways : MethodName := ⟨RX12, "ways", "(I)I"⟩
abbrev cX12_value : ByteArray := prog_14_method_63_code
def yX12_value : MethodName := ⟨RX12, "value", "(I)I"⟩
abbrev cX12_valueOf : ByteArray := prog_14_method_64_code
def yX12_valueOf : MethodName := ⟨RX12, "valueOf", "(II)I"⟩
abbrev cX12_search : ByteArray := prog_14_method_65_code
def yX12_search : MethodName := ⟨RX12, "search", "(I)I"⟩
abbrev cX12_bestFrom : ByteArray := prog_14_method_66_code
def yX12_bestFrom : MethodName := ⟨RX12, "bestFrom", "()I"⟩
abbrev cX12_bestTo : ByteArray := prog_14_method_67_code
def yX12_bestTo : MethodName := ⟨RX12, "bestTo", "()I"⟩
abbrev cX12_reached : ByteArray := prog_14_method_68_code
def yX12_reached : MethodName := ⟨RX12, "reached", "()I"⟩
abbrev cX12_nodes : ByteArray := prog_14_method_69_code
def yX12_nodes : MethodName := ⟨RX12, "nodes", "()I"⟩
abbrev cX12_hits : ByteArray := prog_14_method_70_code
def yX12_hits : MethodName := ⟨RX12, "hits", "()I"⟩
abbrev cX12_cuts : ByteArray := prog_14_method_71_code
def yX12_cuts : MethodName := ⟨RX12, "cuts", "()I"⟩
abbrev cX12_killerAt : ByteArray := prog_14_method_72_code
def yX12_killerAt : MethodName := ⟨RX12, "killerAt", "(II)I"⟩
abbrev cX12_killer : ByteArray := prog_14_method_73_code
def yX12_killer : MethodName := ⟨RX12, "killer", "(IZ)I"⟩
abbrev cX12_slots : ByteArray := prog_14_method_74_code
def yX12_slots : MethodName := ⟨RX12, "slots", "()I"⟩
abbrev cX12_entries : ByteArray := prog_14_method_75_code
def yX12_entries : MethodName := ⟨RX12, "entries", "()I"⟩
abbrev cX12_toldOf : ByteArray := prog_14_method_76_code
def yX12_toldOf : MethodName := ⟨RX12, "toldOf", "(II)I"⟩
abbrev cX12_ofSlot : ByteArray := prog_14_method_77_code
def yX12_ofSlot : MethodName := ⟨RX12, "ofSlot", "(II)I"⟩
abbrev cX12_knownNow : ByteArray := prog_14_method_78_code
def yX12_knownNow : MethodName := ⟨RX12, "knownNow", "()I"⟩
abbrev cX12_known : ByteArray := prog_14_method_79_code
def yX12_known : MethodName := ⟨RX12, "known", "()I"⟩
abbrev cX12_teach : ByteArray := prog_14_method_80_code
def yX12_teach : MethodName := ⟨RX12, "teach", "(II)I"⟩
abbrev cX12_told : ByteArray := prog_14_method_81_code
def yX12_told : MethodName := ⟨RX12, "told", "()I"⟩
abbrev cX12_goNow : ByteArray := prog_14_method_82_code
def yX12_goNow : MethodName := ⟨RX12, "goNow", "(I)I"⟩
abbrev cX12_go : ByteArray := prog_14_method_83_code
def yX12_go : MethodName := ⟨RX12, "go", "(I)I"⟩
abbrev cX12_playOut : ByteArray := prog_14_method_84_code
def yX12_playOut : MethodName := ⟨RX12, "playOut", "(II)I"⟩
abbrev cX12_pages : ByteArray := prog_14_method_85_code
def yX12_pages : MethodName := ⟨RX12, "pages", "()I"⟩
abbrev cX12_effort : ByteArray := prog_14_method_86_code
def yX12_effort : MethodName := ⟨RX12, "effort", "()D"⟩
abbrev cX12_add : ByteArray := prog_14_method_87_code
def yX12_add : MethodName := ⟨RX12, "add", "(J)V"⟩
abbrev cX12_digest : ByteArray := prog_14_method_88_code
def yX12_digest : MethodName := ⟨RX12, "digest", "()J"⟩
def RJx145de : String := "java/io/Serializable"
def TJx145de : u_T := fun k => match k with
  | _ => ("", "", "", false)
def tyJx145de : Nat → FieldType := fun k => match k with
  | _ => .int
abbrev wsJx145de0 : List Cond := u_ws RJx145de TJx145de 0
theorem nmJx145de : ∀ a, a < 0 → ∀ b, b < 0 → a ≠ b → (TJx145de a).2.1 ≠ (TJx145de b).2.1 := by decide +kernel
theorem tyJx145de_ok : ∀ k, k < 0 → parseFieldDescriptor (TJx145de k).2.2.1 = some (tyJx145de k) := by decide +kernel
def RJ9 : String := "java/lang/Math"
def TJ9 : u_T := fun k => match k with
  | _ => ("", "", "", false)
def tyJ9 : Nat → FieldType := fun k => match k with
  | _ => .int
abbrev wsJ90 : List Cond := u_ws RJ9 TJ9 0
theorem nmJ9 : ∀ a, a < 0 → ∀ b, b < 0 → a ≠ b → (TJ9 a).2.1 ≠ (TJ9 b).2.1 := by decide +kernel
theorem tyJ9_ok : ∀ k, k < 0 → parseFieldDescriptor (TJ9 k).2.2.1 = some (tyJ9 k) := by decide +kernel
abbrev cJ9_abs_0f7a4 : ByteArray := prog_19_method_59_code
def yJ9_abs_0f7a4 : MethodName := ⟨RJ9, "abs", "(I)I"⟩
abbrev cJ9_max_7cf53 : ByteArray := prog_19_method_65_code
def yJ9_max_7cf53 : MethodName := ⟨RJ9, "max", "(II)I"⟩
def RJ0 : String := "java/lang/String"
def TJ0 : u_T := fun k => match k with
  | _ => ("", "", "", false)
def tyJ0 : Nat → FieldType := fun k => match k with
  | _ => .int
abbrev wsJ00 : List Cond := u_ws RJ0 TJ0 0
theorem nmJ0 : ∀ a, a < 0 → ∀ b, b < 0 → a ≠ b → (TJ0 a).2.1 ≠ (TJ0 b).2.1 := by decide +kernel
theorem tyJ0_ok : ∀ k, k < 0 → parseFieldDescriptor (TJ0 k).2.2.1 = some (tyJ0 k) := by decide +kernel
def RJ10 : String := "java/lang/System"
def TJ10 : u_T := fun k => match k with
  | _ => ("", "", "", false)
def tyJ10 : Nat → FieldType := fun k => match k with
  | _ => .int
abbrev wsJ100 : List Cond := u_ws RJ10 TJ10 0
theorem nmJ10 : ∀ a, a < 0 → ∀ b, b < 0 → a ≠ b → (TJ10 a).2.1 ≠ (TJ10 b).2.1 := by decide +kernel
theorem tyJ10_ok : ∀ k, k < 0 → parseFieldDescriptor (TJ10 k).2.2.1 = some (tyJ10 k) := by decide +kernel
def RJ7 : String := "java/util/Arrays"
def TJ7 : u_T := fun k => match k with
  | _ => ("", "", "", false)
def tyJ7 : Nat → FieldType := fun k => match k with
  | _ => .int
abbrev wsJ70 : List Cond := u_ws RJ7 TJ7 0
theorem nmJ7 : ∀ a, a < 0 → ∀ b, b < 0 → a ≠ b → (TJ7 a).2.1 ≠ (TJ7 b).2.1 := by decide +kernel
theorem tyJ7_ok : ∀ k, k < 0 → parseFieldDescriptor (TJ7 k).2.2.1 = some (tyJ7 k) := by decide +kernel
abbrev cJ7_fill_53178 : ByteArray := prog_24_method_103_code
def yJ7_fill_53178 : MethodName := ⟨RJ7, "fill", "([II)V"⟩
def RL : String := "KindlingTreeLaw"
abbrev cL_setUp : ByteArray := method_3_code
def yL_setUp : MethodName := ⟨RL, "setUp", "(LKindlingTree;III[J)I"⟩
abbrev cL_put : ByteArray := method_4_code
def yL_put : MethodName := ⟨RL, "put", "(LKindlingTree;II[J)I"⟩
abbrev cL_setSide : ByteArray := method_5_code
def yL_setSide : MethodName := ⟨RL, "setSide", "(LKindlingTree;I[J)I"⟩
abbrev cL_play : ByteArray := method_6_code
def yL_play : MethodName := ⟨RL, "play", "(LKindlingTree;I[J)I"⟩
abbrev cL_back : ByteArray := method_7_code
def yL_back : MethodName := ⟨RL, "back", "(LKindlingTree;[J)I"⟩
abbrev cL_weigh : ByteArray := method_8_code
def yL_weigh : MethodName := ⟨RL, "weigh", "(LKindlingTree;III[J)I"⟩
abbrev cL_setSlots : ByteArray := method_9_code
def yL_setSlots : MethodName := ⟨RL, "setSlots", "(LKindlingTree;I[J)I"⟩
abbrev cL_at : ByteArray := method_10_code
def yL_at : MethodName := ⟨RL, "at", "(LKindlingTree;I[J)I"⟩
abbrev cL_from : ByteArray := method_11_code
def yL_from : MethodName := ⟨RL, "from", "(LKindlingTree;I[J)I"⟩
abbrev cL_to : ByteArray := method_12_code
def yL_to : MethodName := ⟨RL, "to", "(LKindlingTree;I[J)I"⟩
abbrev cL_takes : ByteArray := method_13_code
def yL_takes : MethodName := ⟨RL, "takes", "(LKindlingTree;I[J)I"⟩
abbrev cL_ways : ByteArray := method_14_code
def yL_ways : MethodName := ⟨RL, "ways", "(LKindlingTree;I[J)I"⟩
abbrev cL_value : ByteArray := method_15_code
def yL_value : MethodName := ⟨RL, "value", "(LKindlingTree;I[J)I"⟩
abbrev cL_valueOf : ByteArray := method_16_code
def yL_valueOf : MethodName := ⟨RL, "valueOf", "(LKindlingTree;II[J)I"⟩
abbrev cL_search : ByteArray := method_17_code
def yL_search : MethodName := ⟨RL, "search", "(LKindlingTree;I[J)I"⟩
abbrev cL_ofSlot : ByteArray := method_18_code
def yL_ofSlot : MethodName := ⟨RL, "ofSlot", "(LKindlingTree;II[J)I"⟩
abbrev cL_teach : ByteArray := method_19_code
def yL_teach : MethodName := ⟨RL, "teach", "(LKindlingTree;II[J)I"⟩
abbrev cL_go : ByteArray := method_20_code
def yL_go : MethodName := ⟨RL, "go", "(LKindlingTree;I[J)I"⟩
abbrev cL_playOut : ByteArray := method_21_code
def yL_playOut : MethodName := ⟨RL, "playOut", "(LKindlingTree;II[J)I"⟩
abbrev cL_law : ByteArray := code
def yL_law : MethodName := ⟨RL, "law", "([I)Z"⟩
abbrev vwCl : List vw_C := [(RX0, TX0, 4), (RX1, TX1, 4), (RX2, TX2, 4), (RX3, TX3, 2), (RX4, TX4, 2), (RX5, TX5, 6), (RX6, TX6, 4), (RX7, TX7, 10), (RX8, TX8, 6), (RX9, TX9, 3), (RX10, TX10, 3), (RX11, TX11, 8), (RX12, TX12, 26)]
end
section
/-! numbers: an int, a long by its whole number -/
abbrev Fn : Type := Int → Int
abbrev Sg : Type := Nat → Int → Int
def iI (z : Int) : Int32 := Int32.ofInt z
def jI (z : Int) : Int64 := Int64.ofInt z
abbrev IR (z : Int) : Prop := -2147483648 ≤ z ∧ z ≤ 2147483647
abbrev JR (z : Int) : Prop := -9223372036854775808 ≤ z ∧ z ≤ 9223372036854775807
theorem iI_toInt {z : Int} (h : IR z) : (iI z).toInt = z := by
  obtain ⟨h1, h2⟩ := h
  unfold iI
  rw [Int32.toInt_ofInt]
  apply Int.bmod_eq_of_le <;> (first | omega | (simp [Int32.size]; omega))
theorem jI_toInt {z : Int} (h : JR z) : (jI z).toInt = z := by
  obtain ⟨h1, h2⟩ := h
  unfold jI
  rw [Int64.toInt_ofInt]
  apply Int.bmod_eq_of_le <;> (first | omega | (simp [Int64.size]; omega))
theorem iI_lt {a b : Int} (ha : IR a) (hb : IR b) : iI a < iI b ↔ a < b := by rw [Int32.lt_iff_toInt_lt, iI_toInt ha, iI_toInt hb]
theorem iI_le {a b : Int} (ha : IR a) (hb : IR b) : iI a ≤ iI b ↔ a ≤ b := by rw [Int32.le_iff_toInt_le, iI_toInt ha, iI_toInt hb]
theorem iI_eq {a b : Int} (ha : IR a) (hb : IR b) : iI a = iI b ↔ a = b := ⟨fun h => by rw [← iI_toInt ha, ← iI_toInt hb, h], fun h => by rw [h]⟩
theorem jI_lt {a b : Int} (ha : JR a) (hb : JR b) : jI a < jI b ↔ a < b := by rw [Int64.lt_iff_toInt_lt, jI_toInt ha, jI_toInt hb]
theorem jI_le {a b : Int} (ha : JR a) (hb : JR b) : jI a ≤ jI b ↔ a ≤ b := by rw [Int64.le_iff_toInt_le, jI_toInt ha, jI_toInt hb]
theorem jI_eq {a b : Int} (ha : JR a) (hb : JR b) : jI a = jI b ↔ a = b := ⟨fun h => by rw [← jI_toInt ha, ← jI_toInt hb, h], fun h => by rw [h]⟩
theorem iI_add (a b : Int) : iI a + iI b = iI (a + b) := (Int32.ofInt_add a b).symm
theorem iI_sub (a b : Int) : iI a - iI b = iI (a - b) := (Int32.ofInt_sub a b).symm
theorem iI_mul (a b : Int) : iI a * iI b = iI (a * b) := (Int32.ofInt_mul a b).symm
theorem iI_neg (a : Int) : - iI a = iI (- a) := (Int32.ofInt_neg a).symm
theorem jI_add (a b : Int) : jI a + jI b = jI (a + b) := (Int64.ofInt_add a b).symm
theorem jI_mul (a b : Int) : jI a * jI b = jI (a * b) := (Int64.ofInt_mul a b).symm
theorem iI_div {a b : Int} (ha : IR a) (hb : IR b) (h0 : 0 ≤ a) : iI a / iI b = iI (a.tdiv b) := by
  apply Int32.toInt_inj.mp
  rw [Int32.toInt_div, iI_toInt ha, iI_toInt hb]
  have h : IR (a.tdiv b) := by
    obtain ⟨h1, h2⟩ := ha
    have e := Int.natAbs_tdiv a b
    have e2 := Nat.div_le_self a.natAbs b.natAbs
    have e3 : (a.tdiv b).natAbs ≤ a.natAbs := by rw [Int.natAbs_tdiv]; exact e2
    constructor <;> omega
  rw [iI_toInt h]
  obtain ⟨h1, h2⟩ := h
  apply Int.bmod_eq_of_le <;> (first | omega | (simp [Int32.size]; omega))
theorem iI_rem {a b : Int} (ha : IR a) (hb : IR b) (h0 : 0 ≤ a) : iI a - iI a / iI b * iI b = iI (a.tmod b) := by
  rw [iI_div ha hb h0, iI_mul, iI_sub]
  congr 1
  have := Int.tmod_add_mul_tdiv a b
  have h2 : a.tdiv b * b = b * a.tdiv b := Int.mul_comm _ _
  omega
theorem iI_clamp {z : Int} (h : IR z) : (iI z).toNatClampNeg = z.toNat := by
  show (iI z).toInt.toNat = z.toNat
  rw [iI_toInt h]
theorem iI_in {z : Int} {n : Nat} (h0 : 0 ≤ z) (h1 : z < n) (hn : (n : Int) ≤ 2147483647) : vp_in (iI z) n := by
  rw [vp_in_iff, iI_toInt ⟨by omega, by omega⟩]
  exact ⟨h0, h1⟩
theorem iI_j {z : Int} (h : IR z) : (iI z).toInt64 = jI z := by
  apply Int64.toInt_inj.mp
  rw [Int32.toInt_toInt64, iI_toInt h]
  obtain ⟨h1, h2⟩ := h
  rw [jI_toInt ⟨by omega, by omega⟩]
theorem jI_i (z : Int) : (jI z).toInt32 = iI z := by
  apply Int32.toBitVec_inj.mp
  show (BitVec.signExtend 32 (BitVec.ofInt 64 z)) = BitVec.ofInt 32 z
  rw [BitVec.signExtend_eq_setWidth_of_le _ (by decide)]
  apply BitVec.eq_of_toNat_eq
  simp [BitVec.toNat_ofInt]
  omega
theorem lg_cmp_j {a b : Int} (ha : JR a) (hb : JR b) : lg_cmp (jI a) (jI b) = iI (if b < a then 1 else if a = b then 0 else -1) := by
  unfold lg_cmp
  simp only [gt_iff_lt, jI_lt hb ha, jI_eq ha hb]
  by_cases h : b < a
  · simp only [h, if_true]; rfl
  · by_cases h2 : a = b
    · simp only [h, h2, if_true, if_false]; first | rfl | (split <;> first | rfl | omega)
    · simp only [h, h2, if_false]; rfl
def fI (f : Fn) : Nat → Int32 := fun j => iI (f (j : Int))
def fJ (f : Fn) : Nat → Int64 := fun j => jI (f (j : Int))
def ups (f : Fn) (i v : Int) : Fn := fun j => if j = i then v else f j
def upr (σ : Sg) (r : Nat) (f : Fn) : Sg := fun q => if q = r then f else σ q
theorem ups_eq (f : Fn) (i v : Int) : ups f i v i = v := if_pos rfl
theorem ups_ne (f : Fn) {i j : Int} (v : Int) (h : j ≠ i) : ups f i v j = f j := if_neg h
theorem upr_eq (σ : Sg) (r : Nat) (f : Fn) : upr σ r f r = f := if_pos rfl
theorem upr_ne (σ : Sg) {r q : Nat} (f : Fn) (h : q ≠ r) : upr σ r f q = σ q := if_neg h
theorem upr_upr (σ : Sg) (r : Nat) (f g : Fn) : upr (upr σ r f) r g = upr σ r g := by
  funext q
  unfold upr
  by_cases h : q = r <;> simp [h]
theorem ups_ups (f : Fn) (i v w : Int) : ups (ups f i v) i w = ups f i w := by
  funext q
  unfold ups
  by_cases h : q = i <;> simp [h]
theorem ups_self (f : Fn) (i : Int) : ups f i (f i) = f := by
  funext q
  unfold ups
  by_cases h : q = i <;> simp [h]
theorem upr_self (σ : Sg) (r : Nat) : upr σ r (σ r) = σ := by
  funext q
  unfold upr
  by_cases h : q = r <;> simp [h]
theorem fI_ups (f : Fn) {z : Int} (v : Int) (h : IR z) (h0 : 0 ≤ z) : upd (fI f) (iI z).toNatClampNeg (iI v) = fI (ups f z v) := by
  rw [iI_clamp h]
  funext j
  unfold upd fI ups
  by_cases e : j = z.toNat
  · rw [if_pos e, if_pos (by omega)]
  · rw [if_neg e, if_neg (by omega)]
theorem fJ_ups (f : Fn) {z : Int} (v : Int) (h : IR z) (h0 : 0 ≤ z) : vp_updL (fJ f) (iI z).toNatClampNeg (jI v) = fJ (ups f z v) := by
  rw [iI_clamp h]
  funext j
  unfold vp_updL fJ ups
  by_cases e : j = z.toNat
  · rw [if_pos e, if_pos (by omega)]
  · rw [if_neg e, if_neg (by omega)]
theorem fI_at (f : Fn) {z : Int} (h : IR z) (h0 : 0 ≤ z) : fI f (iI z).toNatClampNeg = iI (f z) := by
  rw [iI_clamp h]
  show iI (f ((z.toNat : Nat) : Int)) = _
  rw [Int.toNat_of_nonneg h0]
theorem fJ_at (f : Fn) {z : Int} (h : IR z) (h0 : 0 ≤ z) : fJ f (iI z).toNatClampNeg = jI (f z) := by
  rw [iI_clamp h]
  show jI (f ((z.toNat : Nat) : Int)) = _
  rw [Int.toNat_of_nonneg h0]
theorem nar_b {v : Int} (h : v = 0 ∨ v = 1) : vp_nar .boolean (iI v) = iI v := by
  rcases h with rfl | rfl <;> rfl
theorem nar_z {v : Int} (h : v = 0 ∨ v = 1) : narrow .boolean (.int (iI v)) = .int (iI v) := by
  rcases h with rfl | rfl <;> rfl
end
section
/-! the world: cells by number (0..80 the class, 100..232 the reference, 240 the law's row), registers by number (σ r i: element i of row r) -/
def fxX (ad : Nat → Nat) (G : Nat → Nat) (σ : Sg) : List va_E := [
  .inr (11, [.ref (ad 1), .ref (ad 26), .ref (ad 21), .ref (ad 3), .ref (ad 4), .ref (ad 10), .ref (ad 13), .ref (ad 17)]),
  .inr (0, [.ref (ad 2), .int (iI (σ 2 0)), .int (iI (σ 3 0)), .int (iI (σ 4 0))]),
  .inl (G 0, 25, .inl (fI (σ 1))),
  .inr (2, [.int (iI (σ 5 0)), .int (iI (σ 6 0)), .int (iI (σ 7 0)), .int (iI (σ 8 0))]),
  .inr (8, [.ref (ad 5), .ref (ad 6), .ref (ad 7), .ref (ad 8), .ref (ad 9), .int (iI (σ 9 0))]),
  .inl (G 1, 64, .inr (.inl (fJ (σ 10)))),
  .inl (G 0, 64, .inl (fI (σ 11))),
  .inl (G 0, 64, .inl (fI (σ 12))),
  .inl (G 0, 64, .inl (fI (σ 13))),
  .inl (G 0, 64, .inl (fI (σ 14))),
  .inr (10, [.ref (ad 1), .ref (ad 24), .ref (ad 11)]),
  .inr (6, [.ref (ad 1), .ref (ad 3), .ref (ad 24), .int (iI (σ 15 0))]),
  .inr (6, [.ref (ad 1), .ref (ad 3), .ref (ad 24), .int (iI (σ 16 0))]),
  .inr (7, [.ref (ad 1), .ref (ad 24), .ref (ad 4), .ref (ad 12), .ref (ad 14), .int (iI (σ 19 0)), .int (iI (σ 20 0)), .int (iI (σ 21 0)), .int (iI (σ 22 0)), .int (iI (σ 23 0))]),
  .inr (3, [.ref (ad 15), .ref (ad 16)]),
  .inl (G 0, 5, .inl (fI (σ 17))),
  .inl (G 0, 5, .inl (fI (σ 18))),
  .inr (1, [.ref (ad 18), .ref (ad 19), .ref (ad 20), .int (iI (σ 27 0))]),
  .inl (G 1, 30, .inr (.inl (fJ (σ 24)))),
  .inl (G 0, 30, .inl (fI (σ 25))),
  .inl (G 0, 30, .inl (fI (σ 26))),
  .inr (9, [.ref (ad 22), .ref (ad 23), .int (iI (σ 30 0))]),
  .inl (G 0, 40, .inl (fI (σ 28))),
  .inl (G 0, 40, .inl (fI (σ 29))),
  .inr (4, [.ref (ad 25), .ref (ad 76)]),
  .inl (G 3, 9, .inr (.inr (.inr (.inr (fun j => some (ad (26 + 5 * (j + 1))))))))]
def fxM (ad : Nat → Nat) (G : Nat → Nat) (σ : Sg) : List va_E := [
  .inr (12, [.int (iI (σ 232 0)), .int (iI (σ 202 0)), .int (iI (σ 203 0)), .ref (ad 101), .ref (ad 102), .int (iI (σ 230 0)), .int (iI (σ 205 0)), .int (iI (σ 206 0)), .int (iI (σ 207 0)), .int (iI (σ 208 0)), .ref (ad 103), .int (iI (σ 209 0)), .ref (ad 116), .ref (ad 117), .ref (ad 182), .ref (ad 195), .int (iI (σ 221 0)), .int (iI (σ 222 0)), .int (iI (σ 223 0)), .int (iI (σ 220 0)), .int (iI (σ 219 0)), .int (iI (σ 231 0)), .int (iI (σ 227 0)), .ref (ad 201), .ref (ad 202), .long (jI (σ 233 0))]),
  .inl (G 0, (σ 202 0 * σ 203 0 + 1).toNat, .inl (fun j => iI (if (j : Int) = σ 202 0 * σ 203 0 then σ 204 0 else σ 201 j))),
  .inl (G 0, 80, .inl (fun j => iI (if j % 2 = 0 then σ 228 ((j / 2 : Nat) : Int) else σ 229 ((j / 2 : Nat) : Int)))),
  .inl (G 4, 12, .inr (.inr (.inr (.inr (fun j => some (ad (104 + j)))))))]
def cxl (ad : Nat → Nat) (G : Nat → Nat) (σ : Sg) (j i : Nat) : va_E := match i with
  | 0 => .inr (5, [.ref (ad (26 + 5 * j + 1)), .ref (ad (26 + 5 * j + 2)), .ref (ad (26 + 5 * j + 3)), .ref (ad (26 + 5 * j + 4)), .int (iI (σ (40 + 6 * j + 4) 0)), .int (iI (σ (40 + 6 * j + 5) 0))])
  | 1 => .inl (G 0, 18, .inl (fI (σ (40 + 6 * j))))
  | 2 => .inl (G 2, 18, .inl (fI (σ (40 + 6 * j + 1))))
  | 3 => .inl (G 0, 18, .inl (fI (σ (40 + 6 * j + 2))))
  | _ => .inl (G 2, 18, .inl (fI (σ (40 + 6 * j + 3))))
def rowF (σ : Sg) (b n : Nat) (i : Int) : Nat → Int32 := fun j => iI (if j < n then σ (b + j) i else 0)
theorem rowF_dep {σ σ1 : Sg} {b n : Nat} {i : Int} (h : ∀ j, j < n → σ1 (b + j) i = σ (b + j) i) : rowF σ1 b n i = rowF σ b n i := by
  funext j
  unfold rowF
  by_cases e : j < n
  · rw [if_pos e, if_pos e, h j e]
  · rw [if_neg e, if_neg e]
def cell (ad : Nat → Nat) (G : Nat → Nat) (σ : Sg) (k : Nat) : va_E :=
  if k < 26 then (fxX ad G σ).getD k (.inl (G 0, 0, .inl (fun _ => 0)))
  else if k < 81 then cxl ad G σ ((k - 26) / 5) ((k - 26) % 5)
  else if k < 104 then (fxM ad G σ).getD (k - 100) (.inl (G 0, 0, .inl (fun _ => 0)))
  else if k < 116 then .inl (G 0, 75, .inl (fI (σ (240 + (k - 104)))))
  else if k = 116 then .inl (G 1, 64, .inr (.inl (fJ (σ 210))))
  else if k = 117 then .inl (G 4, 64, .inr (.inr (.inr (.inr (fun j => some (ad (118 + j)))))))
  else if k < 182 then .inl (G 0, 4, .inl (rowF σ 211 4 ((k - 118 : Nat) : Int)))
  else if k = 182 then .inl (G 4, 12, .inr (.inr (.inr (.inr (fun j => some (ad (183 + j)))))))
  else if k < 195 then .inl (G 0, 75, .inl (fI (σ (255 + (k - 183)))))
  else if k = 195 then .inl (G 4, 5, .inr (.inr (.inr (.inr (fun j => some (ad (196 + j)))))))
  else if k < 201 then .inl (G 0, 2, .inl (rowF σ 217 2 ((k - 196 : Nat) : Int)))
  else if k = 201 then .inl (G 1, 30, .inr (.inl (fJ (σ 224))))
  else if k = 202 then .inl (G 4, 30, .inr (.inr (.inr (.inr (fun j => some (ad (203 + j)))))))
  else if k < 233 then .inl (G 0, 2, .inl (rowF σ 225 2 ((k - 203 : Nat) : Int)))
  else .inl (G 1, 1, .inr (.inl (fJ (σ 270))))
theorem cx_0 (ad : Nat → Nat) (G : Nat → Nat) (σ : Sg) : cell ad G σ 0 = .inr (11, [.ref (ad 1), .ref (ad 26), .ref (ad 21), .ref (ad 3), .ref (ad 4), .ref (ad 10), .ref (ad 13), .ref (ad 17)]) := rfl
theorem cx_1 (ad : Nat → Nat) (G : Nat → Nat) (σ : Sg) : cell ad G σ 1 = .inr (0, [.ref (ad 2), .int (iI (σ 2 0)), .int (iI (σ 3 0)), .int (iI (σ 4 0))]) := rfl
theorem cx_2 (ad : Nat → Nat) (G : Nat → Nat) (σ : Sg) : cell ad G σ 2 = .inl (G 0, 25, .inl (fI (σ 1))) := rfl
theorem cx_3 (ad : Nat → Nat) (G : Nat → Nat) (σ : Sg) : cell ad G σ 3 = .inr (2, [.int (iI (σ 5 0)), .int (iI (σ 6 0)), .int (iI (σ 7 0)), .int (iI (σ 8 0))]) := rfl
theorem cx_4 (ad : Nat → Nat) (G : Nat → Nat) (σ : Sg) : cell ad G σ 4 = .inr (8, [.ref (ad 5), .ref (ad 6), .ref (ad 7), .ref (ad 8), .ref (ad 9), .int (iI (σ 9 0))]) := rfl
theorem cx_5 (ad : Nat → Nat) (G : Nat → Nat) (σ : Sg) : cell ad G σ 5 = .inl (G 1, 64, .inr (.inl (fJ (σ 10)))) := rfl
theorem cx_6 (ad : Nat → Nat) (G : Nat → Nat) (σ : Sg) : cell ad G σ 6 = .inl (G 0, 64, .inl (fI (σ 11))) := rfl
theorem cx_7 (ad : Nat → Nat) (G : Nat → Nat) (σ : Sg) : cell ad G σ 7 = .inl (G 0, 64, .inl (fI (σ 12))) := rfl
theorem cx_8 (ad : Nat → Nat) (G : Nat → Nat) (σ : Sg) : cell ad G σ 8 = .inl (G 0, 64, .inl (fI (σ 13))) := rfl
theorem cx_9 (ad : Nat → Nat) (G : Nat → Nat) (σ : Sg) : cell ad G σ 9 = .inl (G 0, 64, .inl (fI (σ 14))) := rfl
theorem cx_10 (ad : Nat → Nat) (G : Nat → Nat) (σ : Sg) : cell ad G σ 10 = .inr (10, [.ref (ad 1), .ref (ad 24), .ref (ad 11)]) := rfl
theorem cx_11 (ad : Nat → Nat) (G : Nat → Nat) (σ : Sg) : cell ad G σ 11 = .inr (6, [.ref (ad 1), .ref (ad 3), .ref (ad 24), .int (iI (σ 15 0))]) := rfl
theorem cx_12 (ad : Nat → Nat) (G : Nat → Nat) (σ : Sg) : cell ad G σ 12 = .inr (6, [.ref (ad 1), .ref (ad 3), .ref (ad 24), .int (iI (σ 16 0))]) := rfl
theorem cx_13 (ad : Nat → Nat) (G : Nat → Nat) (σ : Sg) : cell ad G σ 13 = .inr (7, [.ref (ad 1), .ref (ad 24), .ref (ad 4), .ref (ad 12), .ref (ad 14), .int (iI (σ 19 0)), .int (iI (σ 20 0)), .int (iI (σ 21 0)), .int (iI (σ 22 0)), .int (iI (σ 23 0))]) := rfl
theorem cx_14 (ad : Nat → Nat) (G : Nat → Nat) (σ : Sg) : cell ad G σ 14 = .inr (3, [.ref (ad 15), .ref (ad 16)]) := rfl
theorem cx_15 (ad : Nat → Nat) (G : Nat → Nat) (σ : Sg) : cell ad G σ 15 = .inl (G 0, 5, .inl (fI (σ 17))) := rfl
theorem cx_16 (ad : Nat → Nat) (G : Nat → Nat) (σ : Sg) : cell ad G σ 16 = .inl (G 0, 5, .inl (fI (σ 18))) := rfl
theorem cx_17 (ad : Nat → Nat) (G : Nat → Nat) (σ : Sg) : cell ad G σ 17 = .inr (1, [.ref (ad 18), .ref (ad 19), .ref (ad 20), .int (iI (σ 27 0))]) := rfl
theorem cx_18 (ad : Nat → Nat) (G : Nat → Nat) (σ : Sg) : cell ad G σ 18 = .inl (G 1, 30, .inr (.inl (fJ (σ 24)))) := rfl
theorem cx_19 (ad : Nat → Nat) (G : Nat → Nat) (σ : Sg) : cell ad G σ 19 = .inl (G 0, 30, .inl (fI (σ 25))) := rfl
theorem cx_20 (ad : Nat → Nat) (G : Nat → Nat) (σ : Sg) : cell ad G σ 20 = .inl (G 0, 30, .inl (fI (σ 26))) := rfl
theorem cx_21 (ad : Nat → Nat) (G : Nat → Nat) (σ : Sg) : cell ad G σ 21 = .inr (9, [.ref (ad 22), .ref (ad 23), .int (iI (σ 30 0))]) := rfl
theorem cx_22 (ad : Nat → Nat) (G : Nat → Nat) (σ : Sg) : cell ad G σ 22 = .inl (G 0, 40, .inl (fI (σ 28))) := rfl
theorem cx_23 (ad : Nat → Nat) (G : Nat → Nat) (σ : Sg) : cell ad G σ 23 = .inl (G 0, 40, .inl (fI (σ 29))) := rfl
theorem cx_24 (ad : Nat → Nat) (G : Nat → Nat) (σ : Sg) : cell ad G σ 24 = .inr (4, [.ref (ad 25), .ref (ad 76)]) := rfl
theorem cx_25 (ad : Nat → Nat) (G : Nat → Nat) (σ : Sg) : cell ad G σ 25 = .inl (G 3, 9, .inr (.inr (.inr (.inr (fun j => some (ad (26 + 5 * (j + 1)))))))) := rfl
theorem cx_100 (ad : Nat → Nat) (G : Nat → Nat) (σ : Sg) : cell ad G σ 100 = .inr (12, [.int (iI (σ 232 0)), .int (iI (σ 202 0)), .int (iI (σ 203 0)), .ref (ad 101), .ref (ad 102), .int (iI (σ 230 0)), .int (iI (σ 205 0)), .int (iI (σ 206 0)), .int (iI (σ 207 0)), .int (iI (σ 208 0)), .ref (ad 103), .int (iI (σ 209 0)), .ref (ad 116), .ref (ad 117), .ref (ad 182), .ref (ad 195), .int (iI (σ 221 0)), .int (iI (σ 222 0)), .int (iI (σ 223 0)), .int (iI (σ 220 0)), .int (iI (σ 219 0)), .int (iI (σ 231 0)), .int (iI (σ 227 0)), .ref (ad 201), .ref (ad 202), .long (jI (σ 233 0))]) := rfl
theorem cx_101 (ad : Nat → Nat) (G : Nat → Nat) (σ : Sg) : cell ad G σ 101 = .inl (G 0, (σ 202 0 * σ 203 0 + 1).toNat, .inl (fun j => iI (if (j : Int) = σ 202 0 * σ 203 0 then σ 204 0 else σ 201 j))) := rfl
theorem cx_102 (ad : Nat → Nat) (G : Nat → Nat) (σ : Sg) : cell ad G σ 102 = .inl (G 0, 80, .inl (fun j => iI (if j % 2 = 0 then σ 228 ((j / 2 : Nat) : Int) else σ 229 ((j / 2 : Nat) : Int)))) := rfl
theorem cx_103 (ad : Nat → Nat) (G : Nat → Nat) (σ : Sg) : cell ad G σ 103 = .inl (G 4, 12, .inr (.inr (.inr (.inr (fun j => some (ad (104 + j))))))) := rfl
theorem cx_116 (ad : Nat → Nat) (G : Nat → Nat) (σ : Sg) : cell ad G σ 116 = .inl (G 1, 64, .inr (.inl (fJ (σ 210)))) := rfl
theorem cx_117 (ad : Nat → Nat) (G : Nat → Nat) (σ : Sg) : cell ad G σ 117 = .inl (G 4, 64, .inr (.inr (.inr (.inr (fun j => some (ad (118 + j))))))) := rfl
theorem cx_182 (ad : Nat → Nat) (G : Nat → Nat) (σ : Sg) : cell ad G σ 182 = .inl (G 4, 12, .inr (.inr (.inr (.inr (fun j => some (ad (183 + j))))))) := rfl
theorem cx_195 (ad : Nat → Nat) (G : Nat → Nat) (σ : Sg) : cell ad G σ 195 = .inl (G 4, 5, .inr (.inr (.inr (.inr (fun j => some (ad (196 + j))))))) := rfl
theorem cx_201 (ad : Nat → Nat) (G : Nat → Nat) (σ : Sg) : cell ad G σ 201 = .inl (G 1, 30, .inr (.inl (fJ (σ 224)))) := rfl
theorem cx_202 (ad : Nat → Nat) (G : Nat → Nat) (σ : Sg) : cell ad G σ 202 = .inl (G 4, 30, .inr (.inr (.inr (.inr (fun j => some (ad (203 + j))))))) := rfl
theorem cx_240 (ad : Nat → Nat) (G : Nat → Nat) (σ : Sg) : cell ad G σ 240 = .inl (G 1, 1, .inr (.inl (fJ (σ 270)))) := rfl
theorem cx_lo (ad : Nat → Nat) (G : Nat → Nat) (σ : Sg) {j : Nat} (hj : j < 11) : cell ad G σ (26 + 5 * j) = .inr (5, [.ref (ad (26 + 5 * j + 1)), .ref (ad (26 + 5 * j + 2)), .ref (ad (26 + 5 * j + 3)), .ref (ad (26 + 5 * j + 4)), .int (iI (σ (40 + 6 * j + 4) 0)), .int (iI (σ (40 + 6 * j + 5) 0))]) := by
  unfold cell
  rw [if_neg (by omega), if_pos (by omega), show (26 + 5 * j - 26) / 5 = j by omega, show (26 + 5 * j - 26) % 5 = 0 by omega]
  rfl
theorem cx_lm (ad : Nat → Nat) (G : Nat → Nat) (σ : Sg) {j : Nat} (hj : j < 11) : cell ad G σ (26 + 5 * j + 1) = .inl (G 0, 18, .inl (fI (σ (40 + 6 * j)))) := by
  unfold cell
  rw [if_neg (by omega), if_pos (by omega), show (26 + 5 * j + 1 - 26) / 5 = j by omega, show (26 + 5 * j + 1 - 26) % 5 = 1 by omega]
  rfl
theorem cx_lt (ad : Nat → Nat) (G : Nat → Nat) (σ : Sg) {j : Nat} (hj : j < 11) : cell ad G σ (26 + 5 * j + 2) = .inl (G 2, 18, .inl (fI (σ (40 + 6 * j + 1)))) := by
  unfold cell
  rw [if_neg (by omega), if_pos (by omega), show (26 + 5 * j + 2 - 26) / 5 = j by omega, show (26 + 5 * j + 2 - 26) % 5 = 2 by omega]
  rfl
theorem cx_lr (ad : Nat → Nat) (G : Nat → Nat) (σ : Sg) {j : Nat} (hj : j < 11) : cell ad G σ (26 + 5 * j + 3) = .inl (G 0, 18, .inl (fI (σ (40 + 6 * j + 2)))) := by
  unfold cell
  rw [if_neg (by omega), if_pos (by omega), show (26 + 5 * j + 3 - 26) / 5 = j by omega, show (26 + 5 * j + 3 - 26) % 5 = 3 by omega]
  rfl
theorem cx_lp (ad : Nat → Nat) (G : Nat → Nat) (σ : Sg) {j : Nat} (hj : j < 11) : cell ad G σ (26 + 5 * j + 4) = .inl (G 2, 18, .inl (fI (σ (40 + 6 * j + 3)))) := by
  unfold cell
  rw [if_neg (by omega), if_pos (by omega), show (26 + 5 * j + 4 - 26) / 5 = j by omega, show (26 + 5 * j + 4 - 26) % 5 = 4 by omega]
  rfl
theorem cx_li (ad : Nat → Nat) (G : Nat → Nat) (σ : Sg) {i : Nat} (hi : i < 12) : cell ad G σ (104 + i) = .inl (G 0, 75, .inl (fI (σ (240 + i)))) := by
  unfold cell
  rw [if_neg (by omega), if_neg (by omega), if_neg (by omega), if_pos (by omega), show 104 + i - 104 = i by omega]
theorem cx_ts (ad : Nat → Nat) (G : Nat → Nat) (σ : Sg) {i : Nat} (hi : i < 64) : cell ad G σ (118 + i) = .inl (G 0, 4, .inl (rowF σ 211 4 (i : Int))) := by
  unfold cell
  rw [if_neg (by omega), if_neg (by omega), if_neg (by omega), if_neg (by omega), if_neg (by omega), if_neg (by omega), if_pos (by omega), show 118 + i - 118 = i by omega]
theorem cx_tr (ad : Nat → Nat) (G : Nat → Nat) (σ : Sg) {i : Nat} (hi : i < 12) : cell ad G σ (183 + i) = .inl (G 0, 75, .inl (fI (σ (255 + i)))) := by
  unfold cell
  rw [if_neg (by omega), if_neg (by omega), if_neg (by omega), if_neg (by omega), if_neg (by omega), if_neg (by omega), if_neg (by omega), if_neg (by omega), if_pos (by omega), show 183 + i - 183 = i by omega]
theorem cx_ki (ad : Nat → Nat) (G : Nat → Nat) (σ : Sg) {i : Nat} (hi : i < 5) : cell ad G σ (196 + i) = .inl (G 0, 2, .inl (rowF σ 217 2 (i : Int))) := by
  unfold cell
  rw [if_neg (by omega), if_neg (by omega), if_neg (by omega), if_neg (by omega), if_neg (by omega), if_neg (by omega), if_neg (by omega), if_neg (by omega), if_neg (by omega), if_neg (by omega), if_pos (by omega), show 196 + i - 196 = i by omega]
theorem cx_pg (ad : Nat → Nat) (G : Nat → Nat) (σ : Sg) {i : Nat} (hi : i < 30) : cell ad G σ (203 + i) = .inl (G 0, 2, .inl (rowF σ 225 2 (i : Int))) := by
  unfold cell
  rw [if_neg (by omega), if_neg (by omega), if_neg (by omega), if_neg (by omega), if_neg (by omega), if_neg (by omega), if_neg (by omega), if_neg (by omega), if_neg (by omega), if_neg (by omega), if_neg (by omega), if_neg (by omega), if_neg (by omega), if_pos (by omega), show 203 + i - 203 = i by omega]
/-- which cell a register lies in -/
def own (r : Nat) : Nat := if r < 40 then ([999, 2, 1, 1, 1, 3, 3, 3, 3, 4, 5, 6, 7, 8, 9, 11, 12, 15, 16, 13, 13, 13, 13, 13, 18, 19, 20, 17, 22, 23, 21, 999, 999, 999, 999, 999, 999, 999, 999, 999] : List Nat).getD r 999 else if r < 106 then 26 + 5 * ((r - 40) / 6) + ([1, 2, 3, 4, 0, 0] : List Nat).getD ((r - 40) % 6) 0 else if r < 200 then 999 else if r < 240 then ([999, 101, 100, 100, 101, 100, 100, 100, 100, 100, 116, 999, 999, 999, 999, 999, 999, 999, 999, 100, 100, 100, 100, 100, 201, 999, 999, 100, 102, 102, 100, 100, 100, 100, 999, 999, 999, 999, 999, 999] : List Nat).getD (r - 200) 999 else if r < 252 then 104 + (r - 240) else if r < 255 then 999 else if r < 267 then 183 + (r - 255) else if r = 270 then 240 else 999
/-- cell k speaks of the whole register r -/
def dp (k r : Nat) : Prop := own r = k ∨ (k = 101 ∧ (r = 202 ∨ r = 203))
/-- cell k speaks of the place i of register r -/
def dq (k r i : Nat) : Prop := (k = 118 + i ∧ 211 ≤ r ∧ r < 215) ∨ (k = 196 + i ∧ 217 ≤ r ∧ r < 219) ∨ (k = 203 + i ∧ 225 ≤ r ∧ r < 227)
theorem own_list {j i : Nat} (hj : j < 11) (hi : i < 6) : own (40 + 6 * j + i) = 26 + 5 * j + ([1, 2, 3, 4, 0, 0] : List Nat).getD i 0 := by
  unfold own
  rw [if_neg (by omega), if_pos (by omega), show (40 + 6 * j + i - 40) / 6 = j by omega, show (40 + 6 * j + i - 40) % 6 = i by omega]
theorem own_li {i : Nat} (hi : i < 12) : own (240 + i) = 104 + i := by
  unfold own
  rw [if_neg (by omega), if_neg (by omega), if_neg (by omega), if_neg (by omega), if_pos (by omega), show 240 + i - 240 = i by omega]
theorem own_tr {i : Nat} (hi : i < 12) : own (255 + i) = 183 + i := by
  unfold own
  rw [if_neg (by omega), if_neg (by omega), if_neg (by omega), if_neg (by omega), if_neg (by omega), if_neg (by omega), if_pos (by omega), show 255 + i - 255 = i by omega]
theorem cd_0 (ad : Nat → Nat) (G : Nat → Nat) {σ σ1 : Sg} (h : ∀ r, dp 0 r → σ1 r = σ r) : cell ad G σ1 0 = cell ad G σ 0 := by
  rw [cx_0, cx_0]
theorem cd_1 (ad : Nat → Nat) (G : Nat → Nat) {σ σ1 : Sg} (h : ∀ r, dp 1 r → σ1 r = σ r) : cell ad G σ1 1 = cell ad G σ 1 := by
  rw [cx_1, cx_1]
  rw [h 2 (Or.inl rfl), h 3 (Or.inl rfl), h 4 (Or.inl rfl)]
theorem cd_2 (ad : Nat → Nat) (G : Nat → Nat) {σ σ1 : Sg} (h : ∀ r, dp 2 r → σ1 r = σ r) : cell ad G σ1 2 = cell ad G σ 2 := by
  rw [cx_2, cx_2]
  rw [h 1 (Or.inl rfl)]
theorem cd_3 (ad : Nat → Nat) (G : Nat → Nat) {σ σ1 : Sg} (h : ∀ r, dp 3 r → σ1 r = σ r) : cell ad G σ1 3 = cell ad G σ 3 := by
  rw [cx_3, cx_3]
  rw [h 5 (Or.inl rfl), h 6 (Or.inl rfl), h 7 (Or.inl rfl), h 8 (Or.inl rfl)]
theorem cd_4 (ad : Nat → Nat) (G : Nat → Nat) {σ σ1 : Sg} (h : ∀ r, dp 4 r → σ1 r = σ r) : cell ad G σ1 4 = cell ad G σ 4 := by
  rw [cx_4, cx_4]
  rw [h 9 (Or.inl rfl)]
theorem cd_5 (ad : Nat → Nat) (G : Nat → Nat) {σ σ1 : Sg} (h : ∀ r, dp 5 r → σ1 r = σ r) : cell ad G σ1 5 = cell ad G σ 5 := by
  rw [cx_5, cx_5]
  rw [h 10 (Or.inl rfl)]
theorem cd_6 (ad : Nat → Nat) (G : Nat → Nat) {σ σ1 : Sg} (h : ∀ r, dp 6 r → σ1 r = σ r) : cell ad G σ1 6 = cell ad G σ 6 := by
  rw [cx_6, cx_6]
  rw [h 11 (Or.inl rfl)]
theorem cd_7 (ad : Nat → Nat) (G : Nat → Nat) {σ σ1 : Sg} (h : ∀ r, dp 7 r → σ1 r = σ r) : cell ad G σ1 7 = cell ad G σ 7 := by
  rw [cx_7, cx_7]
  rw [h 12 (Or.inl rfl)]
theorem cd_8 (ad : Nat → Nat) (G : Nat → Nat) {σ σ1 : Sg} (h : ∀ r, dp 8 r → σ1 r = σ r) : cell ad G σ1 8 = cell ad G σ 8 := by
  rw [cx_8, cx_8]
  rw [h 13 (Or.inl rfl)]
theorem cd_9 (ad : Nat → Nat) (G : Nat → Nat) {σ σ1 : Sg} (h : ∀ r, dp 9 r → σ1 r = σ r) : cell ad G σ1 9 = cell ad G σ 9 := by
  rw [cx_9, cx_9]
  rw [h 14 (Or.inl rfl)]
theorem cd_10 (ad : Nat → Nat) (G : Nat → Nat) {σ σ1 : Sg} (h : ∀ r, dp 10 r → σ1 r = σ r) : cell ad G σ1 10 = cell ad G σ 10 := by
  rw [cx_10, cx_10]
theorem cd_11 (ad : Nat → Nat) (G : Nat → Nat) {σ σ1 : Sg} (h : ∀ r, dp 11 r → σ1 r = σ r) : cell ad G σ1 11 = cell ad G σ 11 := by
  rw [cx_11, cx_11]
  rw [h 15 (Or.inl rfl)]
theorem cd_12 (ad : Nat → Nat) (G : Nat → Nat) {σ σ1 : Sg} (h : ∀ r, dp 12 r → σ1 r = σ r) : cell ad G σ1 12 = cell ad G σ 12 := by
  rw [cx_12, cx_12]
  rw [h 16 (Or.inl rfl)]
theorem cd_13 (ad : Nat → Nat) (G : Nat → Nat) {σ σ1 : Sg} (h : ∀ r, dp 13 r → σ1 r = σ r) : cell ad G σ1 13 = cell ad G σ 13 := by
  rw [cx_13, cx_13]
  rw [h 19 (Or.inl rfl), h 20 (Or.inl rfl), h 21 (Or.inl rfl), h 22 (Or.inl rfl), h 23 (Or.inl rfl)]
theorem cd_14 (ad : Nat → Nat) (G : Nat → Nat) {σ σ1 : Sg} (h : ∀ r, dp 14 r → σ1 r = σ r) : cell ad G σ1 14 = cell ad G σ 14 := by
  rw [cx_14, cx_14]
theorem cd_15 (ad : Nat → Nat) (G : Nat → Nat) {σ σ1 : Sg} (h : ∀ r, dp 15 r → σ1 r = σ r) : cell ad G σ1 15 = cell ad G σ 15 := by
  rw [cx_15, cx_15]
  rw [h 17 (Or.inl rfl)]
theorem cd_16 (ad : Nat → Nat) (G : Nat → Nat) {σ σ1 : Sg} (h : ∀ r, dp 16 r → σ1 r = σ r) : cell ad G σ1 16 = cell ad G σ 16 := by
  rw [cx_16, cx_16]
  rw [h 18 (Or.inl rfl)]
theorem cd_17 (ad : Nat → Nat) (G : Nat → Nat) {σ σ1 : Sg} (h : ∀ r, dp 17 r → σ1 r = σ r) : cell ad G σ1 17 = cell ad G σ 17 := by
  rw [cx_17, cx_17]
  rw [h 27 (Or.inl rfl)]
theorem cd_18 (ad : Nat → Nat) (G : Nat → Nat) {σ σ1 : Sg} (h : ∀ r, dp 18 r → σ1 r = σ r) : cell ad G σ1 18 = cell ad G σ 18 := by
  rw [cx_18, cx_18]
  rw [h 24 (Or.inl rfl)]
theorem cd_19 (ad : Nat → Nat) (G : Nat → Nat) {σ σ1 : Sg} (h : ∀ r, dp 19 r → σ1 r = σ r) : cell ad G σ1 19 = cell ad G σ 19 := by
  rw [cx_19, cx_19]
  rw [h 25 (Or.inl rfl)]
theorem cd_20 (ad : Nat → Nat) (G : Nat → Nat) {σ σ1 : Sg} (h : ∀ r, dp 20 r → σ1 r = σ r) : cell ad G σ1 20 = cell ad G σ 20 := by
  rw [cx_20, cx_20]
  rw [h 26 (Or.inl rfl)]
theorem cd_21 (ad : Nat → Nat) (G : Nat → Nat) {σ σ1 : Sg} (h : ∀ r, dp 21 r → σ1 r = σ r) : cell ad G σ1 21 = cell ad G σ 21 := by
  rw [cx_21, cx_21]
  rw [h 30 (Or.inl rfl)]
theorem cd_22 (ad : Nat → Nat) (G : Nat → Nat) {σ σ1 : Sg} (h : ∀ r, dp 22 r → σ1 r = σ r) : cell ad G σ1 22 = cell ad G σ 22 := by
  rw [cx_22, cx_22]
  rw [h 28 (Or.inl rfl)]
theorem cd_23 (ad : Nat → Nat) (G : Nat → Nat) {σ σ1 : Sg} (h : ∀ r, dp 23 r → σ1 r = σ r) : cell ad G σ1 23 = cell ad G σ 23 := by
  rw [cx_23, cx_23]
  rw [h 29 (Or.inl rfl)]
theorem cd_24 (ad : Nat → Nat) (G : Nat → Nat) {σ σ1 : Sg} (h : ∀ r, dp 24 r → σ1 r = σ r) : cell ad G σ1 24 = cell ad G σ 24 := by
  rw [cx_24, cx_24]
theorem cd_25 (ad : Nat → Nat) (G : Nat → Nat) {σ σ1 : Sg} (h : ∀ r, dp 25 r → σ1 r = σ r) : cell ad G σ1 25 = cell ad G σ 25 := by
  rw [cx_25, cx_25]
theorem cd_100 (ad : Nat → Nat) (G : Nat → Nat) {σ σ1 : Sg} (h : ∀ r, dp 100 r → σ1 r = σ r) : cell ad G σ1 100 = cell ad G σ 100 := by
  rw [cx_100, cx_100]
  simp only [h 202 (Or.inl rfl), h 203 (Or.inl rfl), h 205 (Or.inl rfl), h 206 (Or.inl rfl), h 207 (Or.inl rfl), h 208 (Or.inl rfl), h 209 (Or.inl rfl), h 219 (Or.inl rfl), h 220 (Or.inl rfl), h 221 (Or.inl rfl), h 222 (Or.inl rfl), h 223 (Or.inl rfl), h 227 (Or.inl rfl), h 230 (Or.inl rfl), h 231 (Or.inl rfl), h 232 (Or.inl rfl), h 233 (Or.inl rfl)]
theorem cd_101 (ad : Nat → Nat) (G : Nat → Nat) {σ σ1 : Sg} (h : ∀ r, dp 101 r → σ1 r = σ r) : cell ad G σ1 101 = cell ad G σ 101 := by
  rw [cx_101, cx_101]
  simp only [h 201 (Or.inl rfl), h 202 (Or.inr ⟨rfl, by decide⟩), h 203 (Or.inr ⟨rfl, by decide⟩), h 204 (Or.inl rfl)]
theorem cd_102 (ad : Nat → Nat) (G : Nat → Nat) {σ σ1 : Sg} (h : ∀ r, dp 102 r → σ1 r = σ r) : cell ad G σ1 102 = cell ad G σ 102 := by
  rw [cx_102, cx_102]
  simp only [h 228 (Or.inl rfl), h 229 (Or.inl rfl)]
theorem cd_103 (ad : Nat → Nat) (G : Nat → Nat) {σ σ1 : Sg} (h : ∀ r, dp 103 r → σ1 r = σ r) : cell ad G σ1 103 = cell ad G σ 103 := by
  rw [cx_103, cx_103]
theorem cd_116 (ad : Nat → Nat) (G : Nat → Nat) {σ σ1 : Sg} (h : ∀ r, dp 116 r → σ1 r = σ r) : cell ad G σ1 116 = cell ad G σ 116 := by
  rw [cx_116, cx_116]
  rw [h 210 (Or.inl rfl)]
theorem cd_117 (ad : Nat → Nat) (G : Nat → Nat) {σ σ1 : Sg} (h : ∀ r, dp 117 r → σ1 r = σ r) : cell ad G σ1 117 = cell ad G σ 117 := by
  rw [cx_117, cx_117]
theorem cd_182 (ad : Nat → Nat) (G : Nat → Nat) {σ σ1 : Sg} (h : ∀ r, dp 182 r → σ1 r = σ r) : cell ad G σ1 182 = cell ad G σ 182 := by
  rw [cx_182, cx_182]
theorem cd_195 (ad : Nat → Nat) (G : Nat → Nat) {σ σ1 : Sg} (h : ∀ r, dp 195 r → σ1 r = σ r) : cell ad G σ1 195 = cell ad G σ 195 := by
  rw [cx_195, cx_195]
theorem cd_201 (ad : Nat → Nat) (G : Nat → Nat) {σ σ1 : Sg} (h : ∀ r, dp 201 r → σ1 r = σ r) : cell ad G σ1 201 = cell ad G σ 201 := by
  rw [cx_201, cx_201]
  rw [h 224 (Or.inl rfl)]
theorem cd_202 (ad : Nat → Nat) (G : Nat → Nat) {σ σ1 : Sg} (h : ∀ r, dp 202 r → σ1 r = σ r) : cell ad G σ1 202 = cell ad G σ 202 := by
  rw [cx_202, cx_202]
theorem cell_dep (ad : Nat → Nat) (G : Nat → Nat) {σ σ1 : Sg} (k : Nat) (h : ∀ r, dp k r → σ1 r = σ r) (h2 : ∀ r i : Nat, dq k r i → σ1 r (i : Int) = σ r (i : Int)) (hk : k < 81 ∨ (100 ≤ k ∧ k < 233) ∨ k = 240) : cell ad G σ1 k = cell ad G σ k := by
  by_cases g1 : k < 26
  · match k, g1 with
    | 0, _ => exact cd_0 ad G h
    | 1, _ => exact cd_1 ad G h
    | 2, _ => exact cd_2 ad G h
    | 3, _ => exact cd_3 ad G h
    | 4, _ => exact cd_4 ad G h
    | 5, _ => exact cd_5 ad G h
    | 6, _ => exact cd_6 ad G h
    | 7, _ => exact cd_7 ad G h
    | 8, _ => exact cd_8 ad G h
    | 9, _ => exact cd_9 ad G h
    | 10, _ => exact cd_10 ad G h
    | 11, _ => exact cd_11 ad G h
    | 12, _ => exact cd_12 ad G h
    | 13, _ => exact cd_13 ad G h
    | 14, _ => exact cd_14 ad G h
    | 15, _ => exact cd_15 ad G h
    | 16, _ => exact cd_16 ad G h
    | 17, _ => exact cd_17 ad G h
    | 18, _ => exact cd_18 ad G h
    | 19, _ => exact cd_19 ad G h
    | 20, _ => exact cd_20 ad G h
    | 21, _ => exact cd_21 ad G h
    | 22, _ => exact cd_22 ad G h
    | 23, _ => exact cd_23 ad G h
    | 24, _ => exact cd_24 ad G h
    | 25, _ => exact cd_25 ad G h
    | n + 26, q => exact absurd q (by omega)
  by_cases g2 : k < 81
  · obtain ⟨j, i, hj, hi, rfl⟩ : ∃ j i, j < 11 ∧ i < 5 ∧ k = 26 + 5 * j + i := ⟨(k - 26) / 5, (k - 26) % 5, by omega, by omega, by omega⟩
    have ho := fun i hi => @own_list j i hj hi
    match i, hi with
    | 0, _ => rw [Nat.add_zero, cx_lo _ _ _ hj, cx_lo _ _ _ hj, h (40 + 6 * j + 4) (Or.inl (ho 4 (by decide))), h (40 + 6 * j + 5) (Or.inl (ho 5 (by decide)))]
    | 1, _ => rw [cx_lm _ _ _ hj, cx_lm _ _ _ hj, h (40 + 6 * j) (Or.inl (ho 0 (by decide)))]
    | 2, _ => rw [cx_lt _ _ _ hj, cx_lt _ _ _ hj, h (40 + 6 * j + 1) (Or.inl (ho 1 (by decide)))]
    | 3, _ => rw [cx_lr _ _ _ hj, cx_lr _ _ _ hj, h (40 + 6 * j + 2) (Or.inl (ho 2 (by decide)))]
    | 4, _ => rw [cx_lp _ _ _ hj, cx_lp _ _ _ hj, h (40 + 6 * j + 3) (Or.inl (ho 3 (by decide)))]
  have g3 : 100 ≤ k := by omega
  by_cases g4 : k < 104
  · obtain ⟨i, rfl⟩ : ∃ i, k = 100 + i := ⟨k - 100, by omega⟩
    match i, g4 with
    | 0, _ => exact cd_100 ad G h
    | 1, _ => exact cd_101 ad G h
    | 2, _ => exact cd_102 ad G h
    | 3, _ => exact cd_103 ad G h
    | n + 4, q => exact absurd q (by omega)
  by_cases g5 : k < 116
  · obtain ⟨i, hi, rfl⟩ : ∃ i, i < 12 ∧ k = 104 + i := ⟨k - 104, by omega, by omega⟩
    rw [cx_li _ _ _ hi, cx_li _ _ _ hi, h _ (Or.inl (own_li hi))]
  by_cases g6 : k = 116
  · subst g6; exact cd_116 ad G h
  by_cases g7 : k = 117
  · subst g7; exact cd_117 ad G h
  by_cases g8 : k < 182
  · obtain ⟨i, hi, rfl⟩ : ∃ i, i < 64 ∧ k = 118 + i := ⟨k - 118, by omega, by omega⟩
    rw [cx_ts _ _ _ hi, cx_ts _ _ _ hi, rowF_dep (fun j hj => h2 (211 + j) i (Or.inl ⟨rfl, by omega, by omega⟩))]
  by_cases g9 : k = 182
  · subst g9; exact cd_182 ad G h
  by_cases g10 : k < 195
  · obtain ⟨i, hi, rfl⟩ : ∃ i, i < 12 ∧ k = 183 + i := ⟨k - 183, by omega, by omega⟩
    rw [cx_tr _ _ _ hi, cx_tr _ _ _ hi, h _ (Or.inl (own_tr hi))]
  by_cases g11 : k = 195
  · subst g11; exact cd_195 ad G h
  by_cases g12 : k < 201
  · obtain ⟨i, hi, rfl⟩ : ∃ i, i < 5 ∧ k = 196 + i := ⟨k - 196, by omega, by omega⟩
    rw [cx_ki _ _ _ hi, cx_ki _ _ _ hi, rowF_dep (fun j hj => h2 (217 + j) i (Or.inr (Or.inl ⟨rfl, by omega, by omega⟩)))]
  by_cases g13 : k = 201
  · subst g13; exact cd_201 ad G h
  by_cases g14 : k = 202
  · subst g14; exact cd_202 ad G h
  by_cases g15 : k < 233
  · obtain ⟨i, hi, rfl⟩ : ∃ i, i < 30 ∧ k = 203 + i := ⟨k - 203, by omega, by omega⟩
    rw [cx_pg _ _ _ hi, cx_pg _ _ _ hi, rowF_dep (fun j hj => h2 (225 + j) i (Or.inr (Or.inr ⟨rfl, by omega, by omega⟩)))]
  have g16 : k = 240 := by omega
  subst g16
  rw [cx_240, cx_240, h 270 (Or.inl rfl)]
theorem oth_1 (ad : Nat → Nat) (G : Nat → Nat) (σ : Sg) {r k : Nat} (f : Fn) (ho : own r = k) (h : r ≠ 202 ∧ r ≠ 203 ∧ ¬ (211 ≤ r ∧ r < 215) ∧ ¬ (217 ≤ r ∧ r < 219) ∧ ¬ (225 ≤ r ∧ r < 227)) : ∀ j, (j < 81 ∨ (100 ≤ j ∧ j < 233) ∨ j = 240) → j ≠ k → cell ad G (upr σ r f) j = cell ad G σ j := by
  intro j hj hne
  refine cell_dep ad G j (fun q hq => upr_ne σ f ?_) (fun q i hq => ?_) hj
  · intro e
    subst e
    rcases hq with hq | ⟨-, hq⟩
    · exact hne (hq.symm.trans ho)
    · omega
  · rw [upr_ne]
    intro e
    subst e
    rcases hq with ⟨-, a, b⟩ | ⟨-, a, b⟩ | ⟨-, a, b⟩ <;> omega
theorem oth_2 (ad : Nat → Nat) (G : Nat → Nat) (σ : Sg) {r i b : Nat} (v : Int) (hb : (b = 118 ∧ 211 ≤ r ∧ r < 215 ∧ i < 64) ∨ (b = 196 ∧ 217 ≤ r ∧ r < 219 ∧ i < 5) ∨ (b = 203 ∧ 225 ≤ r ∧ r < 227 ∧ i < 30)) : ∀ j, (j < 81 ∨ (100 ≤ j ∧ j < 233) ∨ j = 240) → j ≠ b + i → cell ad G (upr σ r (ups (σ r) i v)) j = cell ad G σ j := by
  intro j hj hne
  have ho : own r = 999 := by
    rcases hb with ⟨-, h1, h2, -⟩ | ⟨-, h1, h2, -⟩ | ⟨-, h1, h2, -⟩
    · obtain rfl | rfl | rfl | rfl : r = 211 ∨ r = 212 ∨ r = 213 ∨ r = 214 := by omega
      all_goals rfl
    · obtain rfl | rfl : r = 217 ∨ r = 218 := by omega
      all_goals rfl
    · obtain rfl | rfl : r = 225 ∨ r = 226 := by omega
      all_goals rfl
  refine cell_dep ad G j (fun q hq => upr_ne σ _ ?_) (fun q n hq => ?_) hj
  · intro e
    subst e
    rcases hq with hq | ⟨-, hq⟩
    · omega
    · omega
  · by_cases e : q = r
    · subst e
      rw [upr_eq, ups_ne]
      intro e2
      have e3 : n = i := by omega
      subst e3
      unfold dq at hq
      omega
    · rw [upr_ne _ _ e]
end
section
/-- the tables' words that a callee may be told -/
def WA : List Cond := lw_tbl.filter goodWord
theorem wa_t (n : Nat) {w : Cond} (h : tables_1[n]? = some w) (hg : goodWord w = true) : w ∈ WA := List.mem_filter.mpr ⟨List.mem_append_right _ (List.mem_of_getElem? h), hg⟩
theorem wa_s (n : Nat) {q : MethodName × Nat} (h : lw_privs[n]? = some q) (hg : goodWord (.selects q.1.cls q.1 q.1) = true) : Cond.selects q.1.cls q.1 q.1 ∈ WA := List.mem_filter.mpr ⟨List.mem_append_left _ (List.mem_map.mpr ⟨q, List.mem_of_getElem? h, rfl⟩), hg⟩
def vld (k : Nat) : Prop := k < 81 ∨ (100 ≤ k ∧ k < 233) ∨ k = 240
def WG (ad : Nat → Nat) (G : Nat → Nat) (ids : List Nat) (σ : Sg) : va_W := ids.map (fun k => (ad k, cell ad G σ k))
theorem wg_get (ad : Nat → Nat) (G : Nat → Nat) {ids : List Nat} (σ : Sg) {q k : Nat} (h : ids[q]? = some k) : (WG ad G ids σ)[q]? = some (ad k, cell ad G σ k) := by
  unfold WG
  rw [List.getElem?_map, h]
  rfl
theorem wg_of (ad : Nat → Nat) (G : Nat → Nat) {ids : List Nat} (σ : Sg) {q : Nat} {x : Nat × va_E} (h : (WG ad G ids σ)[q]? = some x) : ∃ k, ids[q]? = some k ∧ x = (ad k, cell ad G σ k) := by
  unfold WG at h
  rw [List.getElem?_map] at h
  cases hq : ids[q]? with
  | none => rw [hq] at h; cases h
  | some k => rw [hq] at h; cases h; exact ⟨k, rfl, rfl⟩
theorem wg_set {ad : Nat → Nat} {G : Nat → Nat} {ids : List Nat} {σ σ1 : Sg} {A : Nat → Prop} {q k : Nat} (hq : ids[q]? = some k) (hD : va_D A (WG ad G ids σ)) (hf : ∀ j, j ∈ ids → j ≠ k → cell ad G σ1 j = cell ad G σ j) : (WG ad G ids σ).set q (ad k, cell ad G σ1 k) = WG ad G ids σ1 := by
  apply List.ext_getElem?
  intro n
  by_cases e : n = q
  · subst e
    rw [List.getElem?_set_self (List.getElem?_eq_some_iff.mp (wg_get ad G σ hq)).1, wg_get ad G σ1 hq]
  · rw [List.getElem?_set_ne (Ne.symm e)]
    cases hn : ids[n]? with
    | none => unfold WG; rw [List.getElem?_map, List.getElem?_map, hn]; rfl
    | some j =>
      rw [wg_get ad G σ hn, wg_get ad G σ1 hn, hf j (List.mem_of_getElem? hn)]
      intro ejk
      subst ejk
      exact e (hD.1 n q _ _ (wg_get ad G σ hn) (wg_get ad G σ hq) rfl)
theorem wd_any {ad : Nat → Nat} {G : Nat → Nat} {ids : List Nat} {σ : Sg} (σ1 : Sg) {A : Nat → Prop} (h : va_D A (WG ad G ids σ)) : va_D A (WG ad G ids σ1) := by
  refine ⟨fun i j p q hi hj e => ?_, fun i p hi => ?_⟩
  · obtain ⟨k1, h1, rfl⟩ := wg_of _ _ _ hi
    obtain ⟨k2, h2, rfl⟩ := wg_of _ _ _ hj
    exact h.1 i j _ _ (wg_get ad G σ h1) (wg_get ad G σ h2) e
  · obtain ⟨k1, h1, rfl⟩ := wg_of _ _ _ hi
    exact h.2 i (ad k1, cell ad G σ k1) (wg_get ad G σ h1)
def AN (ad : Nat → Nat) (ids : List Nat) (sz : Nat) : Nat → Prop := fun q => (∃ k, k ∈ ids ∧ q = ad k) ∨ sz ≤ q
theorem an_A {ad : Nat → Nat} {G : Nat → Nat} {ids : List Nat} {σ : Sg} {sz : Nat} {q : Nat} : va_A (WG ad G ids σ) sz q ↔ AN ad ids sz q := by
  constructor
  · rintro (⟨k, e, h⟩ | h)
    · obtain ⟨j, h1, h2⟩ := wg_of _ _ _ h
      exact Or.inl ⟨j, List.mem_of_getElem? h1, (Prod.ext_iff.mp h2).1⟩
    · exact Or.inr h
  · rintro (⟨k, hk, rfl⟩ | h)
    · obtain ⟨i, hi⟩ := List.getElem?_of_mem hk
      exact Or.inl ⟨i, _, wg_get ad G σ hi⟩
    · exact Or.inr h
theorem wd_self {ad : Nat → Nat} {G : Nat → Nat} {ids : List Nat} {σ : Sg} {sz : Nat} {A : Nat → Prop} (h : va_D A (WG ad G ids σ)) : va_D (AN ad ids sz) (WG ad G ids σ) := ⟨h.1, fun _ _ hk => an_A.mp (va_A.in hk)⟩
abbrev tysX (G : Nat → Nat) : List (ClassId × FieldType) := [(G 0, .int), (G 1, .long), (G 2, .boolean), (G 3, .object "KindlingTree$MoveList"), (G 4, .array .int)]
/-- the calls of nest mates' private methods, as linked -/
def NWL : List Cond := [.methodLinkNest RX11 35 yX2_init "KindlingTree", .methodLinkNest RX11 226 yX10_countWays "KindlingTree", .methodLinkNest RX11 229 yX10_worth "KindlingTree", .methodLinkNest RX11 235 yX10_worthBehind "KindlingTree", .methodLinkNest RX0 37 yX11_fromOf "KindlingTree", .methodLinkNest RX0 41 yX11_toOf "KindlingTree", .methodLinkNest RX7 74 yX6_lookOn "KindlingTree", .methodLinkNest RX10 59 yX6_lookOn "KindlingTree"]
def NW (U : State) : Prop := ∀ w ∈ NWL, va_Nw w U
theorem NW_warm {s U : State} (hW : s.WarmedH U.vm) (h : NW s) : NW U := by
  intro w hw
  have h1 := h w hw
  simp only [NWL, List.mem_cons, List.not_mem_nil, or_false] at hw
  rcases hw with rfl | rfl | rfl | rfl | rfl | rfl | rfl | rfl <;> exact va_Nw.warmM hW h1
theorem NW_vm {s U : State} (hv : s.vm = U.vm) (h : NW s) : NW U := by
  intro w hw
  have h1 := h w hw
  simp only [NWL, List.mem_cons, List.not_mem_nil, or_false] at hw
  rcases hw with rfl | rfl | rfl | rfl | rfl | rfl | rfl | rfl <;> exact va_tabs rfl hv h1
def Cx (p : Program) (s : State) (m : MethodId) (meth : Method) (c : Code) (args : Array Value) (cc : ByteArray) (nL : Nat) (own : String) (D : va_G) (G : Nat → Nat) : Prop :=
  p.tables.exec = Jvm.exec ∧ c.code = cc ∧ c.maxLocals = nL ∧ s.vm.findClass own = some m.cls ∧ (∀ w ∈ WA, w.before args s = true) ∧ va_K D vwCl (tysX G) s ∧ NW s ∧ meth.locks = false
/-- the heap at a point of a method: the world with the registers σ; what isn't A is as at the start -/
def XI (D : va_G) (ad : Nat → Nat) (G : Nat → Nat) (ids : List Nat) (A : Nat → Prop) (H0 H : Heap) (locs : List Loc) (σ : Sg) : Prop :=
  va_P D vwCl (WG ad G ids σ) H ∧ va_D A (WG ad G ids σ) ∧ va_S A H0 H locs ∧ (∀ k, k ∈ ids → vld k)
section XR
variable {p : Program} {l : Launch} {e : Env} {R : Room} {s : State} {m : MethodId} {args : Array Value} {below : List Frame} {meth : Method} {c : Code} {H : Heap} {locs : List Loc} {cells slots : Nat} {Q : State → Prop}
variable {cc : ByteArray} {nL : Nat} {own : String} {D : va_G} {ad : Nat → Nat} {G : Nat → Nat} {ids : List Nat} {A : Nat → Prop} {H0 : Heap} {σ : Sg} {pc : Nat} {ls : Array Slot} {rest : List Value}
theorem x_get (C : Cx p s m meth c args cc nL own D G) (hM : XI D ad G ids A H0 H locs σ) {k ci : Nat} (hk : k ∈ ids) {fs : List Value} {Rn : String} {T : u_T} {N : Nat} (hc : cell ad G σ k = .inr (ci, fs)) (hv : vwCl[ci]? = some (Rn, T, N)) (hin : ∀ w ∈ u_ws Rn T N, w ∈ WA) (f : Nat) (hf : f < N) {idx : Nat} (hw : Cond.fieldLink own idx (T f).1 (T f).2.1 (T f).2.2.1 ∈ WA) {v : Value} (hfv : fs[f]? = some v)
    (hdg : decode cc pc = .ok (.getfield idx, 3)) (kk : W p l e R s m args below meth c H locs cells slots Q (F0 m (pc + 3) ls (v :: rest))) : W p l e R s m args below meth c H locs cells slots Q (F0 m pc ls (.ref (ad k) :: rest)) := by
  obtain ⟨hx, hb, hml, hown, hts, hK, hN, hlk⟩ := C
  obtain ⟨q, hq⟩ := List.getElem?_of_mem hk
  have h1 := wg_get ad G σ hq
  rw [hc] at h1
  exact va_get hx hb hts hin hown hK hM.1 q h1 hv f hf (hts _ hw) (fun _ h9 => h9) hfv hdg kk
theorem x_put (C : Cx p s m meth c args cc nL own D G) (hM : XI D ad G ids A H0 H locs σ) {k ci : Nat} (hk : k ∈ ids) {fs : List Value} {Rn : String} {T : u_T} {N : Nat} (hc : cell ad G σ k = .inr (ci, fs)) (hv : vwCl[ci]? = some (Rn, T, N)) (hin : ∀ w ∈ u_ws Rn T N, w ∈ WA) (ty0 : Nat → FieldType) (hty : ∀ k, k < N → parseFieldDescriptor (T k).2.2.1 = some (ty0 k)) (hnm : ∀ a, a < N → ∀ b, b < N → a ≠ b → (T a).2.1 ≠ (T b).2.1) (f : Nat) (hf : f < N) {idx : Nat} (hw : Cond.fieldLink own idx (T f).1 (T f).2.1 (T f).2.2.1 ∈ WA) (hfin : (T f).2.2.2 = false) {v : Value} {ty : FieldType} (hd : parseFieldDescriptor (T f).2.2.1 = some ty) (hn : narrow ty v = v) (hfit : fits ty v = true) (hl : f < fs.length)
    (σ1 : Sg) (hnew : cell ad G σ1 k = .inr (ci, fs.set f v)) (hoth : ∀ j, vld j → j ≠ k → cell ad G σ1 j = cell ad G σ j)
    (hdg : decode cc pc = .ok (.putfield idx, 3)) (kk : ∀ (H1 : Heap) (locs1 : List Loc), XI D ad G ids A H0 H1 locs1 σ1 → W p l e R s m args below meth c H1 locs1 cells slots Q (F0 m (pc + 3) ls rest)) : W p l e R s m args below meth c H locs cells slots Q (F0 m pc ls (v :: .ref (ad k) :: rest)) := by
  obtain ⟨hx, hb, hml, hown, hts, hK, hN, hlk⟩ := C
  obtain ⟨q, hq⟩ := List.getElem?_of_mem hk
  have h1 := wg_get ad G σ hq
  rw [hc] at h1
  refine va_put hx hb hts hin ty0 hty hnm hown hK hM.1 hM.2.1 hM.2.2.1 q h1 hv f hf (hts _ hw) (fun _ h9 => h9) hfin hd hn hfit hl hdg (fun H1 locs1 hP hD hS => ?_)
  rw [← hnew, wg_set hq hM.2.1 (fun j hj hne => hoth j (hM.2.2.2 j hj) hne)] at hP hD
  exact kk H1 locs1 ⟨hP, hD, hS, hM.2.2.2⟩
/-- an element of a row of ints -/
theorem x_ald (C : Cx p s m meth c args cc nL own D G) (hM : XI D ad G ids A H0 H locs σ) {k : Nat} (hk : k ∈ ids) {n : Nat} {f : Nat → Int32} (hc : cell ad G σ k = .inl (G 0, n, .inl f)) {z : Int} (h0 : 0 ≤ z) (h1 : z < n) (hn : (n : Int) ≤ 2147483647) {v : Int} (hv : f z.toNat = iI v) (hdg : decode cc pc = .ok (.iaload, 1))
    (kk : W p l e R s m args below meth c H locs cells slots Q (F0 m (pc + 1) ls (.int (iI v) :: rest))) : W p l e R s m args below meth c H locs cells slots Q (F0 m pc ls (.int (iI z) :: .ref (ad k) :: rest)) := by
  obtain ⟨hx, hb, hml, hown, hts, hK, hN, hlk⟩ := C
  obtain ⟨q, hq⟩ := List.getElem?_of_mem hk
  have h2 := wg_get ad G σ hq
  rw [hc] at h2
  refine va_iald hx hb hK hM.1 q 0 h2 rfl (iI_in h0 h1 hn) hdg ?_
  rw [iI_clamp ⟨by omega, by omega⟩, hv]
  exact kk
theorem x_zald (C : Cx p s m meth c args cc nL own D G) (hM : XI D ad G ids A H0 H locs σ) {k : Nat} (hk : k ∈ ids) {n : Nat} {f : Nat → Int32} (hc : cell ad G σ k = .inl (G 2, n, .inl f)) {z : Int} (h0 : 0 ≤ z) (h1 : z < n) (hn : (n : Int) ≤ 2147483647) {v : Int} (hv : f z.toNat = iI v) (hdg : decode cc pc = .ok (.baload, 1))
    (kk : W p l e R s m args below meth c H locs cells slots Q (F0 m (pc + 1) ls (.int (iI v) :: rest))) : W p l e R s m args below meth c H locs cells slots Q (F0 m pc ls (.int (iI z) :: .ref (ad k) :: rest)) := by
  obtain ⟨hx, hb, hml, hown, hts, hK, hN, hlk⟩ := C
  obtain ⟨q, hq⟩ := List.getElem?_of_mem hk
  have h2 := wg_get ad G σ hq
  rw [hc] at h2
  refine va_zald hx hb hK hM.1 q 2 h2 rfl (iI_in h0 h1 hn) hdg ?_
  rw [iI_clamp ⟨by omega, by omega⟩, hv]
  exact kk
theorem x_lald (C : Cx p s m meth c args cc nL own D G) (hM : XI D ad G ids A H0 H locs σ) {k : Nat} (hk : k ∈ ids) {n : Nat} {f : Nat → Int64} (hc : cell ad G σ k = .inl (G 1, n, .inr (.inl f))) {z : Int} (h0 : 0 ≤ z) (h1 : z < n) (hn : (n : Int) ≤ 2147483647) {v : Int} (hv : f z.toNat = jI v) (hdg : decode cc pc = .ok (.laload, 1))
    (kk : W p l e R s m args below meth c H locs cells slots Q (F0 m (pc + 1) ls (.long (jI v) :: rest))) : W p l e R s m args below meth c H locs cells slots Q (F0 m pc ls (.int (iI z) :: .ref (ad k) :: rest)) := by
  obtain ⟨hx, hb, hml, hown, hts, hK, hN, hlk⟩ := C
  obtain ⟨q, hq⟩ := List.getElem?_of_mem hk
  have h2 := wg_get ad G σ hq
  rw [hc] at h2
  refine va_lald hx hb hK hM.1 q 1 h2 rfl (iI_in h0 h1 hn) hdg ?_
  rw [iI_clamp ⟨by omega, by omega⟩, hv]
  exact kk
theorem x_ast (C : Cx p s m meth c args cc nL own D G) (hM : XI D ad G ids A H0 H locs σ) {k : Nat} (hk : k ∈ ids) {n : Nat} {f : Nat → Int32} (hc : cell ad G σ k = .inl (G 0, n, .inl f)) {z v : Int} (h0 : 0 ≤ z) (h1 : z < n) (hn : (n : Int) ≤ 2147483647)
    (σ1 : Sg) (hnew : cell ad G σ1 k = .inl (G 0, n, .inl (upd f (iI z).toNatClampNeg (iI v)))) (hoth : ∀ j, vld j → j ≠ k → cell ad G σ1 j = cell ad G σ j) (hdg : decode cc pc = .ok (.iastore, 1))
    (kk : ∀ (H1 : Heap) (locs1 : List Loc), XI D ad G ids A H0 H1 locs1 σ1 → W p l e R s m args below meth c H1 locs1 cells slots Q (F0 m (pc + 1) ls rest)) : W p l e R s m args below meth c H locs cells slots Q (F0 m pc ls (.int (iI v) :: .int (iI z) :: .ref (ad k) :: rest)) := by
  obtain ⟨hx, hb, hml, hown, hts, hK, hN, hlk⟩ := C
  obtain ⟨q, hq⟩ := List.getElem?_of_mem hk
  have h2 := wg_get ad G σ hq
  rw [hc] at h2
  refine va_iast hx hb hK hM.1 hM.2.1 hM.2.2.1 q 0 h2 rfl (iI_in h0 h1 hn) hdg (fun H1 locs1 hP hD hS => ?_)
  rw [← hnew, wg_set hq hM.2.1 (fun j hj hne => hoth j (hM.2.2.2 j hj) hne)] at hP hD
  exact kk H1 locs1 ⟨hP, hD, hS, hM.2.2.2⟩
theorem x_zast (C : Cx p s m meth c args cc nL own D G) (hM : XI D ad G ids A H0 H locs σ) {k : Nat} (hk : k ∈ ids) {n : Nat} {f : Nat → Int32} (hc : cell ad G σ k = .inl (G 2, n, .inl f)) {z v : Int} (h0 : 0 ≤ z) (h1 : z < n) (hn : (n : Int) ≤ 2147483647) (hz : v = 0 ∨ v = 1)
    (σ1 : Sg) (hnew : cell ad G σ1 k = .inl (G 2, n, .inl (upd f (iI z).toNatClampNeg (iI v)))) (hoth : ∀ j, vld j → j ≠ k → cell ad G σ1 j = cell ad G σ j) (hdg : decode cc pc = .ok (.bastore, 1))
    (kk : ∀ (H1 : Heap) (locs1 : List Loc), XI D ad G ids A H0 H1 locs1 σ1 → W p l e R s m args below meth c H1 locs1 cells slots Q (F0 m (pc + 1) ls rest)) : W p l e R s m args below meth c H locs cells slots Q (F0 m pc ls (.int (iI v) :: .int (iI z) :: .ref (ad k) :: rest)) := by
  obtain ⟨hx, hb, hml, hown, hts, hK, hN, hlk⟩ := C
  obtain ⟨q, hq⟩ := List.getElem?_of_mem hk
  have h2 := wg_get ad G σ hq
  rw [hc] at h2
  refine va_zast hx hb hK hM.1 hM.2.1 hM.2.2.1 q 2 h2 rfl (iI_in h0 h1 hn) hdg (fun H1 locs1 hP hD hS => ?_)
  rw [nar_b hz, ← hnew, wg_set hq hM.2.1 (fun j hj hne => hoth j (hM.2.2.2 j hj) hne)] at hP hD
  exact kk H1 locs1 ⟨hP, hD, hS, hM.2.2.2⟩
theorem x_last (C : Cx p s m meth c args cc nL own D G) (hM : XI D ad G ids A H0 H locs σ) {k : Nat} (hk : k ∈ ids) {n : Nat} {f : Nat → Int64} (hc : cell ad G σ k = .inl (G 1, n, .inr (.inl f))) {z v : Int} (h0 : 0 ≤ z) (h1 : z < n) (hn : (n : Int) ≤ 2147483647)
    (σ1 : Sg) (hnew : cell ad G σ1 k = .inl (G 1, n, .inr (.inl (vp_updL f (iI z).toNatClampNeg (jI v))))) (hoth : ∀ j, vld j → j ≠ k → cell ad G σ1 j = cell ad G σ j) (hdg : decode cc pc = .ok (.lastore, 1))
    (kk : ∀ (H1 : Heap) (locs1 : List Loc), XI D ad G ids A H0 H1 locs1 σ1 → W p l e R s m args below meth c H1 locs1 cells slots Q (F0 m (pc + 1) ls rest)) : W p l e R s m args below meth c H locs cells slots Q (F0 m pc ls (.long (jI v) :: .int (iI z) :: .ref (ad k) :: rest)) := by
  obtain ⟨hx, hb, hml, hown, hts, hK, hN, hlk⟩ := C
  obtain ⟨q, hq⟩ := List.getElem?_of_mem hk
  have h2 := wg_get ad G σ hq
  rw [hc] at h2
  refine va_last hx hb hK hM.1 hM.2.1 hM.2.2.1 q 1 h2 rfl (iI_in h0 h1 hn) hdg (fun H1 locs1 hP hD hS => ?_)
  rw [← hnew, wg_set hq hM.2.1 (fun j hj hne => hoth j (hM.2.2.2 j hj) hne)] at hP hD
  exact kk H1 locs1 ⟨hP, hD, hS, hM.2.2.2⟩
theorem x_alen (C : Cx p s m meth c args cc nL own D G) (hM : XI D ad G ids A H0 H locs σ) {k : Nat} (hk : k ∈ ids) {g : Nat} (hg : g < 5) {x : vp_A} (hc : cell ad G σ k = .inl (G g, x)) {n : Nat} (hn : x.1 = n) (hdg : decode cc pc = .ok (.arraylength, 1))
    (kk : W p l e R s m args below meth c H locs cells slots Q (F0 m (pc + 1) ls (.int (iI n) :: rest))) : W p l e R s m args below meth c H locs cells slots Q (F0 m pc ls (.ref (ad k) :: rest)) := by
  obtain ⟨hx, hb, hml, hown, hts, hK, hN, hlk⟩ := C
  obtain ⟨q, hq⟩ := List.getElem?_of_mem hk
  have h2 := wg_get ad G σ hq
  rw [hc] at h2
  have e1 : Int32.ofNat x.1 = iI (n : Int) := by rw [hn]; unfold iI; exact (Int32.ofInt_eq_ofNat).symm
  match g, hg with
  | 0, _ => exact va_alen hx hb hK hM.1 q 0 h2 rfl e1 hdg kk
  | 1, _ => exact va_alen hx hb hK hM.1 q 1 h2 rfl e1 hdg kk
  | 2, _ => exact va_alen hx hb hK hM.1 q 2 h2 rfl e1 hdg kk
  | 3, _ => exact va_alen hx hb hK hM.1 q 3 h2 rfl e1 hdg kk
  | 4, _ => exact va_alen hx hb hK hM.1 q 4 h2 rfl e1 hdg kk
/-- a place of a row of references: a row of the world -/
theorem x_aald (C : Cx p s m meth c args cc nL own D G) (hM : XI D ad G ids A H0 H locs σ) {k : Nat} (hk : k ∈ ids) {g : Nat} (hg : g = 3 ∨ g = 4) {n : Nat} {f : Nat → Option Nat} (hc : cell ad G σ k = .inl (G g, n, .inr (.inr (.inr (.inr f))))) {z : Int} (h0 : 0 ≤ z) (h1 : z < n) (hn : (n : Int) ≤ 2147483647) {v : Nat} (hv : f z.toNat = some v) (hdg : decode cc pc = .ok (.aaload, 1))
    (kk : W p l e R s m args below meth c H locs cells slots Q (F0 m (pc + 1) ls (.ref v :: rest))) : W p l e R s m args below meth c H locs cells slots Q (F0 m pc ls (.int (iI z) :: .ref (ad k) :: rest)) := by
  obtain ⟨hx, hb, hml, hown, hts, hK, hN, hlk⟩ := C
  obtain ⟨q, hq⟩ := List.getElem?_of_mem hk
  have h2 := wg_get ad G σ hq
  rw [hc] at h2
  have hlt : (iI z).toNatClampNeg < n := by rw [iI_clamp ⟨by omega, by omega⟩]; omega
  have e1 : f (iI z).toNatClampNeg = some v := by rw [iI_clamp ⟨by omega, by omega⟩, hv]
  rcases hg with rfl | rfl
  · refine va_aldq hx hb hK hM.1 q 3 h2 rfl (iI_in h0 h1 hn) hdg ?_
    rw [e1]
    exact kk
  · exact W.aald (v := .ref v) (ty := .array .int) hx hb (hM.1 q _ h2) ((hK.2 4 _ rfl).1 n (fun j => va_rf (f j))) rfl (fun q => by cases q) (by show ¬ (iI z < 0 ∨ (arrV _ _ _).slots.size ≤ _); rw [arrV_size]; exact iI_in h0 h1 hn) (by show (arrV _ _ _).slots[_]? = _; rw [arrV_read _ _ hlt, e1]; rfl) rfl rfl hdg kk
end XR
end
section
/-! contracts over the world, entries, ends, calls -/
abbrev rmh (h : Nat) : Room := { frames := h, cells := 0, slots := 0, locals := 40 * h }
def PB (D : va_G) (ad : Nat → Nat) (G : Nat → Nat) (ids : List Nat) (σ : Sg) (sz : Nat) : State → Prop := fun U =>
  U.heap.size = sz ∧ va_P D vwCl (WG ad G ids σ) U.heap ∧ (va_K D vwCl (tysX G) U ∧ NW U) ∧ va_D (fun _ => True) (WG ad G ids σ) ∧ ∀ k, k ∈ ids → vld k
abbrev QI (D : va_G) (ad : Nat → Nat) (G : Nat → Nat) (ids : List Nat) (post : Int → Sg → Prop) (sz : Nat) : Array Value → State → Outcome → State → Prop :=
  va_Qi (fun r (u : Int × Sg) => r = iI u.1 ∧ post u.1 u.2) (fun u t => va_P D vwCl (WG ad G ids u.2) t.heap) (AN ad ids sz)
abbrev QL (D : va_G) (ad : Nat → Nat) (G : Nat → Nat) (ids : List Nat) (post : Int → Sg → Prop) (sz : Nat) : Array Value → State → Outcome → State → Prop :=
  va_Ql (fun r (u : Int × Sg) => r = jI u.1 ∧ post u.1 u.2) (fun u t => va_P D vwCl (WG ad G ids u.2) t.heap) (AN ad ids sz)
abbrev QV (D : va_G) (ad : Nat → Nat) (G : Nat → Nat) (ids : List Nat) (post : Sg → Prop) (sz : Nat) : Array Value → State → Outcome → State → Prop :=
  va_Qv post (fun u t => va_P D vwCl (WG ad G ids u) t.heap) (AN ad ids sz)
abbrev QR (D : va_G) (ad : Nat → Nat) (G : Nat → Nat) (ids : List Nat) (post : Nat → Sg → Prop) (sz : Nat) : Array Value → State → Outcome → State → Prop :=
  va_Qr (fun (u : Nat × Sg) => post u.1 u.2) (fun u a t => a = ad u.1 ∧ va_P D vwCl (WG ad G ids u.2) t.heap) (AN ad ids sz)
/-- method y, from the registers σ, at the height h (frames that it may open) -/
def MET (l : Launch) (y : MethodName) (b : ByteArray) (nL : Nat) (ret : Option FieldType) (h : Nat) (av : List Value) (D : va_G) (ad : Nat → Nat) (G : Nat → Nat) (ids : List Nat) (σ : Sg) (Qc : Nat → Array Value → State → Outcome → State → Prop) : Prop :=
  ∀ sz : Nat, Met l y (Cond.code y b nL ret :: WA) (rmh h) (va_Pc av (PB D ad G ids σ sz)) (Qc sz) 0 0 (AN ad ids sz)
theorem x_enter {l : Launch} {y : MethodName} {b : ByteArray} {nL : Nat} {ret : Option FieldType} {h : Nat} {av : List Value} {D : va_G} {ad : Nat → Nat} {G : Nat → Nat} {ids : List Nat} {σ : Sg} {Qc : Nat → Array Value → State → Outcome → State → Prop} (hy : plainName y.cls = true) (hlen : (lg_sl av).length ≤ nL)
    (body : ∀ (p : Program) (e : Env) (s : State) (m : MethodId) (args : Array Value) (below : List Frame) (meth : Method) (c : Code), Cx p s m meth c args b nL y.cls D G → meth.sig.returnType = ret → ∀ ls : Array Slot, lv_has ls nL (lv_args 0 av) → XI D ad G ids (AN ad ids s.heap.size) s.heap s.heap [] σ →
      W p l e (rmh h) s m args below meth c s.heap [] 0 0 (MQ below (Qc s.heap.size) args s 0 0 (AN ad ids s.heap.size)) (F0 m 0 ls [])) : MET l y b nL ret h av D ad G ids σ Qc := by
  intro sz
  refine Met.ofW (cc := b) (maxL := nL) (ret := ret) hy rfl ?_
  intro p e s m args below meth c s₁ B hml hv
  obtain ⟨rfl, hsz, hP, ⟨hK, hN⟩, hD, hV⟩ := hv
  have hts := atoms_spec (ws := Cond.code y b nL ret :: WA) B.pre
  subst hsz
  rw [lg_entry_eq]
  exact body p e s m _ below meth c ⟨B.exec, B.bytes, hml, findClass_of_methodNamed B.named, fun w hw => hts w (List.mem_cons_of_mem _ hw), hK, hN, B.notSynchronized⟩ B.returns _ (lv_entry av hlen) ⟨hP, wd_self hD, va_S.rf, hV⟩
section XE
variable {p : Program} {l : Launch} {e : Env} {R : Room} {s : State} {m : MethodId} {args : Array Value} {below : List Frame} {meth : Method} {c : Code} {H : Heap} {locs : List Loc} {cells slots : Nat} {Q : State → Prop}
variable {cc : ByteArray} {nL : Nat} {own : String} {D : va_G} {ad : Nat → Nat} {G : Nat → Nat} {ids : List Nat} {σ : Sg} {pc : Nat} {ls : Array Slot} {rest : List Value}
theorem x_iret (C : Cx p s m meth c args cc nL own D G) (hr : meth.sig.returnType = some .int) (hM : XI D ad G ids (AN ad ids s.heap.size) s.heap H locs σ) {z : Int} {post : Int → Sg → Prop} (hp : post z σ) (hdg : decode cc pc = .ok (.ireturn, 1)) : W p l e R s m args below meth c H locs cells slots (MQ below (QI D ad G ids post s.heap.size) args s cells slots (AN ad ids s.heap.size)) (F0 m pc ls [.int (iI z)]) :=
  W.iret C.1 C.2.1 hr (fun t ht hW => ⟨⟨iI z, (z, σ), rfl, ⟨rfl, hp⟩, by show va_P D vwCl (WG ad G ids σ) t.heap; rw [ht]; exact hM.1⟩, hM.2.2.1.F ht⟩) hM.2.2.1.2.2 hdg C.2.2.2.2.2.2.2
theorem x_zret (C : Cx p s m meth c args cc nL own D G) (hr : meth.sig.returnType = some .boolean) (hM : XI D ad G ids (AN ad ids s.heap.size) s.heap H locs σ) {z : Int} (hz : z = 0 ∨ z = 1) {post : Int → Sg → Prop} (hp : post z σ) (hdg : decode cc pc = .ok (.ireturn, 1)) : W p l e R s m args below meth c H locs cells slots (MQ below (QI D ad G ids post s.heap.size) args s cells slots (AN ad ids s.heap.size)) (F0 m pc ls [.int (iI z)]) :=
  W.zret C.1 C.2.1 hr (nar_z hz) (fun t ht hW => ⟨⟨iI z, (z, σ), rfl, ⟨rfl, hp⟩, by show va_P D vwCl (WG ad G ids σ) t.heap; rw [ht]; exact hM.1⟩, hM.2.2.1.F ht⟩) hM.2.2.1.2.2 hdg C.2.2.2.2.2.2.2
theorem x_lret (C : Cx p s m meth c args cc nL own D G) (hr : meth.sig.returnType = some .long) (hM : XI D ad G ids (AN ad ids s.heap.size) s.heap H locs σ) {z : Int} {post : Int → Sg → Prop} (hp : post z σ) (hdg : decode cc pc = .ok (.lreturn, 1)) : W p l e R s m args below meth c H locs cells slots (MQ below (QL D ad G ids post s.heap.size) args s cells slots (AN ad ids s.heap.size)) (F0 m pc ls [.long (jI z)]) :=
  W.lret C.1 C.2.1 hr (fun t ht hW => ⟨⟨jI z, (z, σ), rfl, ⟨rfl, hp⟩, by show va_P D vwCl (WG ad G ids σ) t.heap; rw [ht]; exact hM.1⟩, hM.2.2.1.F ht⟩) hM.2.2.1.2.2 hdg C.2.2.2.2.2.2.2
theorem x_vret (C : Cx p s m meth c args cc nL own D G) (hr : meth.sig.returnType = none) (hM : XI D ad G ids (AN ad ids s.heap.size) s.heap H locs σ) {post : Sg → Prop} (hp : post σ) (hdg : decode cc pc = .ok (.return_, 1)) : W p l e R s m args below meth c H locs cells slots (MQ below (QV D ad G ids post s.heap.size) args s cells slots (AN ad ids s.heap.size)) (F0 m pc ls []) :=
  W.vret C.1 C.2.1 hr (fun t ht hW => ⟨⟨σ, rfl, hp, by show va_P D vwCl (WG ad G ids σ) t.heap; rw [ht]; exact hM.1⟩, hM.2.2.1.F ht⟩) hM.2.2.1.2.2 hdg C.2.2.2.2.2.2.2
theorem x_aret (C : Cx p s m meth c args cc nL own D G) {rt : FieldType} (hr : meth.sig.returnType = some rt) (hrt : (∃ n, rt = .object n) ∨ ∃ t, rt = .array t) (hM : XI D ad G ids (AN ad ids s.heap.size) s.heap H locs σ) {k : Nat} {post : Nat → Sg → Prop} (hp : post k σ) (hdg : decode cc pc = .ok (.areturn, 1)) : W p l e R s m args below meth c H locs cells slots (MQ below (QR D ad G ids post s.heap.size) args s cells slots (AN ad ids s.heap.size)) (F0 m pc ls [.ref (ad k)]) :=
  W.aret C.1 C.2.1 hr hrt (Or.inr ⟨_, rfl⟩) (fun t ht hW => ⟨⟨(k, σ), ad k, rfl, hp, rfl, by show va_P D vwCl (WG ad G ids σ) t.heap; rw [ht]; exact hM.1⟩, hM.2.2.1.F ht⟩) hM.2.2.1.2.2 hdg C.2.2.2.2.2.2.2
theorem pb_blind {av : List Value} {sz : Nat} : FrameBlind (va_Pc av (PB D ad G ids σ sz)) := by
  intro a U g mk q
  obtain ⟨q0, q1, qP, ⟨qK, qN⟩, qD, qV⟩ := q
  exact ⟨q0, q1, qP, ⟨va_K.moved (u := U) (U := U.calling g mk a) (Vm.Alike.refl U.vm) qK, NW_vm (s := U) (U := U.calling g mk a) rfl qN⟩, qD, qV⟩
theorem pb_at (C : Cx p s m meth c args cc nL own D G) {A : Nat → Prop} {H0 : Heap} (hM : XI D ad G ids A H0 H locs σ) {av : List Value} : ∀ U : State, U.heap = H → s.WarmedH U.vm → va_Pc av (PB D ad G ids σ H.size) av.toArray U := by
  intro U hU hW
  obtain ⟨hx, hb, hml, hown, hts, hK, hN, hlk⟩ := C
  exact ⟨rfl, by rw [hU], by rw [hU]; exact hM.1, ⟨va_K.moved hW.alike hK, NW_warm hW hN⟩, hM.2.1.weaken (fun _ _ _ _ => trivial), hM.2.2.2⟩
/-- the words of a call, by program -/
def CWd (own : String) (idx : Nat) (y : MethodName) (b : ByteArray) (nL : Nat) (ret : Option FieldType) (n : Nat) : Prop :=
  (Cond.methodLink own idx y ∈ WA ∧ Cond.instanceMethod y ∈ WA ∧ Cond.selects y.cls y y ∈ WA ∧ Cond.initialized y.cls ∈ WA ∧ Cond.code y b nL ret ∈ WA) ∧ (y.cls ≠ "java/lang/invoke/MethodHandle" ∧ y.cls ≠ "java/lang/invoke/VarHandle" ∧ (parseMethodDescriptor y.desc).map (fun d => d.parameters.length) = some n) ∧ nL ≤ 21
def CWs (own : String) (idx : Nat) (y : MethodName) (b : ByteArray) (nL : Nat) (ret : Option FieldType) (n : Nat) : Prop :=
  (Cond.methodLink own idx y ∈ WA ∧ Cond.static y ∈ WA ∧ Cond.initialized own ∈ WA ∧ Cond.code y b nL ret ∈ WA) ∧ (y.cls = own ∧ y.cls ≠ "java/lang/invoke/MethodHandle" ∧ y.cls ≠ "java/lang/invoke/VarHandle" ∧ (parseMethodDescriptor y.desc).map (fun d => d.parameters.length) = some n) ∧ nL ≤ 21
def CWn (own : String) (idx : Nat) (y : MethodName) (b : ByteArray) (nL : Nat) (ret : Option FieldType) (n : Nat) : Prop :=
  (Cond.methodLinkNest own idx y "KindlingTree" ∈ NWL ∧ Cond.instanceMethod y ∈ WA ∧ Cond.selects y.cls y y ∈ WA ∧ Cond.initialized y.cls ∈ WA ∧ Cond.code y b nL ret ∈ WA) ∧ (y.cls ≠ "java/lang/invoke/MethodHandle" ∧ y.cls ≠ "java/lang/invoke/VarHandle" ∧ (parseMethodDescriptor y.desc).map (fun d => d.parameters.length) = some n) ∧ nL ≤ 21
def CWns (own : String) (idx : Nat) (y : MethodName) (b : ByteArray) (nL : Nat) (ret : Option FieldType) (n : Nat) : Prop :=
  (Cond.methodLinkNest own idx y "KindlingTree" ∈ NWL ∧ Cond.static y ∈ WA ∧ Cond.initialized y.cls ∈ WA ∧ Cond.code y b nL ret ∈ WA) ∧ (y.cls ≠ "java/lang/invoke/MethodHandle" ∧ y.cls ≠ "java/lang/invoke/VarHandle" ∧ (parseMethodDescriptor y.desc).map (fun d => d.parameters.length) = some n) ∧ nL ≤ 21
theorem wsL_good : WA.all goodWord = true := List.all_eq_true.mpr (fun w h => (List.mem_filter.mp h).2)
theorem gin_code {y : MethodName} {b : ByteArray} {nL : Nat} {ret : Option FieldType} (hc : Cond.code y b nL ret ∈ WA) : GoodIn WA (Cond.code y b nL ret :: WA) := by
  have hg := List.all_eq_true.mp wsL_good
  intro w hw
  rcases List.mem_cons.mp hw with rfl | hw
  · exact ⟨hc, good_of_word (hg _ hc)⟩
  · exact ⟨hw, good_of_word (hg _ hw)⟩
theorem gin_one {w : Cond} (h : w ∈ WA) : w ∈ WA ∧ ((w.onTables && w.keeps) = true ∨ ∃ ty, w = .arrayClass ty) := ⟨h, good_of_word (List.all_eq_true.mp wsL_good _ h)⟩
theorem x_runV (C : Cx p s m meth c args cc nL own D G) {A : Nat → Prop} {H0 : Heap} {h h' idx n nL' k ci : Nat} (hh : h' < h) {y : MethodName} {b : ByteArray} {ret : Option FieldType} {As : List Value} {Qc : Nat → Array Value → State → Outcome → State → Prop} (cw : CWd own idx y b nL' ret n)
    (hc : MET l y b nL' ret h' (.ref (ad k) :: As) D ad G ids σ Qc) (hM : XI D ad G ids A H0 H locs σ) (hk : k ∈ ids) {fs : List Value} {q : vw_C} (hcell : cell ad G σ k = .inr (ci, fs)) (hcl : vwCl[ci]? = some q) (hq1 : q.1 = y.cls) (hn : As.length = n) {st : List Value} (hst : st = As.reverse ++ .ref (ad k) :: rest) (hW : (rest.map fun v => v.category).sum ≤ 8) (hls : ls.size = nL)
    (hdg : decode cc pc = .ok (.invokevirtual idx, 3)) : va_Run p l e (rmh h) s m args below meth c H locs 0 0 0 0 (F0 m pc ls st) rest (Qc H.size (Value.ref (ad k) :: As).toArray) (AN ad ids H.size) := by
  obtain ⟨hx, hb, hml, hown, hts, hK, hN, hlk⟩ := id C
  obtain ⟨⟨w1, w2, w3, w4, w5⟩, hd, hL⟩ := cw
  obtain ⟨i, hi⟩ := List.getElem?_of_mem hk
  have h2 := wg_get ad G σ hi
  rw [hcell] at h2
  have hg : GoodIn WA (wsV own idx y.cls y (Cond.code y b nL' ret :: WA)) := by
    intro w hw
    unfold wsV at hw
    rcases List.mem_append.mp hw with hw | hw
    · simp only [List.mem_cons, List.not_mem_nil, or_false] at hw
      rcases hw with rfl | rfl | rfl | rfl
      · exact gin_one w1
      · exact gin_one w2
      · exact gin_one w3
      · exact gin_one w4
    · exact gin_code w5 w hw
  have hrc := va_recv hK hM.1 hcl h2
  rw [hq1] at hrc
  exact va_runV (As := As) (rest := rest) (nL := nL) (own := own) (C := y.cls) ⟨hx, hb, hml, hown, hts⟩ (hc H.size) (cwV n hts hg rfl rfl rfl ⟨rfl, hd⟩ ⟨hh, by show 8 + (nL' + 11) + 40 * h' ≤ 40 * h; omega⟩) ⟨pb_blind, hrc, pb_at C hM⟩ rfl hn hls hst (lv_room hW) hdg ⟨Nat.le_refl _, Nat.le_refl _⟩
theorem x_runS (C : Cx p s m meth c args cc nL own D G) {A : Nat → Prop} {H0 : Heap} {h h' idx n nL' : Nat} (hh : h' < h) {y : MethodName} {b : ByteArray} {ret : Option FieldType} {As : List Value} {Qc : Nat → Array Value → State → Outcome → State → Prop} (cw : CWs own idx y b nL' ret n)
    (hc : MET l y b nL' ret h' As D ad G ids σ Qc) (hM : XI D ad G ids A H0 H locs σ) (hn : As.length = n) {st : List Value} (hst : st = As.reverse ++ rest) (hW : (rest.map fun v => v.category).sum ≤ 8) (hls : ls.size = nL)
    (hdg : decode cc pc = .ok (.invokestatic idx, 3)) : va_Run p l e (rmh h) s m args below meth c H locs 0 0 0 0 (F0 m pc ls st) rest (Qc H.size As.toArray) (AN ad ids H.size) := by
  obtain ⟨hx, hb, hml, hown, hts, hK, hN, hlk⟩ := id C
  obtain ⟨⟨w1, w2, w4, w5⟩, hd, hL⟩ := cw
  have hg : GoodIn WA (wsS own idx y (Cond.code y b nL' ret :: WA)) := by
    intro w hw
    unfold wsS at hw
    rcases List.mem_append.mp hw with hw | hw
    · simp only [List.mem_cons, List.not_mem_nil, or_false] at hw
      rcases hw with rfl | rfl | rfl
      · exact gin_one w1
      · exact gin_one w2
      · exact gin_one w4
    · exact gin_code w5 w hw
  exact va_runS (As := As) (rest := rest) (nL := nL) (own := own) ⟨hx, hb, hml, hown, hts⟩ (hc H.size) (cwS n hts hg rfl rfl rfl hd ⟨hh, by show 8 + (nL' + 11) + 40 * h' ≤ 40 * h; omega⟩) ⟨pb_blind, pb_at C hM⟩ rfl hn hls hst (lv_room hW) hdg ⟨Nat.le_refl _, Nat.le_refl _⟩
theorem x_runN (C : Cx p s m meth c args cc nL own D G) {A : Nat → Prop} {H0 : Heap} {h h' idx n nL' k ci : Nat} (hh : h' < h) {y : MethodName} {b : ByteArray} {ret : Option FieldType} {As : List Value} {Qc : Nat → Array Value → State → Outcome → State → Prop} (cw : CWn own idx y b nL' ret n)
    (hc : MET l y b nL' ret h' (.ref (ad k) :: As) D ad G ids σ Qc) (hM : XI D ad G ids A H0 H locs σ) (hk : k ∈ ids) {fs : List Value} {q : vw_C} (hcell : cell ad G σ k = .inr (ci, fs)) (hcl : vwCl[ci]? = some q) (hq1 : q.1 = y.cls) (hn : As.length = n) {st : List Value} (hst : st = As.reverse ++ .ref (ad k) :: rest) (hW : (rest.map fun v => v.category).sum ≤ 8) (hls : ls.size = nL)
    (hdg : decode cc pc = .ok (.invokevirtual idx, 3)) : va_Run p l e (rmh h) s m args below meth c H locs 0 0 0 0 (F0 m pc ls st) rest (Qc H.size (Value.ref (ad k) :: As).toArray) (AN ad ids H.size) := by
  obtain ⟨hx, hb, hml, hown, hts, hK, hN, hlk⟩ := id C
  obtain ⟨⟨w1, w2, w3, w4, w5⟩, hd, hL⟩ := cw
  obtain ⟨i, hi⟩ := List.getElem?_of_mem hk
  have h2 := wg_get ad G σ hi
  rw [hcell] at h2
  have hrc := va_recv hK hM.1 hcl h2
  rw [hq1] at hrc
  exact va_runVN (As := As) (rest := rest) (nL := nL) (own := own) (C := y.cls) (host := "KindlingTree") ⟨hx, hb, hml, hown, hts⟩ (hc H.size) ⟨va_cnB n hts (gin_code w5) rfl rfl rfl (hN _ w1) (hts _ w4) hd ⟨hh, by show 8 + (nL' + 11) + 40 * h' ≤ 40 * h; omega⟩, hts _ w2, hts _ w3⟩ ⟨pb_blind, hrc, pb_at C hM⟩ rfl hn hls hst (lv_room hW) hdg ⟨Nat.le_refl _, Nat.le_refl _⟩
theorem x_runNs (C : Cx p s m meth c args cc nL own D G) {A : Nat → Prop} {H0 : Heap} {h h' idx n nL' : Nat} (hh : h' < h) {y : MethodName} {b : ByteArray} {ret : Option FieldType} {As : List Value} {Qc : Nat → Array Value → State → Outcome → State → Prop} (cw : CWns own idx y b nL' ret n)
    (hc : MET l y b nL' ret h' As D ad G ids σ Qc) (hM : XI D ad G ids A H0 H locs σ) (hn : As.length = n) {st : List Value} (hst : st = As.reverse ++ rest) (hW : (rest.map fun v => v.category).sum ≤ 8) (hls : ls.size = nL)
    (hdg : decode cc pc = .ok (.invokestatic idx, 3)) : va_Run p l e (rmh h) s m args below meth c H locs 0 0 0 0 (F0 m pc ls st) rest (Qc H.size As.toArray) (AN ad ids H.size) := by
  obtain ⟨hx, hb, hml, hown, hts, hK, hN, hlk⟩ := id C
  obtain ⟨⟨w1, w2, w4, w5⟩, hd, hL⟩ := cw
  exact va_runSN (As := As) (rest := rest) (nL := nL) (own := own) (host := "KindlingTree") ⟨hx, hb, hml, hown, hts⟩ (hc H.size) ⟨va_cnB n hts (gin_code w5) rfl rfl rfl (hN _ w1) (hts _ w4) hd ⟨hh, by show 8 + (nL' + 11) + 40 * h' ≤ 40 * h; omega⟩, hts _ w2, trivial⟩ ⟨pb_blind, pb_at C hM⟩ rfl hn hls hst (lv_room hW) hdg ⟨Nat.le_refl _, Nat.le_refl _⟩
theorem an_le {ad : Nat → Nat} {ids : List Nat} {a b : Nat} (h : a ≤ b) {q : Nat} (hq : AN ad ids b q) : AN ad ids a q := hq.elim Or.inl (fun h2 => Or.inr (Nat.le_trans h h2))
theorem x_ci {st0 : List Value} {a : Array Value} {post : Int → Sg → Prop} (hr : va_Run p l e R s m args below meth c H locs 0 0 0 0 (F0 m pc ls st0) rest (QI D ad G ids post H.size a) (AN ad ids H.size)) (hM : XI D ad G ids (AN ad ids s.heap.size) s.heap H locs σ)
    (kk : ∀ (z : Int) (σ1 : Sg) (H1 : Heap) (locs1 : List Loc), post z σ1 → XI D ad G ids (AN ad ids s.heap.size) s.heap H1 locs1 σ1 → W p l e R s m args below meth c H1 locs1 0 0 Q (F0 m (pc + 3) ls (.int (iI z) :: rest))) : W p l e R s m args below meth c H locs 0 0 Q (F0 m pc ls st0) := by
  refine va_calli hr hM.2.2.1 (fun q _ h => an_le hM.2.2.1.1 h) (fun q h => an_le hM.2.2.1.1 h) (fun r u t H1 locs1 ht hvm hp hB hz hk hS => ?_)
  obtain ⟨rfl, hp⟩ := hp
  rw [ht] at hB
  exact kk u.1 u.2 H1 locs1 hp ⟨hB, wd_any _ hM.2.1, hS, hM.2.2.2⟩
theorem x_cl {st0 : List Value} {a : Array Value} {post : Int → Sg → Prop} (hr : va_Run p l e R s m args below meth c H locs 0 0 0 0 (F0 m pc ls st0) rest (QL D ad G ids post H.size a) (AN ad ids H.size)) (hM : XI D ad G ids (AN ad ids s.heap.size) s.heap H locs σ)
    (kk : ∀ (z : Int) (σ1 : Sg) (H1 : Heap) (locs1 : List Loc), post z σ1 → XI D ad G ids (AN ad ids s.heap.size) s.heap H1 locs1 σ1 → W p l e R s m args below meth c H1 locs1 0 0 Q (F0 m (pc + 3) ls (.long (jI z) :: rest))) : W p l e R s m args below meth c H locs 0 0 Q (F0 m pc ls st0) := by
  refine va_calll hr hM.2.2.1 (fun q _ h => an_le hM.2.2.1.1 h) (fun q h => an_le hM.2.2.1.1 h) (fun r u t H1 locs1 ht hvm hp hB hz hk hS => ?_)
  obtain ⟨rfl, hp⟩ := hp
  rw [ht] at hB
  exact kk u.1 u.2 H1 locs1 hp ⟨hB, wd_any _ hM.2.1, hS, hM.2.2.2⟩
theorem x_cv {st0 : List Value} {a : Array Value} {post : Sg → Prop} (hr : va_Run p l e R s m args below meth c H locs 0 0 0 0 (F0 m pc ls st0) rest (QV D ad G ids post H.size a) (AN ad ids H.size)) (hM : XI D ad G ids (AN ad ids s.heap.size) s.heap H locs σ)
    (kk : ∀ (σ1 : Sg) (H1 : Heap) (locs1 : List Loc), post σ1 → XI D ad G ids (AN ad ids s.heap.size) s.heap H1 locs1 σ1 → W p l e R s m args below meth c H1 locs1 0 0 Q (F0 m (pc + 3) ls rest)) : W p l e R s m args below meth c H locs 0 0 Q (F0 m pc ls st0) := by
  refine va_callv hr hM.2.2.1 (fun q _ h => an_le hM.2.2.1.1 h) (fun q h => an_le hM.2.2.1.1 h) (fun u t H1 locs1 ht hvm hp hB hz hk hS => ?_)
  rw [ht] at hB
  exact kk u H1 locs1 hp ⟨hB, wd_any _ hM.2.1, hS, hM.2.2.2⟩
theorem x_cr {st0 : List Value} {a : Array Value} {post : Nat → Sg → Prop} (hr : va_Run p l e R s m args below meth c H locs 0 0 0 0 (F0 m pc ls st0) rest (QR D ad G ids post H.size a) (AN ad ids H.size)) (hM : XI D ad G ids (AN ad ids s.heap.size) s.heap H locs σ)
    (kk : ∀ (k : Nat) (σ1 : Sg) (H1 : Heap) (locs1 : List Loc), post k σ1 → XI D ad G ids (AN ad ids s.heap.size) s.heap H1 locs1 σ1 → W p l e R s m args below meth c H1 locs1 0 0 Q (F0 m (pc + 3) ls (.ref (ad k) :: rest))) : W p l e R s m args below meth c H locs 0 0 Q (F0 m pc ls st0) := by
  refine va_callr hr hM.2.2.1 (fun q _ h => an_le hM.2.2.1.1 h) (fun q h => an_le hM.2.2.1.1 h) (fun u a0 t H1 locs1 ht hvm hp hB hz hk hS => ?_)
  obtain ⟨rfl, hB⟩ := hB
  rw [ht] at hB
  exact kk u.1 u.2 H1 locs1 hp ⟨hB, wd_any _ hM.2.1, hS, hM.2.2.2⟩
end XE
end
section
theorem jI_div {a b : Int} (ha : JR a) (hb : JR b) (h0 : 0 ≤ a) : jI a / jI b = jI (a.tdiv b) := by
  apply Int64.toInt_inj.mp
  rw [Int64.toInt_div, jI_toInt ha, jI_toInt hb]
  have h : JR (a.tdiv b) := by
    obtain ⟨h1, h2⟩ := ha
    have e3 : (a.tdiv b).natAbs ≤ a.natAbs := by rw [Int.natAbs_tdiv]; exact Nat.div_le_self a.natAbs b.natAbs
    constructor <;> omega
  rw [jI_toInt h]
  obtain ⟨h1, h2⟩ := h
  apply Int.bmod_eq_of_le <;> (first | omega | (simp [Int64.size]; omega))
theorem jI_sub (a b : Int) : jI a - jI b = jI (a - b) := (Int64.ofInt_sub a b).symm
theorem jI_rem {a b : Int} (ha : JR a) (hb : JR b) (h0 : 0 ≤ a) : jI a - jI a / jI b * jI b = jI (a.tmod b) := by
  rw [jI_div ha hb h0, jI_mul, jI_sub]
  congr 1
  have := Int.tmod_add_mul_tdiv a b
  have h2 : a.tdiv b * b = b * a.tdiv b := Int.mul_comm _ _
  omega
theorem w_maxS : Cond.static Lib.Math.max.name ∈ WA := wa_t 626 (by decide +kernel) rfl
theorem w_maxC : Cond.code Lib.Math.max.name Lib.Math.max.code 2 (some .int) ∈ WA := wa_t 627 (by decide +kernel) rfl
theorem w_absS : Cond.static Lib.Math.abs.name ∈ WA := wa_t 1279 (by decide +kernel) rfl
theorem w_absC : Cond.code Lib.Math.abs.name Lib.Math.abs.code 1 (some .int) ∈ WA := wa_t 1280 (by decide +kernel) rfl
theorem w_maxI : Cond.initialized "java/lang/Math" ∈ WA := wa_t 21 (by decide +kernel) rfl
section XA
variable {p : Program} {l : Launch} {e : Env} {R : Room} {s : State} {m : MethodId} {args : Array Value} {below : List Frame} {meth : Method} {c : Code} {H : Heap} {locs : List Loc} {cells slots : Nat} {Q : State → Prop}
variable {cc : ByteArray} {nL : Nat} {own : String} {D : va_G} {ad : Nat → Nat} {G : Nat → Nat} {ids : List Nat} {σ : Sg} {pc : Nat} {ls : Array Slot} {rest : List Value}
theorem x_iadd (C : Cx p s m meth c args cc nL own D G) {a b : Int} (hdg : decode cc pc = .ok (.iadd, 1)) (kk : W p l e R s m args below meth c H locs cells slots Q (F0 m (pc + 1) ls (.int (iI (a + b)) :: rest))) : W p l e R s m args below meth c H locs cells slots Q (F0 m pc ls (.int (iI b) :: .int (iI a) :: rest)) := lv_iadd C.1 C.2.1 hdg (by rw [iI_add]; exact kk)
theorem x_isub (C : Cx p s m meth c args cc nL own D G) {a b : Int} (hdg : decode cc pc = .ok (.isub, 1)) (kk : W p l e R s m args below meth c H locs cells slots Q (F0 m (pc + 1) ls (.int (iI (a - b)) :: rest))) : W p l e R s m args below meth c H locs cells slots Q (F0 m pc ls (.int (iI b) :: .int (iI a) :: rest)) := lv_isub C.1 C.2.1 hdg (by rw [iI_sub]; exact kk)
theorem x_imul (C : Cx p s m meth c args cc nL own D G) {a b : Int} (hdg : decode cc pc = .ok (.imul, 1)) (kk : W p l e R s m args below meth c H locs cells slots Q (F0 m (pc + 1) ls (.int (iI (a * b)) :: rest))) : W p l e R s m args below meth c H locs cells slots Q (F0 m pc ls (.int (iI b) :: .int (iI a) :: rest)) := lv_imul C.1 C.2.1 hdg (by rw [iI_mul]; exact kk)
theorem x_ineg (C : Cx p s m meth c args cc nL own D G) {a : Int} (hdg : decode cc pc = .ok (.ineg, 1)) (kk : W p l e R s m args below meth c H locs cells slots Q (F0 m (pc + 1) ls (.int (iI (-a)) :: rest))) : W p l e R s m args below meth c H locs cells slots Q (F0 m pc ls (.int (iI a) :: rest)) := lv_ineg C.1 C.2.1 hdg (by rw [iI_neg]; exact kk)
theorem x_idiv (C : Cx p s m meth c args cc nL own D G) {a b : Int} (ha : 0 ≤ a ∧ IR a) (hb0 : b ≠ 0 ∧ IR b) (hdg : decode cc pc = .ok (.idiv, 1)) (kk : W p l e R s m args below meth c H locs cells slots Q (F0 m (pc + 1) ls (.int (iI (a.tdiv b)) :: rest))) : W p l e R s m args below meth c H locs cells slots Q (F0 m pc ls (.int (iI b) :: .int (iI a) :: rest)) := lv_idiv C.1 C.2.1 hdg (fun h => hb0.1 ((iI_eq (b := 0) hb0.2 (by omega)).mp h)) (by rw [iI_div ha.2 hb0.2 ha.1]; exact kk)
theorem x_irem (C : Cx p s m meth c args cc nL own D G) {a b : Int} (ha : 0 ≤ a ∧ IR a) (hb0 : b ≠ 0 ∧ IR b) (hdg : decode cc pc = .ok (.irem, 1)) (kk : W p l e R s m args below meth c H locs cells slots Q (F0 m (pc + 1) ls (.int (iI (a.tmod b)) :: rest))) : W p l e R s m args below meth c H locs cells slots Q (F0 m pc ls (.int (iI b) :: .int (iI a) :: rest)) := lv_irem C.1 C.2.1 hdg (fun h => hb0.1 ((iI_eq (b := 0) hb0.2 (by omega)).mp h)) (by rw [iI_rem ha.2 hb0.2 ha.1]; exact kk)
theorem x_ladd (C : Cx p s m meth c args cc nL own D G) {a b : Int} (hdg : decode cc pc = .ok (.ladd, 1)) (kk : W p l e R s m args below meth c H locs cells slots Q (F0 m (pc + 1) ls (.long (jI (a + b)) :: rest))) : W p l e R s m args below meth c H locs cells slots Q (F0 m pc ls (.long (jI b) :: .long (jI a) :: rest)) := lv_ladd C.1 C.2.1 hdg (by rw [jI_add]; exact kk)
theorem x_lmul (C : Cx p s m meth c args cc nL own D G) {a b : Int} (hdg : decode cc pc = .ok (.lmul, 1)) (kk : W p l e R s m args below meth c H locs cells slots Q (F0 m (pc + 1) ls (.long (jI (a * b)) :: rest))) : W p l e R s m args below meth c H locs cells slots Q (F0 m pc ls (.long (jI b) :: .long (jI a) :: rest)) := lv_lmul C.1 C.2.1 hdg (by rw [jI_mul]; exact kk)
theorem x_lrem (C : Cx p s m meth c args cc nL own D G) {a b : Int} (ha : 0 ≤ a ∧ JR a) (hb0 : b ≠ 0 ∧ JR b) (hdg : decode cc pc = .ok (.lrem, 1)) (kk : W p l e R s m args below meth c H locs cells slots Q (F0 m (pc + 1) ls (.long (jI (a.tmod b)) :: rest))) : W p l e R s m args below meth c H locs cells slots Q (F0 m pc ls (.long (jI b) :: .long (jI a) :: rest)) := lv_lrem C.1 C.2.1 hdg (fun h => hb0.1 ((jI_eq (b := 0) hb0.2 (by omega)).mp h)) (by rw [jI_rem ha.2 hb0.2 ha.1]; exact kk)
theorem x_i2l (C : Cx p s m meth c args cc nL own D G) {a : Int} (ha : IR a) (hdg : decode cc pc = .ok (.i2l, 1)) (kk : W p l e R s m args below meth c H locs cells slots Q (F0 m (pc + 1) ls (.long (jI a) :: rest))) : W p l e R s m args below meth c H locs cells slots Q (F0 m pc ls (.int (iI a) :: rest)) := lv_i2l C.1 C.2.1 hdg (iI_j ha) kk
theorem x_l2i (C : Cx p s m meth c args cc nL own D G) {a : Int} (hdg : decode cc pc = .ok (.l2i, 1)) (kk : W p l e R s m args below meth c H locs cells slots Q (F0 m (pc + 1) ls (.int (iI a) :: rest))) : W p l e R s m args below meth c H locs cells slots Q (F0 m pc ls (.long (jI a) :: rest)) := lv_l2i C.1 C.2.1 hdg (jI_i a) kk
theorem x_lcmp (C : Cx p s m meth c args cc nL own D G) {a b : Int} (ha : JR a) (hb : JR b) (hdg : decode cc pc = .ok (.lcmp, 1)) (kk : ∀ z : Int, IR z → (z = 0 ↔ a = b) → (0 < z ↔ b < a) → W p l e R s m args below meth c H locs cells slots Q (F0 m (pc + 1) ls (.int (iI z) :: rest))) : W p l e R s m args below meth c H locs cells slots Q (F0 m pc ls (.long (jI b) :: .long (jI a) :: rest)) := by
  refine W.lcmp C.1 C.2.1 hdg ?_
  rw [lg_cmp_j ha hb]
  refine kk _ ?_ ?_ ?_
  · constructor <;> (split <;> first | omega | (split <;> omega))
  · split <;> first | omega | (split <;> omega)
  · split <;> first | omega | (split <;> omega)
theorem x_lcmp0 (C : Cx p s m meth c args cc nL own D G) {a : Int64} (hdg : decode cc pc = .ok (.lcmp, 1)) (kk : W p l e R s m args below meth c H locs cells slots Q (F0 m (pc + 1) ls (.int (iI 0) :: rest))) : W p l e R s m args below meth c H locs cells slots Q (F0 m pc ls (.long a :: .long a :: rest)) := by
  refine W.lcmp C.1 C.2.1 hdg ?_
  have e1 : lg_cmp a a = iI 0 := by unfold lg_cmp; rw [if_neg (Int64.lt_irrefl), if_pos rfl]; rfl
  rw [e1]
  exact kk
theorem x_icmp_eq (C : Cx p s m meth c args cc nL own D G) {a b : Int} (ha : IR a) (hb : IR b) {off : Int} {tgt : Nat} (hdg : decode cc pc = .ok (.if_icmp .eq off, 3)) (ht : (pc : Int) + off = (tgt : Int)) (kt : a = b → W p l e R s m args below meth c H locs cells slots Q (F0 m tgt ls rest)) (kf : ¬ a = b → W p l e R s m args below meth c H locs cells slots Q (F0 m (pc + 3) ls rest)) : W p l e R s m args below meth c H locs cells slots Q (F0 m pc ls (.int (iI b) :: .int (iI a) :: rest)) := lv_icmp_eq C.1 C.2.1 hdg ht (fun h => kt ((iI_eq ha hb).mp h)) (fun h => kf (fun q => h ((iI_eq ha hb).mpr q)))
theorem x_if_eq (C : Cx p s m meth c args cc nL own D G) {a : Int} (ha : IR a) {off : Int} {tgt : Nat} (hdg : decode cc pc = .ok (.ifCond .eq off, 3)) (ht : (pc : Int) + off = (tgt : Int)) (kt : a = 0 → W p l e R s m args below meth c H locs cells slots Q (F0 m tgt ls rest)) (kf : ¬ a = 0 → W p l e R s m args below meth c H locs cells slots Q (F0 m (pc + 3) ls rest)) : W p l e R s m args below meth c H locs cells slots Q (F0 m pc ls (.int (iI a) :: rest)) := lv_if_eq C.1 C.2.1 hdg ht (fun h => kt ((iI_eq (b := 0) ha (by decide : IR 0)).mp h)) (fun h => kf (fun q => h ((iI_eq (b := 0) ha (by decide : IR 0)).mpr q)))
theorem x_icmp_ne (C : Cx p s m meth c args cc nL own D G) {a b : Int} (ha : IR a) (hb : IR b) {off : Int} {tgt : Nat} (hdg : decode cc pc = .ok (.if_icmp .ne off, 3)) (ht : (pc : Int) + off = (tgt : Int)) (kt : a ≠ b → W p l e R s m args below meth c H locs cells slots Q (F0 m tgt ls rest)) (kf : ¬ a ≠ b → W p l e R s m args below meth c H locs cells slots Q (F0 m (pc + 3) ls rest)) : W p l e R s m args below meth c H locs cells slots Q (F0 m pc ls (.int (iI b) :: .int (iI a) :: rest)) := lv_icmp_ne C.1 C.2.1 hdg ht (fun h => kt (fun q => h ((iI_eq ha hb).mpr q))) (fun h => kf (fun q => q ((iI_eq ha hb).mp h)))
theorem x_if_ne (C : Cx p s m meth c args cc nL own D G) {a : Int} (ha : IR a) {off : Int} {tgt : Nat} (hdg : decode cc pc = .ok (.ifCond .ne off, 3)) (ht : (pc : Int) + off = (tgt : Int)) (kt : a ≠ 0 → W p l e R s m args below meth c H locs cells slots Q (F0 m tgt ls rest)) (kf : ¬ a ≠ 0 → W p l e R s m args below meth c H locs cells slots Q (F0 m (pc + 3) ls rest)) : W p l e R s m args below meth c H locs cells slots Q (F0 m pc ls (.int (iI a) :: rest)) := lv_if_ne C.1 C.2.1 hdg ht (fun h => kt (fun q => h ((iI_eq (b := 0) ha (by decide : IR 0)).mpr q))) (fun h => kf (fun q => q ((iI_eq (b := 0) ha (by decide : IR 0)).mp h)))
theorem x_icmp_lt (C : Cx p s m meth c args cc nL own D G) {a b : Int} (ha : IR a) (hb : IR b) {off : Int} {tgt : Nat} (hdg : decode cc pc = .ok (.if_icmp .lt off, 3)) (ht : (pc : Int) + off = (tgt : Int)) (kt : a < b → W p l e R s m args below meth c H locs cells slots Q (F0 m tgt ls rest)) (kf : ¬ a < b → W p l e R s m args below meth c H locs cells slots Q (F0 m (pc + 3) ls rest)) : W p l e R s m args below meth c H locs cells slots Q (F0 m pc ls (.int (iI b) :: .int (iI a) :: rest)) := lv_icmp_lt C.1 C.2.1 hdg ht (fun h => kt ((iI_lt ha hb).mp h)) (fun h => kf (fun q => h ((iI_lt ha hb).mpr q)))
theorem x_if_lt (C : Cx p s m meth c args cc nL own D G) {a : Int} (ha : IR a) {off : Int} {tgt : Nat} (hdg : decode cc pc = .ok (.ifCond .lt off, 3)) (ht : (pc : Int) + off = (tgt : Int)) (kt : a < 0 → W p l e R s m args below meth c H locs cells slots Q (F0 m tgt ls rest)) (kf : ¬ a < 0 → W p l e R s m args below meth c H locs cells slots Q (F0 m (pc + 3) ls rest)) : W p l e R s m args below meth c H locs cells slots Q (F0 m pc ls (.int (iI a) :: rest)) := lv_if_lt C.1 C.2.1 hdg ht (fun h => kt ((iI_lt (b := 0) ha (by decide : IR 0)).mp h)) (fun h => kf (fun q => h ((iI_lt (b := 0) ha (by decide : IR 0)).mpr q)))
theorem x_icmp_ge (C : Cx p s m meth c args cc nL own D G) {a b : Int} (ha : IR a) (hb : IR b) {off : Int} {tgt : Nat} (hdg : decode cc pc = .ok (.if_icmp .ge off, 3)) (ht : (pc : Int) + off = (tgt : Int)) (kt : a ≥ b → W p l e R s m args below meth c H locs cells slots Q (F0 m tgt ls rest)) (kf : ¬ a ≥ b → W p l e R s m args below meth c H locs cells slots Q (F0 m (pc + 3) ls rest)) : W p l e R s m args below meth c H locs cells slots Q (F0 m pc ls (.int (iI b) :: .int (iI a) :: rest)) := lv_icmp_ge C.1 C.2.1 hdg ht (fun h => kt ((iI_le hb ha).mp h)) (fun h => kf (fun q => h ((iI_le hb ha).mpr q)))
theorem x_if_ge (C : Cx p s m meth c args cc nL own D G) {a : Int} (ha : IR a) {off : Int} {tgt : Nat} (hdg : decode cc pc = .ok (.ifCond .ge off, 3)) (ht : (pc : Int) + off = (tgt : Int)) (kt : a ≥ 0 → W p l e R s m args below meth c H locs cells slots Q (F0 m tgt ls rest)) (kf : ¬ a ≥ 0 → W p l e R s m args below meth c H locs cells slots Q (F0 m (pc + 3) ls rest)) : W p l e R s m args below meth c H locs cells slots Q (F0 m pc ls (.int (iI a) :: rest)) := lv_if_ge C.1 C.2.1 hdg ht (fun h => kt ((iI_le (a := 0) (by decide : IR 0) ha).mp h)) (fun h => kf (fun q => h ((iI_le (a := 0) (by decide : IR 0) ha).mpr q)))
theorem x_icmp_gt (C : Cx p s m meth c args cc nL own D G) {a b : Int} (ha : IR a) (hb : IR b) {off : Int} {tgt : Nat} (hdg : decode cc pc = .ok (.if_icmp .gt off, 3)) (ht : (pc : Int) + off = (tgt : Int)) (kt : a > b → W p l e R s m args below meth c H locs cells slots Q (F0 m tgt ls rest)) (kf : ¬ a > b → W p l e R s m args below meth c H locs cells slots Q (F0 m (pc + 3) ls rest)) : W p l e R s m args below meth c H locs cells slots Q (F0 m pc ls (.int (iI b) :: .int (iI a) :: rest)) := lv_icmp_gt C.1 C.2.1 hdg ht (fun h => kt ((iI_lt hb ha).mp h)) (fun h => kf (fun q => h ((iI_lt hb ha).mpr q)))
theorem x_if_gt (C : Cx p s m meth c args cc nL own D G) {a : Int} (ha : IR a) {off : Int} {tgt : Nat} (hdg : decode cc pc = .ok (.ifCond .gt off, 3)) (ht : (pc : Int) + off = (tgt : Int)) (kt : a > 0 → W p l e R s m args below meth c H locs cells slots Q (F0 m tgt ls rest)) (kf : ¬ a > 0 → W p l e R s m args below meth c H locs cells slots Q (F0 m (pc + 3) ls rest)) : W p l e R s m args below meth c H locs cells slots Q (F0 m pc ls (.int (iI a) :: rest)) := lv_if_gt C.1 C.2.1 hdg ht (fun h => kt ((iI_lt (a := 0) (by decide : IR 0) ha).mp h)) (fun h => kf (fun q => h ((iI_lt (a := 0) (by decide : IR 0) ha).mpr q)))
theorem x_icmp_le (C : Cx p s m meth c args cc nL own D G) {a b : Int} (ha : IR a) (hb : IR b) {off : Int} {tgt : Nat} (hdg : decode cc pc = .ok (.if_icmp .le off, 3)) (ht : (pc : Int) + off = (tgt : Int)) (kt : a ≤ b → W p l e R s m args below meth c H locs cells slots Q (F0 m tgt ls rest)) (kf : ¬ a ≤ b → W p l e R s m args below meth c H locs cells slots Q (F0 m (pc + 3) ls rest)) : W p l e R s m args below meth c H locs cells slots Q (F0 m pc ls (.int (iI b) :: .int (iI a) :: rest)) := lv_icmp_le C.1 C.2.1 hdg ht (fun h => kt ((iI_le ha hb).mp h)) (fun h => kf (fun q => h ((iI_le ha hb).mpr q)))
theorem x_if_le (C : Cx p s m meth c args cc nL own D G) {a : Int} (ha : IR a) {off : Int} {tgt : Nat} (hdg : decode cc pc = .ok (.ifCond .le off, 3)) (ht : (pc : Int) + off = (tgt : Int)) (kt : a ≤ 0 → W p l e R s m args below meth c H locs cells slots Q (F0 m tgt ls rest)) (kf : ¬ a ≤ 0 → W p l e R s m args below meth c H locs cells slots Q (F0 m (pc + 3) ls rest)) : W p l e R s m args below meth c H locs cells slots Q (F0 m pc ls (.int (iI a) :: rest)) := lv_if_le C.1 C.2.1 hdg ht (fun h => kt ((iI_le (b := 0) ha (by decide : IR 0)).mp h)) (fun h => kf (fun q => h ((iI_le (b := 0) ha (by decide : IR 0)).mpr q)))
theorem x_iinc (C : Cx p s m meth c args cc nL own D G) {i k : Nat} {n a : Int} {lv lv1 : List (Nat × Value)} (hdg : decode cc pc = .ok (.iinc i n, 3)) (h : lv_has ls nL lv) (hk : lv[k]? = some (i, .int (iI a))) (hn : i < nL) (hl : (i, Value.int (iI (a + n))) :: lv.filter (fun q => !(q.1 == i) && !(q.1 + 1 == i && q.2.category == 2)) = lv1) (kk : ∀ ls1 : Array Slot, lv_has ls1 nL lv1 → W p l e R s m args below meth c H locs cells slots Q (F0 m (pc + 3) ls1 rest)) : W p l e R s m args below meth c H locs cells slots Q (F0 m pc ls rest) := lv_iinc C.1 C.2.1 hdg h hk (v := iI (a + n)) (iI_add a n) hn hl kk
theorem x_max (C : Cx p s m meth c args cc nL own D G) {h : Nat} (hh : 0 < h) {idx : Nat} (hml : ls.size = nL) (w1 : Cond.methodLink own idx Lib.Math.max.name ∈ WA) {a b : Int} (ha : IR a) (hb : IR b) (hW : (rest.map fun v => v.category).sum ≤ 8) (hdg : decode cc pc = .ok (.invokestatic idx, 3))
    (kk : W p l e (rmh h) s m args below meth c H locs 0 0 Q (F0 m (pc + 3) ls (.int (iI (max a b)) :: rest))) : W p l e (rmh h) s m args below meth c H locs 0 0 Q (F0 m pc ls (.int (iI b) :: .int (iI a) :: rest)) := by
  obtain ⟨hx, hb', hml', hown, hts, hK, hN, hlk⟩ := id C
  refine va_mmax (R := rmh h) hx hb' (hml'.trans hml.symm) hown (hts _ w1) (hts _ w_maxS) (hts _ w_maxI) (hts _ w_maxC) hh (by show _ ≤ 40 * h; omega) (Nat.zero_le _) (Nat.zero_le _) hdg ?_
  have e1 : (if iI a < iI b then iI b else iI a) = iI (max a b) := by
    by_cases g : a < b
    · rw [if_pos ((iI_lt ha hb).mpr g), Int.max_eq_right (Int.le_of_lt g)]
    · rw [if_neg (fun q => g ((iI_lt ha hb).mp q)), Int.max_eq_left (by omega)]
  rw [e1]
  exact kk
theorem x_abs (C : Cx p s m meth c args cc nL own D G) {h : Nat} (hh : 0 < h) {idx : Nat} (hml : ls.size = nL) (w1 : Cond.methodLink own idx Lib.Math.abs.name ∈ WA) {a : Int} (ha : IR a ∧ -2147483648 < a) (hW : (rest.map fun v => v.category).sum ≤ 8) (hdg : decode cc pc = .ok (.invokestatic idx, 3))
    (kk : W p l e (rmh h) s m args below meth c H locs 0 0 Q (F0 m (pc + 3) ls (.int (iI (if a < 0 then -a else a)) :: rest))) : W p l e (rmh h) s m args below meth c H locs 0 0 Q (F0 m pc ls (.int (iI a) :: rest)) := by
  obtain ⟨hx, hb', hml', hown, hts, hK, hN, hlk⟩ := id C
  refine va_mabs (R := rmh h) hx hb' (hml'.trans hml.symm) hown (hts _ w1) (hts _ w_absS) (hts _ w_maxI) (hts _ w_absC) hh (by show _ ≤ 40 * h; omega) (Nat.zero_le _) (Nat.zero_le _) hdg ?_
  have e1 : (if 0 ≤ iI a then iI a else 0 - iI a) = iI (if a < 0 then -a else a) := by
    by_cases g : a < 0
    · rw [if_neg (show ¬ 0 ≤ iI a from fun q => absurd ((iI_le (a := 0) (by decide) ha.1).mp q) (by omega)), if_pos g]
      show iI 0 - iI a = _
      rw [iI_sub, Int.zero_sub]
    · rw [if_pos (show 0 ≤ iI a from (iI_le (a := 0) (by decide) ha.1).mpr (by omega)), if_neg g]
  rw [e1]
  exact kk
end XA
end
section
theorem wn_X0 : Cond.initialized RX0 ∈ WA := wa_t 4 (by decide +kernel) rfl
theorem wn_X1 : Cond.initialized RX1 ∈ WA := wa_t 12 (by decide +kernel) rfl
theorem wn_X2 : Cond.initialized RX2 ∈ WA := wa_t 6 (by decide +kernel) rfl
theorem wn_X3 : Cond.initialized RX3 ∈ WA := wa_t 11 (by decide +kernel) rfl
theorem wn_X4 : Cond.initialized RX4 ∈ WA := wa_t 2 (by decide +kernel) rfl
theorem wn_X5 : Cond.initialized RX5 ∈ WA := wa_t 3 (by decide +kernel) rfl
theorem wn_X6 : Cond.initialized RX6 ∈ WA := wa_t 9 (by decide +kernel) rfl
theorem wn_X7 : Cond.initialized RX7 ∈ WA := wa_t 10 (by decide +kernel) rfl
theorem wn_X8 : Cond.initialized RX8 ∈ WA := wa_t 7 (by decide +kernel) rfl
theorem wn_X9 : Cond.initialized RX9 ∈ WA := wa_t 5 (by decide +kernel) rfl
theorem wn_X10 : Cond.initialized RX10 ∈ WA := wa_t 8 (by decide +kernel) rfl
theorem wn_X11 : Cond.initialized RX11 ∈ WA := wa_t 1 (by decide +kernel) rfl
theorem wn_X12 : Cond.initialized RX12 ∈ WA := wa_t 13 (by decide +kernel) rfl
theorem wn_RJ9 : Cond.initialized RJ9 ∈ WA := wa_t 21 (by decide +kernel) rfl
theorem wn_RJ10 : Cond.initialized RJ10 ∈ WA := wa_t 20 (by decide +kernel) rfl
theorem wn_RJ7 : Cond.initialized RJ7 ∈ WA := wa_t 22 (by decide +kernel) rfl
theorem wn_RL : Cond.initialized RL ∈ WA := wa_t 0 (by decide +kernel) rfl
theorem wf_X11_13 : Cond.fieldLink RX11 13 "KindlingTree" "board" "LKindlingTree$Board;" ∈ WA := wa_t 294 (by decide +kernel) rfl
theorem wf_X11_22 : Cond.fieldLink RX11 22 "KindlingTree" "here" "LKindlingTree$MoveList;" ∈ WA := wa_t 295 (by decide +kernel) rfl
theorem wf_X11_29 : Cond.fieldLink RX11 29 "KindlingTree" "trail" "LKindlingTree$Trail;" ∈ WA := wa_t 296 (by decide +kernel) rfl
theorem wf_X11_36 : Cond.fieldLink RX11 36 "KindlingTree" "judge" "LKindlingTree$Judge;" ∈ WA := wa_t 297 (by decide +kernel) rfl
theorem wf_X11_43 : Cond.fieldLink RX11 43 "KindlingTree" "table" "LKindlingTree$Table;" ∈ WA := wa_t 298 (by decide +kernel) rfl
theorem wf_X11_57 : Cond.fieldLink RX11 57 "KindlingTree" "valuer" "LKindlingTree$Valuer;" ∈ WA := wa_t 299 (by decide +kernel) rfl
theorem wf_X11_66 : Cond.fieldLink RX11 66 "KindlingTree" "seeker" "LKindlingTree$Seeker;" ∈ WA := wa_t 300 (by decide +kernel) rfl
theorem wf_X11_73 : Cond.fieldLink RX11 73 "KindlingTree" "book" "LKindlingTree$Book;" ∈ WA := wa_t 301 (by decide +kernel) rfl
theorem wf_X0_9 : Cond.fieldLink RX0 9 "KindlingTree$Board" "cells" "[I" ∈ WA := wa_t 82 (by decide +kernel) rfl
theorem wf_X0_19 : Cond.fieldLink RX0 19 "KindlingTree$Board" "columns" "I" ∈ WA := wa_t 83 (by decide +kernel) rfl
theorem wf_X0_23 : Cond.fieldLink RX0 23 "KindlingTree$Board" "rows" "I" ∈ WA := wa_t 84 (by decide +kernel) rfl
theorem wf_X0_26 : Cond.fieldLink RX0 26 "KindlingTree$Board" "side" "I" ∈ WA := wa_t 85 (by decide +kernel) rfl
theorem wf_X1_9 : Cond.fieldLink RX1 9 "KindlingTree$Book" "keys" "[J" ∈ WA := wa_t 253 (by decide +kernel) rfl
theorem wf_X1_15 : Cond.fieldLink RX1 15 "KindlingTree$Book" "moves" "[I" ∈ WA := wa_t 254 (by decide +kernel) rfl
theorem wf_X1_19 : Cond.fieldLink RX1 19 "KindlingTree$Book" "weights" "[I" ∈ WA := wa_t 255 (by decide +kernel) rfl
theorem wf_X1_22 : Cond.fieldLink RX1 22 "KindlingTree$Book" "count" "I" ∈ WA := wa_t 256 (by decide +kernel) rfl
theorem wf_X2_7 : Cond.fieldLink RX2 7 "KindlingTree$Judge" "perPawn" "I" ∈ WA := wa_t 119 (by decide +kernel) rfl
theorem wf_X2_13 : Cond.fieldLink RX2 13 "KindlingTree$Judge" "perRow" "I" ∈ WA := wa_t 120 (by decide +kernel) rfl
theorem wf_X2_16 : Cond.fieldLink RX2 16 "KindlingTree$Judge" "perStep" "I" ∈ WA := wa_t 121 (by decide +kernel) rfl
theorem wf_X2_19 : Cond.fieldLink RX2 19 "KindlingTree$Judge" "isQuiet" "Z" ∈ WA := wa_t 122 (by decide +kernel) rfl
theorem wf_X3_9 : Cond.fieldLink RX3 9 "KindlingTree$Killers" "newer" "[I" ∈ WA := wa_t 209 (by decide +kernel) rfl
theorem wf_X3_15 : Cond.fieldLink RX3 15 "KindlingTree$Killers" "older" "[I" ∈ WA := wa_t 210 (by decide +kernel) rfl
theorem wf_X4_11 : Cond.fieldLink RX4 11 "KindlingTree$Levels" "lists" "[LKindlingTree$MoveList;" ∈ WA := wa_t 65 (by decide +kernel) rfl
theorem wf_X4_18 : Cond.fieldLink RX4 18 "KindlingTree$Levels" "spare" "LKindlingTree$MoveList;" ∈ WA := wa_t 66 (by decide +kernel) rfl
theorem wf_X5_9 : Cond.fieldLink RX5 9 "KindlingTree$MoveList" "moves" "[I" ∈ WA := wa_t 44 (by decide +kernel) rfl
theorem wf_X5_15 : Cond.fieldLink RX5 15 "KindlingTree$MoveList" "taking" "[Z" ∈ WA := wa_t 45 (by decide +kernel) rfl
theorem wf_X5_19 : Cond.fieldLink RX5 19 "KindlingTree$MoveList" "order" "[I" ∈ WA := wa_t 46 (by decide +kernel) rfl
theorem wf_X5_22 : Cond.fieldLink RX5 22 "KindlingTree$MoveList" "isPlaced" "[Z" ∈ WA := wa_t 47 (by decide +kernel) rfl
theorem wf_X5_25 : Cond.fieldLink RX5 25 "KindlingTree$MoveList" "count" "I" ∈ WA := wa_t 48 (by decide +kernel) rfl
theorem wf_X5_29 : Cond.fieldLink RX5 29 "KindlingTree$MoveList" "placed" "I" ∈ WA := wa_t 49 (by decide +kernel) rfl
theorem wf_X6_9 : Cond.fieldLink RX6 9 "KindlingTree$Quiet" "board" "LKindlingTree$Board;" ∈ WA := wa_t 166 (by decide +kernel) rfl
theorem wf_X6_15 : Cond.fieldLink RX6 15 "KindlingTree$Quiet" "judge" "LKindlingTree$Judge;" ∈ WA := wa_t 167 (by decide +kernel) rfl
theorem wf_X6_19 : Cond.fieldLink RX6 19 "KindlingTree$Quiet" "levels" "LKindlingTree$Levels;" ∈ WA := wa_t 168 (by decide +kernel) rfl
theorem wf_X6_23 : Cond.fieldLink RX6 23 "KindlingTree$Quiet" "nodes" "I" ∈ WA := wa_t 169 (by decide +kernel) rfl
theorem wf_X7_9 : Cond.fieldLink RX7 9 "KindlingTree$Seeker" "board" "LKindlingTree$Board;" ∈ WA := wa_t 216 (by decide +kernel) rfl
theorem wf_X7_15 : Cond.fieldLink RX7 15 "KindlingTree$Seeker" "levels" "LKindlingTree$Levels;" ∈ WA := wa_t 217 (by decide +kernel) rfl
theorem wf_X7_19 : Cond.fieldLink RX7 19 "KindlingTree$Seeker" "table" "LKindlingTree$Table;" ∈ WA := wa_t 218 (by decide +kernel) rfl
theorem wf_X7_23 : Cond.fieldLink RX7 23 "KindlingTree$Seeker" "quiet" "LKindlingTree$Quiet;" ∈ WA := wa_t 219 (by decide +kernel) rfl
theorem wf_X7_30 : Cond.fieldLink RX7 30 "KindlingTree$Seeker" "killers" "LKindlingTree$Killers;" ∈ WA := wa_t 220 (by decide +kernel) rfl
theorem wf_X7_34 : Cond.fieldLink RX7 34 "KindlingTree$Seeker" "best" "I" ∈ WA := wa_t 221 (by decide +kernel) rfl
theorem wf_X7_38 : Cond.fieldLink RX7 38 "KindlingTree$Seeker" "reached" "I" ∈ WA := wa_t 222 (by decide +kernel) rfl
theorem wf_X7_41 : Cond.fieldLink RX7 41 "KindlingTree$Seeker" "nodes" "I" ∈ WA := wa_t 223 (by decide +kernel) rfl
theorem wf_X7_50 : Cond.fieldLink RX7 50 "KindlingTree$Seeker" "hits" "I" ∈ WA := wa_t 224 (by decide +kernel) rfl
theorem wf_X7_53 : Cond.fieldLink RX7 53 "KindlingTree$Seeker" "cuts" "I" ∈ WA := wa_t 225 (by decide +kernel) rfl
theorem wf_X8_9 : Cond.fieldLink RX8 9 "KindlingTree$Table" "keys" "[J" ∈ WA := wa_t 138 (by decide +kernel) rfl
theorem wf_X8_15 : Cond.fieldLink RX8 15 "KindlingTree$Table" "depths" "[I" ∈ WA := wa_t 139 (by decide +kernel) rfl
theorem wf_X8_19 : Cond.fieldLink RX8 19 "KindlingTree$Table" "numbers" "[I" ∈ WA := wa_t 140 (by decide +kernel) rfl
theorem wf_X8_22 : Cond.fieldLink RX8 22 "KindlingTree$Table" "kinds" "[I" ∈ WA := wa_t 141 (by decide +kernel) rfl
theorem wf_X8_25 : Cond.fieldLink RX8 25 "KindlingTree$Table" "moves" "[I" ∈ WA := wa_t 142 (by decide +kernel) rfl
theorem wf_X8_28 : Cond.fieldLink RX8 28 "KindlingTree$Table" "slots" "I" ∈ WA := wa_t 143 (by decide +kernel) rfl
theorem wf_X9_9 : Cond.fieldLink RX9 9 "KindlingTree$Trail" "moves" "[I" ∈ WA := wa_t 103 (by decide +kernel) rfl
theorem wf_X9_15 : Cond.fieldLink RX9 15 "KindlingTree$Trail" "taken" "[I" ∈ WA := wa_t 104 (by decide +kernel) rfl
theorem wf_X9_18 : Cond.fieldLink RX9 18 "KindlingTree$Trail" "count" "I" ∈ WA := wa_t 105 (by decide +kernel) rfl
theorem wf_X10_9 : Cond.fieldLink RX10 9 "KindlingTree$Valuer" "board" "LKindlingTree$Board;" ∈ WA := wa_t 183 (by decide +kernel) rfl
theorem wf_X10_15 : Cond.fieldLink RX10 15 "KindlingTree$Valuer" "levels" "LKindlingTree$Levels;" ∈ WA := wa_t 184 (by decide +kernel) rfl
theorem wf_X10_19 : Cond.fieldLink RX10 19 "KindlingTree$Valuer" "quiet" "LKindlingTree$Quiet;" ∈ WA := wa_t 185 (by decide +kernel) rfl
theorem wf_X12_9 : Cond.fieldLink RX12 9 "KindlingTreeModel" "gone" "[I" ∈ WA := wa_t 1105 (by decide +kernel) rfl
theorem wf_X12_13 : Cond.fieldLink RX12 13 "KindlingTreeModel" "perPawn" "I" ∈ WA := wa_t 1107 (by decide +kernel) rfl
theorem wf_X12_17 : Cond.fieldLink RX12 17 "KindlingTreeModel" "perRow" "I" ∈ WA := wa_t 1108 (by decide +kernel) rfl
theorem wf_X12_20 : Cond.fieldLink RX12 20 "KindlingTreeModel" "perStep" "I" ∈ WA := wa_t 1109 (by decide +kernel) rfl
theorem wf_X12_23 : Cond.fieldLink RX12 23 "KindlingTreeModel" "isQuiet" "Z" ∈ WA := wa_t 1110 (by decide +kernel) rfl
theorem wf_X12_29 : Cond.fieldLink RX12 29 "KindlingTreeModel" "listed" "[[I" ∈ WA := wa_t 1111 (by decide +kernel) rfl
theorem wf_X12_32 : Cond.fieldLink RX12 32 "KindlingTreeModel" "slots" "I" ∈ WA := wa_t 1112 (by decide +kernel) rfl
theorem wf_X12_35 : Cond.fieldLink RX12 35 "KindlingTreeModel" "slotKey" "[J" ∈ WA := wa_t 1113 (by decide +kernel) rfl
theorem wf_X12_39 : Cond.fieldLink RX12 39 "KindlingTreeModel" "slot" "[[I" ∈ WA := wa_t 1114 (by decide +kernel) rfl
theorem wf_X12_42 : Cond.fieldLink RX12 42 "KindlingTreeModel" "tried" "[[I" ∈ WA := wa_t 1115 (by decide +kernel) rfl
theorem wf_X12_45 : Cond.fieldLink RX12 45 "KindlingTreeModel" "killer" "[[I" ∈ WA := wa_t 1116 (by decide +kernel) rfl
theorem wf_X12_48 : Cond.fieldLink RX12 48 "KindlingTreeModel" "best" "I" ∈ WA := wa_t 1121 (by decide +kernel) rfl
theorem wf_X12_51 : Cond.fieldLink RX12 51 "KindlingTreeModel" "bestMove" "I" ∈ WA := wa_t 1122 (by decide +kernel) rfl
theorem wf_X12_54 : Cond.fieldLink RX12 54 "KindlingTreeModel" "pageKey" "[J" ∈ WA := wa_t 1124 (by decide +kernel) rfl
theorem wf_X12_57 : Cond.fieldLink RX12 57 "KindlingTreeModel" "page" "[[I" ∈ WA := wa_t 1125 (by decide +kernel) rfl
theorem wf_X12_64 : Cond.fieldLink RX12 64 "KindlingTreeModel" "thrown" "I" ∈ WA := wa_t 1101 (by decide +kernel) rfl
theorem wf_X12_67 : Cond.fieldLink RX12 67 "KindlingTreeModel" "columns" "I" ∈ WA := wa_t 1102 (by decide +kernel) rfl
theorem wf_X12_70 : Cond.fieldLink RX12 70 "KindlingTreeModel" "rows" "I" ∈ WA := wa_t 1103 (by decide +kernel) rfl
theorem wf_X12_73 : Cond.fieldLink RX12 73 "KindlingTreeModel" "now" "[I" ∈ WA := wa_t 1104 (by decide +kernel) rfl
theorem wf_X12_76 : Cond.fieldLink RX12 76 "KindlingTreeModel" "played" "I" ∈ WA := wa_t 1106 (by decide +kernel) rfl
theorem wf_X12_169 : Cond.fieldLink RX12 169 "KindlingTreeModel" "nodes" "I" ∈ WA := wa_t 1117 (by decide +kernel) rfl
theorem wf_X12_182 : Cond.fieldLink RX12 182 "KindlingTreeModel" "hits" "I" ∈ WA := wa_t 1118 (by decide +kernel) rfl
theorem wf_X12_198 : Cond.fieldLink RX12 198 "KindlingTreeModel" "cuts" "I" ∈ WA := wa_t 1119 (by decide +kernel) rfl
theorem wf_X12_207 : Cond.fieldLink RX12 207 "KindlingTreeModel" "reached" "I" ∈ WA := wa_t 1120 (by decide +kernel) rfl
theorem wf_X12_210 : Cond.fieldLink RX12 210 "KindlingTreeModel" "pages" "I" ∈ WA := wa_t 1123 (by decide +kernel) rfl
theorem wf_X12_256 : Cond.fieldLink RX12 256 "KindlingTreeModel" "sum" "J" ∈ WA := wa_t 1126 (by decide +kernel) rfl
theorem wk_X0_33 : Cond.constantLong RX0 33 (jI (3)) ∈ WA := wa_t 399 (by decide +kernel) rfl
theorem wk_X0_35 : Cond.constantLong RX0 35 (jI (2)) ∈ WA := wa_t 400 (by decide +kernel) rfl
theorem wk_X8_60 : Cond.constantLong RX8 60 (jI (-1)) ∈ WA := wa_t 520 (by decide +kernel) rfl
theorem wk_X11_307 : Cond.constantLong RX11 307 (jI (58036)) ∈ WA := wa_t 559 (by decide +kernel) rfl
theorem wk_X11_335 : Cond.constantLong RX11 335 (jI (31)) ∈ WA := wa_t 567 (by decide +kernel) rfl
theorem wk_X11_92 : Cond.constantLong RX11 92 (jI (2)) ∈ WA := wa_t 751 (by decide +kernel) rfl
theorem wk_X11_94 : Cond.constantLong RX11 94 (jI (6)) ∈ WA := wa_t 752 (by decide +kernel) rfl
theorem wk_X12_108 : Cond.constantLong RX12 108 (jI (3)) ∈ WA := wa_t 1345 (by decide +kernel) rfl
theorem wk_X12_110 : Cond.constantLong RX12 110 (jI (2)) ∈ WA := wa_t 1346 (by decide +kernel) rfl
theorem wk_X12_262 : Cond.constantLong RX12 262 (jI (58036)) ∈ WA := wa_t 1522 (by decide +kernel) rfl
theorem wk_X12_260 : Cond.constantLong RX12 260 (jI (31)) ∈ WA := wa_t 1527 (by decide +kernel) rfl
theorem wc_X0_init : Cond.code yX0_init cX0_init 1 none ∈ WA := wa_t 76 (by decide +kernel) rfl
theorem wi_X0_init : Cond.instanceMethod yX0_init ∈ WA := wa_t 75 (by decide +kernel) rfl
theorem wc_X0_lay : Cond.code yX0_lay cX0_lay 9 none ∈ WA := wa_t 81 (by decide +kernel) rfl
theorem wi_X0_lay : Cond.instanceMethod yX0_lay ∈ WA := wa_t 79 (by decide +kernel) rfl
theorem we_X0_lay : Cond.selects yX0_lay.cls yX0_lay yX0_lay ∈ WA := wa_t 80 (by decide +kernel) rfl
theorem wc_X0_layOn : Cond.code yX0_layOn cX0_layOn 3 none ∈ WA := wa_t 813 (by decide +kernel) rfl
theorem wi_X0_layOn : Cond.instanceMethod yX0_layOn ∈ WA := wa_t 811 (by decide +kernel) rfl
theorem we_X0_layOn : Cond.selects yX0_layOn.cls yX0_layOn yX0_layOn ∈ WA := wa_t 812 (by decide +kernel) rfl
theorem wc_X0_turnTo : Cond.code yX0_turnTo cX0_turnTo 2 none ∈ WA := wa_t 825 (by decide +kernel) rfl
theorem wi_X0_turnTo : Cond.instanceMethod yX0_turnTo ∈ WA := wa_t 823 (by decide +kernel) rfl
theorem we_X0_turnTo : Cond.selects yX0_turnTo.cls yX0_turnTo yX0_turnTo ∈ WA := wa_t 824 (by decide +kernel) rfl
theorem wc_X0_width : Cond.code yX0_width cX0_width 1 (some .int) ∈ WA := wa_t 350 (by decide +kernel) rfl
theorem wi_X0_width : Cond.instanceMethod yX0_width ∈ WA := wa_t 348 (by decide +kernel) rfl
theorem we_X0_width : Cond.selects yX0_width.cls yX0_width yX0_width ∈ WA := wa_t 349 (by decide +kernel) rfl
theorem wc_X0_height : Cond.code yX0_height cX0_height 1 (some .int) ∈ WA := wa_t 358 (by decide +kernel) rfl
theorem wi_X0_height : Cond.instanceMethod yX0_height ∈ WA := wa_t 356 (by decide +kernel) rfl
theorem we_X0_height : Cond.selects yX0_height.cls yX0_height yX0_height ∈ WA := wa_t 357 (by decide +kernel) rfl
theorem wc_X0_mover : Cond.code yX0_mover cX0_mover 1 (some .int) ∈ WA := wa_t 366 (by decide +kernel) rfl
theorem wi_X0_mover : Cond.instanceMethod yX0_mover ∈ WA := wa_t 364 (by decide +kernel) rfl
theorem we_X0_mover : Cond.selects yX0_mover.cls yX0_mover yX0_mover ∈ WA := wa_t 365 (by decide +kernel) rfl
theorem wc_X0_countFields : Cond.code yX0_countFields cX0_countFields 1 (some .int) ∈ WA := wa_t 571 (by decide +kernel) rfl
theorem wi_X0_countFields : Cond.instanceMethod yX0_countFields ∈ WA := wa_t 569 (by decide +kernel) rfl
theorem we_X0_countFields : Cond.selects yX0_countFields.cls yX0_countFields yX0_countFields ∈ WA := wa_t 570 (by decide +kernel) rfl
theorem wc_X0_isField : Cond.code yX0_isField cX0_isField 2 (some .boolean) ∈ WA := wa_t 606 (by decide +kernel) rfl
theorem wi_X0_isField : Cond.instanceMethod yX0_isField ∈ WA := wa_t 604 (by decide +kernel) rfl
theorem we_X0_isField : Cond.selects yX0_isField.cls yX0_isField yX0_isField ∈ WA := wa_t 605 (by decide +kernel) rfl
theorem wc_X0_pawnAt : Cond.code yX0_pawnAt cX0_pawnAt 2 (some .int) ∈ WA := wa_t 281 (by decide +kernel) rfl
theorem wi_X0_pawnAt : Cond.instanceMethod yX0_pawnAt ∈ WA := wa_t 279 (by decide +kernel) rfl
theorem we_X0_pawnAt : Cond.selects yX0_pawnAt.cls yX0_pawnAt yX0_pawnAt ∈ WA := wa_t 280 (by decide +kernel) rfl
theorem wc_X0_countPawns : Cond.code yX0_countPawns cX0_countPawns 4 (some .int) ∈ WA := wa_t 793 (by decide +kernel) rfl
theorem wi_X0_countPawns : Cond.instanceMethod yX0_countPawns ∈ WA := wa_t 791 (by decide +kernel) rfl
theorem we_X0_countPawns : Cond.selects yX0_countPawns.cls yX0_countPawns yX0_countPawns ∈ WA := wa_t 792 (by decide +kernel) rfl
theorem wc_X0_keyNumber : Cond.code yX0_keyNumber cX0_keyNumber 5 (some .long) ∈ WA := wa_t 398 (by decide +kernel) rfl
theorem wi_X0_keyNumber : Cond.instanceMethod yX0_keyNumber ∈ WA := wa_t 396 (by decide +kernel) rfl
theorem we_X0_keyNumber : Cond.selects yX0_keyNumber.cls yX0_keyNumber yX0_keyNumber ∈ WA := wa_t 397 (by decide +kernel) rfl
theorem wc_X0_advance : Cond.code yX0_advance cX0_advance 5 (some .int) ∈ WA := wa_t 600 (by decide +kernel) rfl
theorem wi_X0_advance : Cond.instanceMethod yX0_advance ∈ WA := wa_t 598 (by decide +kernel) rfl
theorem we_X0_advance : Cond.selects yX0_advance.cls yX0_advance yX0_advance ∈ WA := wa_t 599 (by decide +kernel) rfl
theorem wc_X0_retreat : Cond.code yX0_retreat cX0_retreat 5 none ∈ WA := wa_t 611 (by decide +kernel) rfl
theorem wi_X0_retreat : Cond.instanceMethod yX0_retreat ∈ WA := wa_t 609 (by decide +kernel) rfl
theorem we_X0_retreat : Cond.selects yX0_retreat.cls yX0_retreat yX0_retreat ∈ WA := wa_t 610 (by decide +kernel) rfl
theorem wc_X0_listMoves : Cond.code yX0_listMoves cX0_listMoves 4 none ∈ WA := wa_t 269 (by decide +kernel) rfl
theorem wi_X0_listMoves : Cond.instanceMethod yX0_listMoves ∈ WA := wa_t 267 (by decide +kernel) rfl
theorem we_X0_listMoves : Cond.selects yX0_listMoves.cls yX0_listMoves yX0_listMoves ∈ WA := wa_t 268 (by decide +kernel) rfl
theorem wc_X0_isOtherThrough : Cond.code yX0_isOtherThrough cX0_isOtherThrough 3 (some .boolean) ∈ WA := wa_t 277 (by decide +kernel) rfl
theorem wi_X0_isOtherThrough : Cond.instanceMethod yX0_isOtherThrough ∈ WA := wa_t 276 (by decide +kernel) rfl
theorem we_X0_isOtherThrough : Cond.selects yX0_isOtherThrough.cls yX0_isOtherThrough yX0_isOtherThrough ∈ WA := wa_s (q := (yX0_isOtherThrough, _)) 0 rfl rfl
theorem wc_X0_listSteps : Cond.code yX0_listSteps cX0_listSteps 7 none ∈ WA := wa_t 285 (by decide +kernel) rfl
theorem wi_X0_listSteps : Cond.instanceMethod yX0_listSteps ∈ WA := wa_t 284 (by decide +kernel) rfl
theorem we_X0_listSteps : Cond.selects yX0_listSteps.cls yX0_listSteps yX0_listSteps ∈ WA := wa_s (q := (yX0_listSteps, _)) 1 rfl rfl
theorem wc_X0_canStep : Cond.code yX0_canStep cX0_canStep 9 (some .boolean) ∈ WA := wa_t 289 (by decide +kernel) rfl
theorem wi_X0_canStep : Cond.instanceMethod yX0_canStep ∈ WA := wa_t 287 (by decide +kernel) rfl
theorem we_X0_canStep : Cond.selects yX0_canStep.cls yX0_canStep yX0_canStep ∈ WA := wa_t 288 (by decide +kernel) rfl
theorem wc_X1_init : Cond.code yX1_init cX1_init 1 none ∈ WA := wa_t 251 (by decide +kernel) rfl
theorem wi_X1_init : Cond.instanceMethod yX1_init ∈ WA := wa_t 250 (by decide +kernel) rfl
theorem wc_X1_length : Cond.code yX1_length cX1_length 1 (some .int) ∈ WA := wa_t 550 (by decide +kernel) rfl
theorem wi_X1_length : Cond.instanceMethod yX1_length ∈ WA := wa_t 548 (by decide +kernel) rfl
theorem we_X1_length : Cond.selects yX1_length.cls yX1_length yX1_length ∈ WA := wa_t 549 (by decide +kernel) rfl
theorem wc_X1_isFull : Cond.code yX1_isFull cX1_isFull 1 (some .boolean) ∈ WA := wa_t 1053 (by decide +kernel) rfl
theorem wi_X1_isFull : Cond.instanceMethod yX1_isFull ∈ WA := wa_t 1051 (by decide +kernel) rfl
theorem we_X1_isFull : Cond.selects yX1_isFull.cls yX1_isFull yX1_isFull ∈ WA := wa_t 1052 (by decide +kernel) rfl
theorem wc_X1_find : Cond.code yX1_find cX1_find 5 (some .int) ∈ WA := wa_t 538 (by decide +kernel) rfl
theorem wi_X1_find : Cond.instanceMethod yX1_find ∈ WA := wa_t 536 (by decide +kernel) rfl
theorem we_X1_find : Cond.selects yX1_find.cls yX1_find yX1_find ∈ WA := wa_t 537 (by decide +kernel) rfl
theorem wc_X1_write : Cond.code yX1_write cX1_write 6 none ∈ WA := wa_t 1059 (by decide +kernel) rfl
theorem wi_X1_write : Cond.instanceMethod yX1_write ∈ WA := wa_t 1057 (by decide +kernel) rfl
theorem we_X1_write : Cond.selects yX1_write.cls yX1_write yX1_write ∈ WA := wa_t 1058 (by decide +kernel) rfl
theorem wc_X1_choose : Cond.code yX1_choose cX1_choose 8 (some .int) ∈ WA := wa_t 529 (by decide +kernel) rfl
theorem wi_X1_choose : Cond.instanceMethod yX1_choose ∈ WA := wa_t 527 (by decide +kernel) rfl
theorem we_X1_choose : Cond.selects yX1_choose.cls yX1_choose yX1_choose ∈ WA := wa_t 528 (by decide +kernel) rfl
theorem wc_X1_weightAt : Cond.code yX1_weightAt cX1_weightAt 2 (some .int) ∈ WA := wa_t 542 (by decide +kernel) rfl
theorem wi_X1_weightAt : Cond.instanceMethod yX1_weightAt ∈ WA := wa_t 541 (by decide +kernel) rfl
theorem we_X1_weightAt : Cond.selects yX1_weightAt.cls yX1_weightAt yX1_weightAt ∈ WA := wa_s (q := (yX1_weightAt, _)) 6 rfl rfl
theorem wc_X2_init : Cond.code yX2_init cX2_init 1 none ∈ WA := wa_t 117 (by decide +kernel) rfl
theorem wi_X2_init : Cond.instanceMethod yX2_init ∈ WA := wa_t 116 (by decide +kernel) rfl
theorem wc_X2_setWeights : Cond.code yX2_setWeights cX2_setWeights 4 none ∈ WA := wa_t 883 (by decide +kernel) rfl
theorem wi_X2_setWeights : Cond.instanceMethod yX2_setWeights ∈ WA := wa_t 881 (by decide +kernel) rfl
theorem we_X2_setWeights : Cond.selects yX2_setWeights.cls yX2_setWeights yX2_setWeights ∈ WA := wa_t 882 (by decide +kernel) rfl
theorem wc_X2_isQuietOn : Cond.code yX2_isQuietOn cX2_isQuietOn 1 (some .boolean) ∈ WA := wa_t 326 (by decide +kernel) rfl
theorem wi_X2_isQuietOn : Cond.instanceMethod yX2_isQuietOn ∈ WA := wa_t 324 (by decide +kernel) rfl
theorem we_X2_isQuietOn : Cond.selects yX2_isQuietOn.cls yX2_isQuietOn yX2_isQuietOn ∈ WA := wa_t 325 (by decide +kernel) rfl
theorem wc_X2_switchQuiet : Cond.code yX2_switchQuiet cX2_switchQuiet 2 none ∈ WA := wa_t 330 (by decide +kernel) rfl
theorem wi_X2_switchQuiet : Cond.instanceMethod yX2_switchQuiet ∈ WA := wa_t 328 (by decide +kernel) rfl
theorem we_X2_switchQuiet : Cond.selects yX2_switchQuiet.cls yX2_switchQuiet yX2_switchQuiet ∈ WA := wa_t 329 (by decide +kernel) rfl
theorem wc_X2_evaluate : Cond.code yX2_evaluate cX2_evaluate 8 (some .int) ∈ WA := wa_t 408 (by decide +kernel) rfl
theorem wi_X2_evaluate : Cond.instanceMethod yX2_evaluate ∈ WA := wa_t 406 (by decide +kernel) rfl
theorem we_X2_evaluate : Cond.selects yX2_evaluate.cls yX2_evaluate yX2_evaluate ∈ WA := wa_t 407 (by decide +kernel) rfl
theorem wc_X2_weighPawn : Cond.code yX2_weighPawn cX2_weighPawn 8 (some .int) ∈ WA := wa_t 416 (by decide +kernel) rfl
theorem wi_X2_weighPawn : Cond.instanceMethod yX2_weighPawn ∈ WA := wa_t 415 (by decide +kernel) rfl
theorem we_X2_weighPawn : Cond.selects yX2_weighPawn.cls yX2_weighPawn yX2_weighPawn ∈ WA := wa_s (q := (yX2_weighPawn, _)) 3 rfl rfl
theorem wc_X3_init : Cond.code yX3_init cX3_init 1 none ∈ WA := wa_t 203 (by decide +kernel) rfl
theorem wi_X3_init : Cond.instanceMethod yX3_init ∈ WA := wa_t 202 (by decide +kernel) rfl
theorem wc_X3_clear : Cond.code yX3_clear cX3_clear 2 none ∈ WA := wa_t 208 (by decide +kernel) rfl
theorem wi_X3_clear : Cond.instanceMethod yX3_clear ∈ WA := wa_t 206 (by decide +kernel) rfl
theorem we_X3_clear : Cond.selects yX3_clear.cls yX3_clear yX3_clear ∈ WA := wa_t 207 (by decide +kernel) rfl
theorem wc_X3_newerOf : Cond.code yX3_newerOf cX3_newerOf 2 (some .int) ∈ WA := wa_t 487 (by decide +kernel) rfl
theorem wi_X3_newerOf : Cond.instanceMethod yX3_newerOf ∈ WA := wa_t 485 (by decide +kernel) rfl
theorem we_X3_newerOf : Cond.selects yX3_newerOf.cls yX3_newerOf yX3_newerOf ∈ WA := wa_t 486 (by decide +kernel) rfl
theorem wc_X3_olderOf : Cond.code yX3_olderOf cX3_olderOf 2 (some .int) ∈ WA := wa_t 483 (by decide +kernel) rfl
theorem wi_X3_olderOf : Cond.instanceMethod yX3_olderOf ∈ WA := wa_t 481 (by decide +kernel) rfl
theorem we_X3_olderOf : Cond.selects yX3_olderOf.cls yX3_olderOf yX3_olderOf ∈ WA := wa_t 482 (by decide +kernel) rfl
theorem wc_X3_note : Cond.code yX3_note cX3_note 3 none ∈ WA := wa_t 1023 (by decide +kernel) rfl
theorem wi_X3_note : Cond.instanceMethod yX3_note ∈ WA := wa_t 1021 (by decide +kernel) rfl
theorem we_X3_note : Cond.selects yX3_note.cls yX3_note yX3_note ∈ WA := wa_t 1022 (by decide +kernel) rfl
theorem wc_X4_init : Cond.code yX4_init cX4_init 2 none ∈ WA := wa_t 35 (by decide +kernel) rfl
theorem wi_X4_init : Cond.instanceMethod yX4_init ∈ WA := wa_t 34 (by decide +kernel) rfl
theorem wc_X4_ofDepth : Cond.code yX4_ofDepth cX4_ofDepth 2 (some (.object "KindlingTree$MoveList")) ∈ WA := wa_t 585 (by decide +kernel) rfl
theorem wi_X4_ofDepth : Cond.instanceMethod yX4_ofDepth ∈ WA := wa_t 583 (by decide +kernel) rfl
theorem we_X4_ofDepth : Cond.selects yX4_ofDepth.cls yX4_ofDepth yX4_ofDepth ∈ WA := wa_t 584 (by decide +kernel) rfl
theorem wc_X4_ofTurns : Cond.code yX4_ofTurns cX4_ofTurns 3 (some (.object "KindlingTree$MoveList")) ∈ WA := wa_t 589 (by decide +kernel) rfl
theorem wi_X4_ofTurns : Cond.instanceMethod yX4_ofTurns ∈ WA := wa_t 587 (by decide +kernel) rfl
theorem we_X4_ofTurns : Cond.selects yX4_ofTurns.cls yX4_ofTurns yX4_ofTurns ∈ WA := wa_t 588 (by decide +kernel) rfl
theorem wc_X5_init : Cond.code yX5_init cX5_init 1 none ∈ WA := wa_t 42 (by decide +kernel) rfl
theorem wi_X5_init : Cond.instanceMethod yX5_init ∈ WA := wa_t 41 (by decide +kernel) rfl
theorem wc_X5_clear : Cond.code yX5_clear cX5_clear 1 none ∈ WA := wa_t 273 (by decide +kernel) rfl
theorem wi_X5_clear : Cond.instanceMethod yX5_clear ∈ WA := wa_t 271 (by decide +kernel) rfl
theorem we_X5_clear : Cond.selects yX5_clear.cls yX5_clear yX5_clear ∈ WA := wa_t 272 (by decide +kernel) rfl
theorem wc_X5_add : Cond.code yX5_add cX5_add 3 none ∈ WA := wa_t 293 (by decide +kernel) rfl
theorem wi_X5_add : Cond.instanceMethod yX5_add ∈ WA := wa_t 291 (by decide +kernel) rfl
theorem we_X5_add : Cond.selects yX5_add.cls yX5_add yX5_add ∈ WA := wa_t 292 (by decide +kernel) rfl
theorem wc_X5_size : Cond.code yX5_size cX5_size 1 (some .int) ∈ WA := wa_t 382 (by decide +kernel) rfl
theorem wi_X5_size : Cond.instanceMethod yX5_size ∈ WA := wa_t 380 (by decide +kernel) rfl
theorem we_X5_size : Cond.selects yX5_size.cls yX5_size yX5_size ∈ WA := wa_t 381 (by decide +kernel) rfl
theorem wc_X5_has : Cond.code yX5_has cX5_has 2 (some .boolean) ∈ WA := wa_t 836 (by decide +kernel) rfl
theorem wi_X5_has : Cond.instanceMethod yX5_has ∈ WA := wa_t 834 (by decide +kernel) rfl
theorem we_X5_has : Cond.selects yX5_has.cls yX5_has yX5_has ∈ WA := wa_t 835 (by decide +kernel) rfl
theorem wc_X5_moveAt : Cond.code yX5_moveAt cX5_moveAt 2 (some .int) ∈ WA := wa_t 534 (by decide +kernel) rfl
theorem wi_X5_moveAt : Cond.instanceMethod yX5_moveAt ∈ WA := wa_t 532 (by decide +kernel) rfl
theorem we_X5_moveAt : Cond.selects yX5_moveAt.cls yX5_moveAt yX5_moveAt ∈ WA := wa_t 533 (by decide +kernel) rfl
theorem wc_X5_isTaking : Cond.code yX5_isTaking cX5_isTaking 2 (some .boolean) ∈ WA := wa_t 631 (by decide +kernel) rfl
theorem wi_X5_isTaking : Cond.instanceMethod yX5_isTaking ∈ WA := wa_t 629 (by decide +kernel) rfl
theorem we_X5_isTaking : Cond.selects yX5_isTaking.cls yX5_isTaking yX5_isTaking ∈ WA := wa_t 630 (by decide +kernel) rfl
theorem wc_X5_indexOf : Cond.code yX5_indexOf cX5_indexOf 3 (some .int) ∈ WA := wa_t 992 (by decide +kernel) rfl
theorem wi_X5_indexOf : Cond.instanceMethod yX5_indexOf ∈ WA := wa_t 990 (by decide +kernel) rfl
theorem we_X5_indexOf : Cond.selects yX5_indexOf.cls yX5_indexOf yX5_indexOf ∈ WA := wa_t 991 (by decide +kernel) rfl
theorem wc_X5_arrange : Cond.code yX5_arrange cX5_arrange 5 none ∈ WA := wa_t 988 (by decide +kernel) rfl
theorem wi_X5_arrange : Cond.instanceMethod yX5_arrange ∈ WA := wa_t 986 (by decide +kernel) rfl
theorem we_X5_arrange : Cond.selects yX5_arrange.cls yX5_arrange yX5_arrange ∈ WA := wa_t 987 (by decide +kernel) rfl
theorem wc_X5_place : Cond.code yX5_place cX5_place 2 none ∈ WA := wa_t 996 (by decide +kernel) rfl
theorem wi_X5_place : Cond.instanceMethod yX5_place ∈ WA := wa_t 995 (by decide +kernel) rfl
theorem we_X5_place : Cond.selects yX5_place.cls yX5_place yX5_place ∈ WA := wa_s (q := (yX5_place, _)) 23 rfl rfl
theorem wc_X5_inOrder : Cond.code yX5_inOrder cX5_inOrder 2 (some .int) ∈ WA := wa_t 1005 (by decide +kernel) rfl
theorem wi_X5_inOrder : Cond.instanceMethod yX5_inOrder ∈ WA := wa_t 1003 (by decide +kernel) rfl
theorem we_X5_inOrder : Cond.selects yX5_inOrder.cls yX5_inOrder yX5_inOrder ∈ WA := wa_t 1004 (by decide +kernel) rfl
theorem wc_X6_init : Cond.code yX6_init cX6_init 4 none ∈ WA := wa_t 164 (by decide +kernel) rfl
theorem wi_X6_init : Cond.instanceMethod yX6_init ∈ WA := wa_t 163 (by decide +kernel) rfl
theorem wc_X6_clearCount : Cond.code yX6_clearCount cX6_clearCount 1 none ∈ WA := wa_t 967 (by decide +kernel) rfl
theorem wi_X6_clearCount : Cond.instanceMethod yX6_clearCount ∈ WA := wa_t 965 (by decide +kernel) rfl
theorem we_X6_clearCount : Cond.selects yX6_clearCount.cls yX6_clearCount yX6_clearCount ∈ WA := wa_t 966 (by decide +kernel) rfl
theorem wc_X6_nodeCount : Cond.code yX6_nodeCount cX6_nodeCount 1 (some .int) ∈ WA := wa_t 455 (by decide +kernel) rfl
theorem wi_X6_nodeCount : Cond.instanceMethod yX6_nodeCount ∈ WA := wa_t 453 (by decide +kernel) rfl
theorem we_X6_nodeCount : Cond.selects yX6_nodeCount.cls yX6_nodeCount yX6_nodeCount ∈ WA := wa_t 454 (by decide +kernel) rfl
theorem wc_X6_lookOn : Cond.code yX6_lookOn cX6_lookOn 8 (some .int) ∈ WA := wa_t 619 (by decide +kernel) rfl
theorem wi_X6_lookOn : Cond.instanceMethod yX6_lookOn ∈ WA := wa_t 618 (by decide +kernel) rfl
theorem we_X6_lookOn : Cond.selects yX6_lookOn.cls yX6_lookOn yX6_lookOn ∈ WA := wa_s (q := (yX6_lookOn, _)) 12 rfl rfl
theorem wc_X6_behind : Cond.code yX6_behind cX6_behind 7 (some .int) ∈ WA := wa_t 636 (by decide +kernel) rfl
theorem wi_X6_behind : Cond.instanceMethod yX6_behind ∈ WA := wa_t 635 (by decide +kernel) rfl
theorem we_X6_behind : Cond.selects yX6_behind.cls yX6_behind yX6_behind ∈ WA := wa_s (q := (yX6_behind, _)) 13 rfl rfl
theorem wc_X7_init : Cond.code yX7_init cX7_init 5 none ∈ WA := wa_t 197 (by decide +kernel) rfl
theorem wi_X7_init : Cond.instanceMethod yX7_init ∈ WA := wa_t 196 (by decide +kernel) rfl
theorem wc_X7_bestMove : Cond.code yX7_bestMove cX7_bestMove 1 (some .int) ∈ WA := wa_t 425 (by decide +kernel) rfl
theorem wi_X7_bestMove : Cond.instanceMethod yX7_bestMove ∈ WA := wa_t 423 (by decide +kernel) rfl
theorem we_X7_bestMove : Cond.selects yX7_bestMove.cls yX7_bestMove yX7_bestMove ∈ WA := wa_t 424 (by decide +kernel) rfl
theorem wc_X7_depthReached : Cond.code yX7_depthReached cX7_depthReached 1 (some .int) ∈ WA := wa_t 443 (by decide +kernel) rfl
theorem wi_X7_depthReached : Cond.instanceMethod yX7_depthReached ∈ WA := wa_t 441 (by decide +kernel) rfl
theorem we_X7_depthReached : Cond.selects yX7_depthReached.cls yX7_depthReached yX7_depthReached ∈ WA := wa_t 442 (by decide +kernel) rfl
theorem wc_X7_nodeCount : Cond.code yX7_nodeCount cX7_nodeCount 1 (some .int) ∈ WA := wa_t 451 (by decide +kernel) rfl
theorem wi_X7_nodeCount : Cond.instanceMethod yX7_nodeCount ∈ WA := wa_t 449 (by decide +kernel) rfl
theorem we_X7_nodeCount : Cond.selects yX7_nodeCount.cls yX7_nodeCount yX7_nodeCount ∈ WA := wa_t 450 (by decide +kernel) rfl
theorem wc_X7_hitCount : Cond.code yX7_hitCount cX7_hitCount 1 (some .int) ∈ WA := wa_t 463 (by decide +kernel) rfl
theorem wi_X7_hitCount : Cond.instanceMethod yX7_hitCount ∈ WA := wa_t 461 (by decide +kernel) rfl
theorem we_X7_hitCount : Cond.selects yX7_hitCount.cls yX7_hitCount yX7_hitCount ∈ WA := wa_t 462 (by decide +kernel) rfl
theorem wc_X7_cutCount : Cond.code yX7_cutCount cX7_cutCount 1 (some .int) ∈ WA := wa_t 471 (by decide +kernel) rfl
theorem wi_X7_cutCount : Cond.instanceMethod yX7_cutCount ∈ WA := wa_t 469 (by decide +kernel) rfl
theorem we_X7_cutCount : Cond.selects yX7_cutCount.cls yX7_cutCount yX7_cutCount ∈ WA := wa_t 470 (by decide +kernel) rfl
theorem wc_X7_killerOf : Cond.code yX7_killerOf cX7_killerOf 3 (some .int) ∈ WA := wa_t 479 (by decide +kernel) rfl
theorem wi_X7_killerOf : Cond.instanceMethod yX7_killerOf ∈ WA := wa_t 477 (by decide +kernel) rfl
theorem we_X7_killerOf : Cond.selects yX7_killerOf.cls yX7_killerOf yX7_killerOf ∈ WA := wa_t 478 (by decide +kernel) rfl
theorem wc_X7_seek : Cond.code yX7_seek cX7_seek 4 (some .int) ∈ WA := wa_t 962 (by decide +kernel) rfl
theorem wi_X7_seek : Cond.instanceMethod yX7_seek ∈ WA := wa_t 960 (by decide +kernel) rfl
theorem we_X7_seek : Cond.selects yX7_seek.cls yX7_seek yX7_seek ∈ WA := wa_t 961 (by decide +kernel) rfl
theorem wc_X7_explore : Cond.code yX7_explore cX7_explore 8 (some .int) ∈ WA := wa_t 972 (by decide +kernel) rfl
theorem wi_X7_explore : Cond.instanceMethod yX7_explore ∈ WA := wa_t 971 (by decide +kernel) rfl
theorem we_X7_explore : Cond.selects yX7_explore.cls yX7_explore yX7_explore ∈ WA := wa_s (q := (yX7_explore, _)) 22 rfl rfl
theorem wc_X7_tryMoves : Cond.code yX7_tryMoves cX7_tryMoves 13 (some .int) ∈ WA := wa_t 1001 (by decide +kernel) rfl
theorem wi_X7_tryMoves : Cond.instanceMethod yX7_tryMoves ∈ WA := wa_t 1000 (by decide +kernel) rfl
theorem we_X7_tryMoves : Cond.selects yX7_tryMoves.cls yX7_tryMoves yX7_tryMoves ∈ WA := wa_s (q := (yX7_tryMoves, _)) 24 rfl rfl
theorem wc_X7_behind : Cond.code yX7_behind cX7_behind 7 (some .int) ∈ WA := wa_t 1010 (by decide +kernel) rfl
theorem wi_X7_behind : Cond.instanceMethod yX7_behind ∈ WA := wa_t 1009 (by decide +kernel) rfl
theorem we_X7_behind : Cond.selects yX7_behind.cls yX7_behind yX7_behind ∈ WA := wa_s (q := (yX7_behind, _)) 25 rfl rfl
theorem wc_X7_noteCut : Cond.code yX7_noteCut cX7_noteCut 4 none ∈ WA := wa_t 1017 (by decide +kernel) rfl
theorem wi_X7_noteCut : Cond.instanceMethod yX7_noteCut ∈ WA := wa_t 1016 (by decide +kernel) rfl
theorem we_X7_noteCut : Cond.selects yX7_noteCut.cls yX7_noteCut yX7_noteCut ∈ WA := wa_s (q := (yX7_noteCut, _)) 26 rfl rfl
theorem wc_X8_init : Cond.code yX8_init cX8_init 1 none ∈ WA := wa_t 136 (by decide +kernel) rfl
theorem wi_X8_init : Cond.instanceMethod yX8_init ∈ WA := wa_t 135 (by decide +kernel) rfl
theorem wc_X8_size : Cond.code yX8_size cX8_size 1 (some .int) ∈ WA := wa_t 495 (by decide +kernel) rfl
theorem wi_X8_size : Cond.instanceMethod yX8_size ∈ WA := wa_t 493 (by decide +kernel) rfl
theorem we_X8_size : Cond.selects yX8_size.cls yX8_size yX8_size ∈ WA := wa_t 494 (by decide +kernel) rfl
theorem wc_X8_resize : Cond.code yX8_resize cX8_resize 2 none ∈ WA := wa_t 895 (by decide +kernel) rfl
theorem wi_X8_resize : Cond.instanceMethod yX8_resize ∈ WA := wa_t 893 (by decide +kernel) rfl
theorem we_X8_resize : Cond.selects yX8_resize.cls yX8_resize yX8_resize ∈ WA := wa_t 894 (by decide +kernel) rfl
theorem wc_X8_wipe : Cond.code yX8_wipe cX8_wipe 2 none ∈ WA := wa_t 334 (by decide +kernel) rfl
theorem wi_X8_wipe : Cond.instanceMethod yX8_wipe ∈ WA := wa_t 332 (by decide +kernel) rfl
theorem we_X8_wipe : Cond.selects yX8_wipe.cls yX8_wipe yX8_wipe ∈ WA := wa_t 333 (by decide +kernel) rfl
theorem wc_X8_countEntries : Cond.code yX8_countEntries cX8_countEntries 3 (some .int) ∈ WA := wa_t 342 (by decide +kernel) rfl
theorem wi_X8_countEntries : Cond.instanceMethod yX8_countEntries ∈ WA := wa_t 340 (by decide +kernel) rfl
theorem we_X8_countEntries : Cond.selects yX8_countEntries.cls yX8_countEntries yX8_countEntries ∈ WA := wa_t 341 (by decide +kernel) rfl
theorem wc_X8_isSlot : Cond.code yX8_isSlot cX8_isSlot 2 (some .boolean) ∈ WA := wa_t 1031 (by decide +kernel) rfl
theorem wi_X8_isSlot : Cond.instanceMethod yX8_isSlot ∈ WA := wa_t 1029 (by decide +kernel) rfl
theorem we_X8_isSlot : Cond.selects yX8_isSlot.cls yX8_isSlot yX8_isSlot ∈ WA := wa_t 1030 (by decide +kernel) rfl
theorem wc_X8_slotOf : Cond.code yX8_slotOf cX8_slotOf 3 (some .int) ∈ WA := wa_t 511 (by decide +kernel) rfl
theorem wi_X8_slotOf : Cond.instanceMethod yX8_slotOf ∈ WA := wa_t 510 (by decide +kernel) rfl
theorem we_X8_slotOf : Cond.selects yX8_slotOf.cls yX8_slotOf yX8_slotOf ∈ WA := wa_s (q := (yX8_slotOf, _)) 4 rfl rfl
theorem wc_X8_find : Cond.code yX8_find cX8_find 4 (some .int) ∈ WA := wa_t 507 (by decide +kernel) rfl
theorem wi_X8_find : Cond.instanceMethod yX8_find ∈ WA := wa_t 505 (by decide +kernel) rfl
theorem we_X8_find : Cond.selects yX8_find.cls yX8_find yX8_find ∈ WA := wa_t 506 (by decide +kernel) rfl
theorem wc_X8_store : Cond.code yX8_store cX8_store 8 none ∈ WA := wa_t 1027 (by decide +kernel) rfl
theorem wi_X8_store : Cond.instanceMethod yX8_store ∈ WA := wa_t 1025 (by decide +kernel) rfl
theorem we_X8_store : Cond.selects yX8_store.cls yX8_store yX8_store ∈ WA := wa_t 1026 (by decide +kernel) rfl
theorem wc_X8_isAnswer : Cond.code yX8_isAnswer cX8_isAnswer 7 (some .boolean) ∈ WA := wa_t 982 (by decide +kernel) rfl
theorem wi_X8_isAnswer : Cond.instanceMethod yX8_isAnswer ∈ WA := wa_t 980 (by decide +kernel) rfl
theorem we_X8_isAnswer : Cond.selects yX8_isAnswer.cls yX8_isAnswer yX8_isAnswer ∈ WA := wa_t 981 (by decide +kernel) rfl
theorem wc_X8_tell : Cond.code yX8_tell cX8_tell 3 (some .int) ∈ WA := wa_t 657 (by decide +kernel) rfl
theorem wi_X8_tell : Cond.instanceMethod yX8_tell ∈ WA := wa_t 655 (by decide +kernel) rfl
theorem we_X8_tell : Cond.selects yX8_tell.cls yX8_tell yX8_tell ∈ WA := wa_t 656 (by decide +kernel) rfl
theorem wc_X8_keyAt : Cond.code yX8_keyAt cX8_keyAt 2 (some .long) ∈ WA := wa_t 519 (by decide +kernel) rfl
theorem wi_X8_keyAt : Cond.instanceMethod yX8_keyAt ∈ WA := wa_t 518 (by decide +kernel) rfl
theorem we_X8_keyAt : Cond.selects yX8_keyAt.cls yX8_keyAt yX8_keyAt ∈ WA := wa_s (q := (yX8_keyAt, _)) 5 rfl rfl
theorem wc_X8_depthAt : Cond.code yX8_depthAt cX8_depthAt 2 (some .int) ∈ WA := wa_t 515 (by decide +kernel) rfl
theorem wi_X8_depthAt : Cond.instanceMethod yX8_depthAt ∈ WA := wa_t 513 (by decide +kernel) rfl
theorem we_X8_depthAt : Cond.selects yX8_depthAt.cls yX8_depthAt yX8_depthAt ∈ WA := wa_t 514 (by decide +kernel) rfl
theorem wc_X8_numberAt : Cond.code yX8_numberAt cX8_numberAt 2 (some .int) ∈ WA := wa_t 661 (by decide +kernel) rfl
theorem wi_X8_numberAt : Cond.instanceMethod yX8_numberAt ∈ WA := wa_t 659 (by decide +kernel) rfl
theorem we_X8_numberAt : Cond.selects yX8_numberAt.cls yX8_numberAt yX8_numberAt ∈ WA := wa_t 660 (by decide +kernel) rfl
theorem wc_X8_kindAt : Cond.code yX8_kindAt cX8_kindAt 2 (some .int) ∈ WA := wa_t 665 (by decide +kernel) rfl
theorem wi_X8_kindAt : Cond.instanceMethod yX8_kindAt ∈ WA := wa_t 664 (by decide +kernel) rfl
theorem we_X8_kindAt : Cond.selects yX8_kindAt.cls yX8_kindAt yX8_kindAt ∈ WA := wa_s (q := (yX8_kindAt, _)) 17 rfl rfl
theorem wc_X8_moveAt : Cond.code yX8_moveAt cX8_moveAt 2 (some .int) ∈ WA := wa_t 669 (by decide +kernel) rfl
theorem wi_X8_moveAt : Cond.instanceMethod yX8_moveAt ∈ WA := wa_t 667 (by decide +kernel) rfl
theorem we_X8_moveAt : Cond.selects yX8_moveAt.cls yX8_moveAt yX8_moveAt ∈ WA := wa_t 668 (by decide +kernel) rfl
theorem wc_X9_init : Cond.code yX9_init cX9_init 1 none ∈ WA := wa_t 101 (by decide +kernel) rfl
theorem wi_X9_init : Cond.instanceMethod yX9_init ∈ WA := wa_t 100 (by decide +kernel) rfl
theorem wc_X9_clear : Cond.code yX9_clear cX9_clear 1 none ∈ WA := wa_t 762 (by decide +kernel) rfl
theorem wi_X9_clear : Cond.instanceMethod yX9_clear ∈ WA := wa_t 760 (by decide +kernel) rfl
theorem we_X9_clear : Cond.selects yX9_clear.cls yX9_clear yX9_clear ∈ WA := wa_t 761 (by decide +kernel) rfl
theorem wc_X9_length : Cond.code yX9_length cX9_length 1 (some .int) ∈ WA := wa_t 374 (by decide +kernel) rfl
theorem wi_X9_length : Cond.instanceMethod yX9_length ∈ WA := wa_t 372 (by decide +kernel) rfl
theorem we_X9_length : Cond.selects yX9_length.cls yX9_length yX9_length ∈ WA := wa_t 373 (by decide +kernel) rfl
theorem wc_X9_add : Cond.code yX9_add cX9_add 3 none ∈ WA := wa_t 846 (by decide +kernel) rfl
theorem wi_X9_add : Cond.instanceMethod yX9_add ∈ WA := wa_t 844 (by decide +kernel) rfl
theorem we_X9_add : Cond.selects yX9_add.cls yX9_add yX9_add ∈ WA := wa_t 845 (by decide +kernel) rfl
theorem wc_X9_forgetOldest : Cond.code yX9_forgetOldest cX9_forgetOldest 2 none ∈ WA := wa_t 850 (by decide +kernel) rfl
theorem wi_X9_forgetOldest : Cond.instanceMethod yX9_forgetOldest ∈ WA := wa_t 849 (by decide +kernel) rfl
theorem we_X9_forgetOldest : Cond.selects yX9_forgetOldest.cls yX9_forgetOldest yX9_forgetOldest ∈ WA := wa_s (q := (yX9_forgetOldest, _)) 21 rfl rfl
theorem wc_X9_lastMove : Cond.code yX9_lastMove cX9_lastMove 2 (some .int) ∈ WA := wa_t 862 (by decide +kernel) rfl
theorem wi_X9_lastMove : Cond.instanceMethod yX9_lastMove ∈ WA := wa_t 860 (by decide +kernel) rfl
theorem we_X9_lastMove : Cond.selects yX9_lastMove.cls yX9_lastMove yX9_lastMove ∈ WA := wa_t 861 (by decide +kernel) rfl
theorem wc_X9_lastTaken : Cond.code yX9_lastTaken cX9_lastTaken 2 (some .int) ∈ WA := wa_t 866 (by decide +kernel) rfl
theorem wi_X9_lastTaken : Cond.instanceMethod yX9_lastTaken ∈ WA := wa_t 864 (by decide +kernel) rfl
theorem we_X9_lastTaken : Cond.selects yX9_lastTaken.cls yX9_lastTaken yX9_lastTaken ∈ WA := wa_t 865 (by decide +kernel) rfl
theorem wc_X9_dropLast : Cond.code yX9_dropLast cX9_dropLast 1 none ∈ WA := wa_t 871 (by decide +kernel) rfl
theorem wi_X9_dropLast : Cond.instanceMethod yX9_dropLast ∈ WA := wa_t 869 (by decide +kernel) rfl
theorem we_X9_dropLast : Cond.selects yX9_dropLast.cls yX9_dropLast yX9_dropLast ∈ WA := wa_t 870 (by decide +kernel) rfl
theorem wc_X10_init : Cond.code yX10_init cX10_init 4 none ∈ WA := wa_t 181 (by decide +kernel) rfl
theorem wi_X10_init : Cond.instanceMethod yX10_init ∈ WA := wa_t 180 (by decide +kernel) rfl
theorem wc_X10_countWays : Cond.code yX10_countWays cX10_countWays 5 (some .int) ∈ WA := wa_t 581 (by decide +kernel) rfl
theorem wi_X10_countWays : Cond.instanceMethod yX10_countWays ∈ WA := wa_t 580 (by decide +kernel) rfl
theorem we_X10_countWays : Cond.selects yX10_countWays.cls yX10_countWays yX10_countWays ∈ WA := wa_s (q := (yX10_countWays, _)) 9 rfl rfl
theorem wc_X10_countBehind : Cond.code yX10_countBehind cX10_countBehind 5 (some .int) ∈ WA := wa_t 596 (by decide +kernel) rfl
theorem wi_X10_countBehind : Cond.instanceMethod yX10_countBehind ∈ WA := wa_t 595 (by decide +kernel) rfl
theorem we_X10_countBehind : Cond.selects yX10_countBehind.cls yX10_countBehind yX10_countBehind ∈ WA := wa_s (q := (yX10_countBehind, _)) 10 rfl rfl
theorem wc_X10_worth : Cond.code yX10_worth cX10_worth 8 (some .int) ∈ WA := wa_t 615 (by decide +kernel) rfl
theorem wi_X10_worth : Cond.instanceMethod yX10_worth ∈ WA := wa_t 614 (by decide +kernel) rfl
theorem we_X10_worth : Cond.selects yX10_worth.cls yX10_worth yX10_worth ∈ WA := wa_s (q := (yX10_worth, _)) 11 rfl rfl
theorem wc_X10_worthBehind : Cond.code yX10_worthBehind cX10_worthBehind 7 (some .int) ∈ WA := wa_t 643 (by decide +kernel) rfl
theorem wi_X10_worthBehind : Cond.instanceMethod yX10_worthBehind ∈ WA := wa_t 642 (by decide +kernel) rfl
theorem we_X10_worthBehind : Cond.selects yX10_worthBehind.cls yX10_worthBehind yX10_worthBehind ∈ WA := wa_s (q := (yX10_worthBehind, _)) 14 rfl rfl
theorem wc_X11_init : Cond.code yX11_init cX11_init 2 none ∈ WA := wa_t 27 (by decide +kernel) rfl
theorem wi_X11_init : Cond.instanceMethod yX11_init ∈ WA := wa_t 26 (by decide +kernel) rfl
theorem wc_X11_setUp : Cond.code yX11_setUp cX11_setUp 4 (some .int) ∈ WA := wa_t 679 (by decide +kernel) rfl
theorem wi_X11_setUp : Cond.instanceMethod yX11_setUp ∈ WA := wa_t 677 (by decide +kernel) rfl
theorem we_X11_setUp : Cond.selects yX11_setUp.cls yX11_setUp yX11_setUp ∈ WA := wa_t 678 (by decide +kernel) rfl
theorem wc_X11_put : Cond.code yX11_put cX11_put 4 (some .int) ∈ WA := wa_t 771 (by decide +kernel) rfl
theorem wi_X11_put : Cond.instanceMethod yX11_put ∈ WA := wa_t 769 (by decide +kernel) rfl
theorem we_X11_put : Cond.selects yX11_put.cls yX11_put yX11_put ∈ WA := wa_t 770 (by decide +kernel) rfl
theorem wc_X11_setSide : Cond.code yX11_setSide cX11_setSide 3 (some .int) ∈ WA := wa_t 820 (by decide +kernel) rfl
theorem wi_X11_setSide : Cond.instanceMethod yX11_setSide ∈ WA := wa_t 818 (by decide +kernel) rfl
theorem we_X11_setSide : Cond.selects yX11_setSide.cls yX11_setSide yX11_setSide ∈ WA := wa_t 819 (by decide +kernel) rfl
theorem wc_X11_play : Cond.code yX11_play cX11_play 2 (some .int) ∈ WA := wa_t 832 (by decide +kernel) rfl
theorem wi_X11_play : Cond.instanceMethod yX11_play ∈ WA := wa_t 830 (by decide +kernel) rfl
theorem we_X11_play : Cond.selects yX11_play.cls yX11_play yX11_play ∈ WA := wa_t 831 (by decide +kernel) rfl
theorem wc_X11_back : Cond.code yX11_back cX11_back 1 (some .int) ∈ WA := wa_t 857 (by decide +kernel) rfl
theorem wi_X11_back : Cond.instanceMethod yX11_back ∈ WA := wa_t 855 (by decide +kernel) rfl
theorem we_X11_back : Cond.selects yX11_back.cls yX11_back yX11_back ∈ WA := wa_t 856 (by decide +kernel) rfl
theorem wc_X11_weigh : Cond.code yX11_weigh cX11_weigh 4 (some .int) ∈ WA := wa_t 878 (by decide +kernel) rfl
theorem wi_X11_weigh : Cond.instanceMethod yX11_weigh ∈ WA := wa_t 876 (by decide +kernel) rfl
theorem we_X11_weigh : Cond.selects yX11_weigh.cls yX11_weigh yX11_weigh ∈ WA := wa_t 877 (by decide +kernel) rfl
theorem wc_X11_setQuiet : Cond.code yX11_setQuiet cX11_setQuiet 3 (some .boolean) ∈ WA := wa_t 322 (by decide +kernel) rfl
theorem wi_X11_setQuiet : Cond.instanceMethod yX11_setQuiet ∈ WA := wa_t 320 (by decide +kernel) rfl
theorem we_X11_setQuiet : Cond.selects yX11_setQuiet.cls yX11_setQuiet yX11_setQuiet ∈ WA := wa_t 321 (by decide +kernel) rfl
theorem wc_X11_setSlots : Cond.code yX11_setSlots cX11_setSlots 3 (some .int) ∈ WA := wa_t 890 (by decide +kernel) rfl
theorem wi_X11_setSlots : Cond.instanceMethod yX11_setSlots ∈ WA := wa_t 888 (by decide +kernel) rfl
theorem we_X11_setSlots : Cond.selects yX11_setSlots.cls yX11_setSlots yX11_setSlots ∈ WA := wa_t 889 (by decide +kernel) rfl
theorem wc_X11_empty : Cond.code yX11_empty cX11_empty 2 (some .int) ∈ WA := wa_t 338 (by decide +kernel) rfl
theorem wi_X11_empty : Cond.instanceMethod yX11_empty ∈ WA := wa_t 336 (by decide +kernel) rfl
theorem we_X11_empty : Cond.selects yX11_empty.cls yX11_empty yX11_empty ∈ WA := wa_t 337 (by decide +kernel) rfl
theorem wc_X11_columns : Cond.code yX11_columns cX11_columns 1 (some .int) ∈ WA := wa_t 346 (by decide +kernel) rfl
theorem wi_X11_columns : Cond.instanceMethod yX11_columns ∈ WA := wa_t 344 (by decide +kernel) rfl
theorem we_X11_columns : Cond.selects yX11_columns.cls yX11_columns yX11_columns ∈ WA := wa_t 345 (by decide +kernel) rfl
theorem wc_X11_rows : Cond.code yX11_rows cX11_rows 1 (some .int) ∈ WA := wa_t 354 (by decide +kernel) rfl
theorem wi_X11_rows : Cond.instanceMethod yX11_rows ∈ WA := wa_t 352 (by decide +kernel) rfl
theorem we_X11_rows : Cond.selects yX11_rows.cls yX11_rows yX11_rows ∈ WA := wa_t 353 (by decide +kernel) rfl
theorem wc_X11_at : Cond.code yX11_at cX11_at 2 (some .int) ∈ WA := wa_t 903 (by decide +kernel) rfl
theorem wi_X11_at : Cond.instanceMethod yX11_at ∈ WA := wa_t 901 (by decide +kernel) rfl
theorem we_X11_at : Cond.selects yX11_at.cls yX11_at yX11_at ∈ WA := wa_t 902 (by decide +kernel) rfl
theorem wc_X11_side : Cond.code yX11_side cX11_side 1 (some .int) ∈ WA := wa_t 362 (by decide +kernel) rfl
theorem wi_X11_side : Cond.instanceMethod yX11_side ∈ WA := wa_t 360 (by decide +kernel) rfl
theorem we_X11_side : Cond.selects yX11_side.cls yX11_side yX11_side ∈ WA := wa_t 361 (by decide +kernel) rfl
theorem wc_X11_played : Cond.code yX11_played cX11_played 1 (some .int) ∈ WA := wa_t 370 (by decide +kernel) rfl
theorem wi_X11_played : Cond.instanceMethod yX11_played ∈ WA := wa_t 368 (by decide +kernel) rfl
theorem we_X11_played : Cond.selects yX11_played.cls yX11_played yX11_played ∈ WA := wa_t 369 (by decide +kernel) rfl
theorem wc_X11_moves : Cond.code yX11_moves cX11_moves 1 (some .int) ∈ WA := wa_t 378 (by decide +kernel) rfl
theorem wi_X11_moves : Cond.instanceMethod yX11_moves ∈ WA := wa_t 376 (by decide +kernel) rfl
theorem we_X11_moves : Cond.selects yX11_moves.cls yX11_moves yX11_moves ∈ WA := wa_t 377 (by decide +kernel) rfl
theorem wc_X11_from : Cond.code yX11_from cX11_from 2 (some .int) ∈ WA := wa_t 910 (by decide +kernel) rfl
theorem wi_X11_from : Cond.instanceMethod yX11_from ∈ WA := wa_t 908 (by decide +kernel) rfl
theorem we_X11_from : Cond.selects yX11_from.cls yX11_from yX11_from ∈ WA := wa_t 909 (by decide +kernel) rfl
theorem wc_X11_to : Cond.code yX11_to cX11_to 2 (some .int) ∈ WA := wa_t 917 (by decide +kernel) rfl
theorem wi_X11_to : Cond.instanceMethod yX11_to ∈ WA := wa_t 915 (by decide +kernel) rfl
theorem we_X11_to : Cond.selects yX11_to.cls yX11_to yX11_to ∈ WA := wa_t 916 (by decide +kernel) rfl
theorem wc_X11_takes : Cond.code yX11_takes cX11_takes 2 (some .boolean) ∈ WA := wa_t 924 (by decide +kernel) rfl
theorem wi_X11_takes : Cond.instanceMethod yX11_takes ∈ WA := wa_t 922 (by decide +kernel) rfl
theorem we_X11_takes : Cond.selects yX11_takes.cls yX11_takes yX11_takes ∈ WA := wa_t 923 (by decide +kernel) rfl
theorem wc_X11_isLost : Cond.code yX11_isLost cX11_isLost 1 (some .boolean) ∈ WA := wa_t 386 (by decide +kernel) rfl
theorem wi_X11_isLost : Cond.instanceMethod yX11_isLost ∈ WA := wa_t 384 (by decide +kernel) rfl
theorem we_X11_isLost : Cond.selects yX11_isLost.cls yX11_isLost yX11_isLost ∈ WA := wa_t 385 (by decide +kernel) rfl
theorem wc_X11_key : Cond.code yX11_key cX11_key 1 (some .long) ∈ WA := wa_t 394 (by decide +kernel) rfl
theorem wi_X11_key : Cond.instanceMethod yX11_key ∈ WA := wa_t 392 (by decide +kernel) rfl
theorem we_X11_key : Cond.selects yX11_key.cls yX11_key yX11_key ∈ WA := wa_t 393 (by decide +kernel) rfl
theorem wc_X11_evaluation : Cond.code yX11_evaluation cX11_evaluation 1 (some .int) ∈ WA := wa_t 404 (by decide +kernel) rfl
theorem wi_X11_evaluation : Cond.instanceMethod yX11_evaluation ∈ WA := wa_t 402 (by decide +kernel) rfl
theorem we_X11_evaluation : Cond.selects yX11_evaluation.cls yX11_evaluation yX11_evaluation ∈ WA := wa_t 403 (by decide +kernel) rfl
theorem wc_X11_ways : Cond.code yX11_ways cX11_ways 2 (some .int) ∈ WA := wa_t 932 (by decide +kernel) rfl
theorem wi_X11_ways : Cond.instanceMethod yX11_ways ∈ WA := wa_t 930 (by decide +kernel) rfl
theorem we_X11_ways : Cond.selects yX11_ways.cls yX11_ways yX11_ways ∈ WA := wa_t 931 (by decide +kernel) rfl
theorem wc_X11_value : Cond.code yX11_value cX11_value 2 (some .int) ∈ WA := wa_t 940 (by decide +kernel) rfl
theorem wi_X11_value : Cond.instanceMethod yX11_value ∈ WA := wa_t 938 (by decide +kernel) rfl
theorem we_X11_value : Cond.selects yX11_value.cls yX11_value yX11_value ∈ WA := wa_t 939 (by decide +kernel) rfl
theorem wc_X11_valueOf : Cond.code yX11_valueOf cX11_valueOf 3 (some .int) ∈ WA := wa_t 947 (by decide +kernel) rfl
theorem wi_X11_valueOf : Cond.instanceMethod yX11_valueOf ∈ WA := wa_t 945 (by decide +kernel) rfl
theorem we_X11_valueOf : Cond.selects yX11_valueOf.cls yX11_valueOf yX11_valueOf ∈ WA := wa_t 946 (by decide +kernel) rfl
theorem wc_X11_search : Cond.code yX11_search cX11_search 2 (some .int) ∈ WA := wa_t 956 (by decide +kernel) rfl
theorem wi_X11_search : Cond.instanceMethod yX11_search ∈ WA := wa_t 954 (by decide +kernel) rfl
theorem we_X11_search : Cond.selects yX11_search.cls yX11_search yX11_search ∈ WA := wa_t 955 (by decide +kernel) rfl
theorem wc_X11_bestFrom : Cond.code yX11_bestFrom cX11_bestFrom 1 (some .int) ∈ WA := wa_t 421 (by decide +kernel) rfl
theorem wi_X11_bestFrom : Cond.instanceMethod yX11_bestFrom ∈ WA := wa_t 419 (by decide +kernel) rfl
theorem we_X11_bestFrom : Cond.selects yX11_bestFrom.cls yX11_bestFrom yX11_bestFrom ∈ WA := wa_t 420 (by decide +kernel) rfl
theorem wc_X11_bestTo : Cond.code yX11_bestTo cX11_bestTo 1 (some .int) ∈ WA := wa_t 432 (by decide +kernel) rfl
theorem wi_X11_bestTo : Cond.instanceMethod yX11_bestTo ∈ WA := wa_t 430 (by decide +kernel) rfl
theorem we_X11_bestTo : Cond.selects yX11_bestTo.cls yX11_bestTo yX11_bestTo ∈ WA := wa_t 431 (by decide +kernel) rfl
theorem wc_X11_reached : Cond.code yX11_reached cX11_reached 1 (some .int) ∈ WA := wa_t 439 (by decide +kernel) rfl
theorem wi_X11_reached : Cond.instanceMethod yX11_reached ∈ WA := wa_t 437 (by decide +kernel) rfl
theorem we_X11_reached : Cond.selects yX11_reached.cls yX11_reached yX11_reached ∈ WA := wa_t 438 (by decide +kernel) rfl
theorem wc_X11_nodes : Cond.code yX11_nodes cX11_nodes 1 (some .int) ∈ WA := wa_t 447 (by decide +kernel) rfl
theorem wi_X11_nodes : Cond.instanceMethod yX11_nodes ∈ WA := wa_t 445 (by decide +kernel) rfl
theorem we_X11_nodes : Cond.selects yX11_nodes.cls yX11_nodes yX11_nodes ∈ WA := wa_t 446 (by decide +kernel) rfl
theorem wc_X11_hits : Cond.code yX11_hits cX11_hits 1 (some .int) ∈ WA := wa_t 459 (by decide +kernel) rfl
theorem wi_X11_hits : Cond.instanceMethod yX11_hits ∈ WA := wa_t 457 (by decide +kernel) rfl
theorem we_X11_hits : Cond.selects yX11_hits.cls yX11_hits yX11_hits ∈ WA := wa_t 458 (by decide +kernel) rfl
theorem wc_X11_cuts : Cond.code yX11_cuts cX11_cuts 1 (some .int) ∈ WA := wa_t 467 (by decide +kernel) rfl
theorem wi_X11_cuts : Cond.instanceMethod yX11_cuts ∈ WA := wa_t 465 (by decide +kernel) rfl
theorem we_X11_cuts : Cond.selects yX11_cuts.cls yX11_cuts yX11_cuts ∈ WA := wa_t 466 (by decide +kernel) rfl
theorem wc_X11_killer : Cond.code yX11_killer cX11_killer 3 (some .int) ∈ WA := wa_t 475 (by decide +kernel) rfl
theorem wi_X11_killer : Cond.instanceMethod yX11_killer ∈ WA := wa_t 473 (by decide +kernel) rfl
theorem we_X11_killer : Cond.selects yX11_killer.cls yX11_killer yX11_killer ∈ WA := wa_t 474 (by decide +kernel) rfl
theorem wc_X11_slots : Cond.code yX11_slots cX11_slots 1 (some .int) ∈ WA := wa_t 491 (by decide +kernel) rfl
theorem wi_X11_slots : Cond.instanceMethod yX11_slots ∈ WA := wa_t 489 (by decide +kernel) rfl
theorem we_X11_slots : Cond.selects yX11_slots.cls yX11_slots yX11_slots ∈ WA := wa_t 490 (by decide +kernel) rfl
theorem wc_X11_entries : Cond.code yX11_entries cX11_entries 1 (some .int) ∈ WA := wa_t 499 (by decide +kernel) rfl
theorem wi_X11_entries : Cond.instanceMethod yX11_entries ∈ WA := wa_t 497 (by decide +kernel) rfl
theorem we_X11_entries : Cond.selects yX11_entries.cls yX11_entries yX11_entries ∈ WA := wa_t 498 (by decide +kernel) rfl
theorem wc_X11_ofSlot : Cond.code yX11_ofSlot cX11_ofSlot 3 (some .int) ∈ WA := wa_t 1038 (by decide +kernel) rfl
theorem wi_X11_ofSlot : Cond.instanceMethod yX11_ofSlot ∈ WA := wa_t 1036 (by decide +kernel) rfl
theorem we_X11_ofSlot : Cond.selects yX11_ofSlot.cls yX11_ofSlot yX11_ofSlot ∈ WA := wa_t 1037 (by decide +kernel) rfl
theorem wc_X11_known : Cond.code yX11_known cX11_known 1 (some .int) ∈ WA := wa_t 503 (by decide +kernel) rfl
theorem wi_X11_known : Cond.instanceMethod yX11_known ∈ WA := wa_t 501 (by decide +kernel) rfl
theorem we_X11_known : Cond.selects yX11_known.cls yX11_known yX11_known ∈ WA := wa_t 502 (by decide +kernel) rfl
theorem wc_X11_teach : Cond.code yX11_teach cX11_teach 6 (some .int) ∈ WA := wa_t 1048 (by decide +kernel) rfl
theorem wi_X11_teach : Cond.instanceMethod yX11_teach ∈ WA := wa_t 1046 (by decide +kernel) rfl
theorem we_X11_teach : Cond.selects yX11_teach.cls yX11_teach yX11_teach ∈ WA := wa_t 1047 (by decide +kernel) rfl
theorem wc_X11_told : Cond.code yX11_told cX11_told 1 (some .int) ∈ WA := wa_t 525 (by decide +kernel) rfl
theorem wi_X11_told : Cond.instanceMethod yX11_told ∈ WA := wa_t 523 (by decide +kernel) rfl
theorem we_X11_told : Cond.selects yX11_told.cls yX11_told yX11_told ∈ WA := wa_t 524 (by decide +kernel) rfl
theorem wc_X11_go : Cond.code yX11_go cX11_go 2 (some .int) ∈ WA := wa_t 1067 (by decide +kernel) rfl
theorem wi_X11_go : Cond.instanceMethod yX11_go ∈ WA := wa_t 1065 (by decide +kernel) rfl
theorem we_X11_go : Cond.selects yX11_go.cls yX11_go yX11_go ∈ WA := wa_t 1066 (by decide +kernel) rfl
theorem wc_X11_playOut : Cond.code yX11_playOut cX11_playOut 4 (some .int) ∈ WA := wa_t 1079 (by decide +kernel) rfl
theorem wi_X11_playOut : Cond.instanceMethod yX11_playOut ∈ WA := wa_t 1077 (by decide +kernel) rfl
theorem we_X11_playOut : Cond.selects yX11_playOut.cls yX11_playOut yX11_playOut ∈ WA := wa_t 1078 (by decide +kernel) rfl
theorem wc_X11_pages : Cond.code yX11_pages cX11_pages 1 (some .int) ∈ WA := wa_t 546 (by decide +kernel) rfl
theorem wi_X11_pages : Cond.instanceMethod yX11_pages ∈ WA := wa_t 544 (by decide +kernel) rfl
theorem we_X11_pages : Cond.selects yX11_pages.cls yX11_pages yX11_pages ∈ WA := wa_t 545 (by decide +kernel) rfl
theorem wc_X11_effort : Cond.code yX11_effort cX11_effort 2 (some .double) ∈ WA := wa_t 554 (by decide +kernel) rfl
theorem wi_X11_effort : Cond.instanceMethod yX11_effort ∈ WA := wa_t 552 (by decide +kernel) rfl
theorem we_X11_effort : Cond.selects yX11_effort.cls yX11_effort yX11_effort ∈ WA := wa_t 553 (by decide +kernel) rfl
theorem wc_X11_digest : Cond.code yX11_digest cX11_digest 3 (some .long) ∈ WA := wa_t 558 (by decide +kernel) rfl
theorem wi_X11_digest : Cond.instanceMethod yX11_digest ∈ WA := wa_t 556 (by decide +kernel) rfl
theorem we_X11_digest : Cond.selects yX11_digest.cls yX11_digest yX11_digest ∈ WA := wa_t 557 (by decide +kernel) rfl
theorem wc_X11_addBoard : Cond.code yX11_addBoard cX11_addBoard 7 (some .long) ∈ WA := wa_t 563 (by decide +kernel) rfl
theorem wi_X11_addBoard : Cond.instanceMethod yX11_addBoard ∈ WA := wa_t 562 (by decide +kernel) rfl
theorem we_X11_addBoard : Cond.selects yX11_addBoard.cls yX11_addBoard yX11_addBoard ∈ WA := wa_s (q := (yX11_addBoard, _)) 7 rfl rfl
theorem wc_X11_addMoves : Cond.code yX11_addMoves cX11_addMoves 6 (some .long) ∈ WA := wa_t 576 (by decide +kernel) rfl
theorem wi_X11_addMoves : Cond.instanceMethod yX11_addMoves ∈ WA := wa_t 575 (by decide +kernel) rfl
theorem we_X11_addMoves : Cond.selects yX11_addMoves.cls yX11_addMoves yX11_addMoves ∈ WA := wa_s (q := (yX11_addMoves, _)) 8 rfl rfl
theorem wc_X11_addSearch : Cond.code yX11_addSearch cX11_addSearch 6 (some .long) ∈ WA := wa_t 649 (by decide +kernel) rfl
theorem wi_X11_addSearch : Cond.instanceMethod yX11_addSearch ∈ WA := wa_t 648 (by decide +kernel) rfl
theorem we_X11_addSearch : Cond.selects yX11_addSearch.cls yX11_addSearch yX11_addSearch ∈ WA := wa_s (q := (yX11_addSearch, _)) 15 rfl rfl
theorem wc_X11_addTable : Cond.code yX11_addTable cX11_addTable 7 (some .long) ∈ WA := wa_t 653 (by decide +kernel) rfl
theorem wi_X11_addTable : Cond.instanceMethod yX11_addTable ∈ WA := wa_t 652 (by decide +kernel) rfl
theorem we_X11_addTable : Cond.selects yX11_addTable.cls yX11_addTable yX11_addTable ∈ WA := wa_s (q := (yX11_addTable, _)) 16 rfl rfl
theorem wc_X11_join : Cond.code yX11_join cX11_join 4 (some .long) ∈ WA := wa_t 566 (by decide +kernel) rfl
theorem ws_X11_join : Cond.static yX11_join ∈ WA := wa_t 565 (by decide +kernel) rfl
theorem wc_X11_isWithin : Cond.code yX11_isWithin cX11_isWithin 3 (some .boolean) ∈ WA := wa_t 682 (by decide +kernel) rfl
theorem ws_X11_isWithin : Cond.static yX11_isWithin ∈ WA := wa_t 681 (by decide +kernel) rfl
theorem wc_X11_fromOf : Cond.code yX11_fromOf cX11_fromOf 1 (some .int) ∈ WA := wa_t 428 (by decide +kernel) rfl
theorem ws_X11_fromOf : Cond.static yX11_fromOf ∈ WA := wa_t 427 (by decide +kernel) rfl
theorem wc_X11_toOf : Cond.code yX11_toOf cX11_toOf 1 (some .int) ∈ WA := wa_t 435 (by decide +kernel) rfl
theorem ws_X11_toOf : Cond.static yX11_toOf ∈ WA := wa_t 434 (by decide +kernel) rfl
theorem wc_X11_isOver : Cond.code yX11_isOver cX11_isOver 1 (some .boolean) ∈ WA := wa_t 390 (by decide +kernel) rfl
theorem wi_X11_isOver : Cond.instanceMethod yX11_isOver ∈ WA := wa_t 389 (by decide +kernel) rfl
theorem we_X11_isOver : Cond.selects yX11_isOver.cls yX11_isOver yX11_isOver ∈ WA := wa_s (q := (yX11_isOver, _)) 2 rfl rfl
theorem wc_X11_startAnew : Cond.code yX11_startAnew cX11_startAnew 1 none ∈ WA := wa_t 758 (by decide +kernel) rfl
theorem wi_X11_startAnew : Cond.instanceMethod yX11_startAnew ∈ WA := wa_t 757 (by decide +kernel) rfl
theorem we_X11_startAnew : Cond.selects yX11_startAnew.cls yX11_startAnew yX11_startAnew ∈ WA := wa_s (q := (yX11_startAnew, _)) 19 rfl rfl
theorem wc_X11_playHere : Cond.code yX11_playHere cX11_playHere 4 (some .int) ∈ WA := wa_t 841 (by decide +kernel) rfl
theorem wi_X11_playHere : Cond.instanceMethod yX11_playHere ∈ WA := wa_t 840 (by decide +kernel) rfl
theorem we_X11_playHere : Cond.selects yX11_playHere.cls yX11_playHere yX11_playHere ∈ WA := wa_s (q := (yX11_playHere, _)) 20 rfl rfl
theorem wc_X11_goOn : Cond.code yX11_goOn cX11_goOn 3 (some .int) ∈ WA := wa_t 1071 (by decide +kernel) rfl
theorem wi_X11_goOn : Cond.instanceMethod yX11_goOn ∈ WA := wa_t 1070 (by decide +kernel) rfl
theorem we_X11_goOn : Cond.selects yX11_goOn.cls yX11_goOn yX11_goOn ∈ WA := wa_s (q := (yX11_goOn, _)) 27 rfl rfl
theorem wc_X12_init : Cond.code yX12_init cX12_init 1 none ∈ WA := wa_t 1085 (by decide +kernel) rfl
theorem wi_X12_init : Cond.instanceMethod yX12_init ∈ WA := wa_t 1084 (by decide +kernel) rfl
theorem wc_X12_thrown : Cond.code yX12_thrown cX12_thrown 1 (some .int) ∈ WA := wa_t 1183 (by decide +kernel) rfl
theorem wi_X12_thrown : Cond.instanceMethod yX12_thrown ∈ WA := wa_t 1181 (by decide +kernel) rfl
theorem we_X12_thrown : Cond.selects yX12_thrown.cls yX12_thrown yX12_thrown ∈ WA := wa_t 1182 (by decide +kernel) rfl
theorem wc_X12_refuse : Cond.code yX12_refuse cX12_refuse 2 (some .int) ∈ WA := wa_t 1194 (by decide +kernel) rfl
theorem wi_X12_refuse : Cond.instanceMethod yX12_refuse ∈ WA := wa_t 1193 (by decide +kernel) rfl
theorem we_X12_refuse : Cond.selects yX12_refuse.cls yX12_refuse yX12_refuse ∈ WA := wa_s (q := (yX12_refuse, _)) 31 rfl rfl
theorem wc_X12_is : Cond.code yX12_is cX12_is 3 (some .boolean) ∈ WA := wa_t 1190 (by decide +kernel) rfl
theorem ws_X12_is : Cond.static yX12_is ∈ WA := wa_t 1189 (by decide +kernel) rfl
theorem wc_X12_lay : Cond.code yX12_lay cX12_lay 5 none ∈ WA := wa_t 1092 (by decide +kernel) rfl
theorem wi_X12_lay : Cond.instanceMethod yX12_lay ∈ WA := wa_t 1091 (by decide +kernel) rfl
theorem we_X12_lay : Cond.selects yX12_lay.cls yX12_lay yX12_lay ∈ WA := wa_s (q := (yX12_lay, _)) 28 rfl rfl
theorem wc_X12_sideNow : Cond.code yX12_sideNow cX12_sideNow 1 (some .int) ∈ WA := wa_t 1214 (by decide +kernel) rfl
theorem wi_X12_sideNow : Cond.instanceMethod yX12_sideNow ∈ WA := wa_t 1213 (by decide +kernel) rfl
theorem we_X12_sideNow : Cond.selects yX12_sideNow.cls yX12_sideNow yX12_sideNow ∈ WA := wa_s (q := (yX12_sideNow, _)) 34 rfl rfl
theorem wc_X12_goal : Cond.code yX12_goal cX12_goal 2 (some .int) ∈ WA := wa_t 1234 (by decide +kernel) rfl
theorem wi_X12_goal : Cond.instanceMethod yX12_goal ∈ WA := wa_t 1233 (by decide +kernel) rfl
theorem we_X12_goal : Cond.selects yX12_goal.cls yX12_goal yX12_goal ∈ WA := wa_s (q := (yX12_goal, _)) 38 rfl rfl
theorem wc_X12_target : Cond.code yX12_target cX12_target 6 (some .int) ∈ WA := wa_t 1246 (by decide +kernel) rfl
theorem wi_X12_target : Cond.instanceMethod yX12_target ∈ WA := wa_t 1245 (by decide +kernel) rfl
theorem we_X12_target : Cond.selects yX12_target.cls yX12_target yX12_target ∈ WA := wa_s (q := (yX12_target, _)) 41 rfl rfl
theorem wc_X12_isStep : Cond.code yX12_isStep cX12_isStep 5 (some .boolean) ∈ WA := wa_t 1242 (by decide +kernel) rfl
theorem wi_X12_isStep : Cond.instanceMethod yX12_isStep ∈ WA := wa_t 1241 (by decide +kernel) rfl
theorem we_X12_isStep : Cond.selects yX12_isStep.cls yX12_isStep yX12_isStep ∈ WA := wa_s (q := (yX12_isStep, _)) 40 rfl rfl
theorem wc_X12_countSteps : Cond.code yX12_countSteps cX12_countSteps 5 (some .int) ∈ WA := wa_t 1238 (by decide +kernel) rfl
theorem wi_X12_countSteps : Cond.instanceMethod yX12_countSteps ∈ WA := wa_t 1237 (by decide +kernel) rfl
theorem we_X12_countSteps : Cond.selects yX12_countSteps.cls yX12_countSteps yX12_countSteps ∈ WA := wa_s (q := (yX12_countSteps, _)) 39 rfl rfl
theorem wc_X12_isLostNow : Cond.code yX12_isLostNow cX12_isLostNow 3 (some .boolean) ∈ WA := wa_t 1230 (by decide +kernel) rfl
theorem wi_X12_isLostNow : Cond.instanceMethod yX12_isLostNow ∈ WA := wa_t 1229 (by decide +kernel) rfl
theorem we_X12_isLostNow : Cond.selects yX12_isLostNow.cls yX12_isLostNow yX12_isLostNow ∈ WA := wa_s (q := (yX12_isLostNow, _)) 37 rfl rfl
theorem wc_X12_list : Cond.code yX12_list cX12_list 5 (some .int) ∈ WA := wa_t 1226 (by decide +kernel) rfl
theorem wi_X12_list : Cond.instanceMethod yX12_list ∈ WA := wa_t 1225 (by decide +kernel) rfl
theorem we_X12_list : Cond.selects yX12_list.cls yX12_list yX12_list ∈ WA := wa_s (q := (yX12_list, _)) 36 rfl rfl
theorem wc_X12_isTaking : Cond.code yX12_isTaking cX12_isTaking 2 (some .boolean) ∈ WA := wa_t 1332 (by decide +kernel) rfl
theorem wi_X12_isTaking : Cond.instanceMethod yX12_isTaking ∈ WA := wa_t 1331 (by decide +kernel) rfl
theorem we_X12_isTaking : Cond.selects yX12_isTaking.cls yX12_isTaking yX12_isTaking ∈ WA := wa_s (q := (yX12_isTaking, _)) 47 rfl rfl
theorem wc_X12_make : Cond.code yX12_make cX12_make 3 (some .int) ∈ WA := wa_t 1257 (by decide +kernel) rfl
theorem wi_X12_make : Cond.instanceMethod yX12_make ∈ WA := wa_t 1256 (by decide +kernel) rfl
theorem we_X12_make : Cond.selects yX12_make.cls yX12_make yX12_make ∈ WA := wa_s (q := (yX12_make, _)) 43 rfl rfl
theorem wc_X12_unmake : Cond.code yX12_unmake cX12_unmake 3 none ∈ WA := wa_t 1265 (by decide +kernel) rfl
theorem wi_X12_unmake : Cond.instanceMethod yX12_unmake ∈ WA := wa_t 1264 (by decide +kernel) rfl
theorem we_X12_unmake : Cond.selects yX12_unmake.cls yX12_unmake yX12_unmake ∈ WA := wa_s (q := (yX12_unmake, _)) 44 rfl rfl
theorem wc_X12_keyNow : Cond.code yX12_keyNow cX12_keyNow 4 (some .long) ∈ WA := wa_t 1344 (by decide +kernel) rfl
theorem wi_X12_keyNow : Cond.instanceMethod yX12_keyNow ∈ WA := wa_t 1343 (by decide +kernel) rfl
theorem we_X12_keyNow : Cond.selects yX12_keyNow.cls yX12_keyNow yX12_keyNow ∈ WA := wa_s (q := (yX12_keyNow, _)) 48 rfl rfl
theorem wc_X12_worth : Cond.code yX12_worth cX12_worth 4 (some .int) ∈ WA := wa_t 1277 (by decide +kernel) rfl
theorem wi_X12_worth : Cond.instanceMethod yX12_worth ∈ WA := wa_t 1276 (by decide +kernel) rfl
theorem we_X12_worth : Cond.selects yX12_worth.cls yX12_worth yX12_worth ∈ WA := wa_s (q := (yX12_worth, _)) 46 rfl rfl
theorem wc_X12_evaluated : Cond.code yX12_evaluated cX12_evaluated 1 (some .int) ∈ WA := wa_t 1273 (by decide +kernel) rfl
theorem wi_X12_evaluated : Cond.instanceMethod yX12_evaluated ∈ WA := wa_t 1272 (by decide +kernel) rfl
theorem we_X12_evaluated : Cond.selects yX12_evaluated.cls yX12_evaluated yX12_evaluated ∈ WA := wa_s (q := (yX12_evaluated, _)) 45 rfl rfl
theorem wc_X12_quietValue : Cond.code yX12_quietValue cX12_quietValue 8 (some .int) ∈ WA := wa_t 1370 (by decide +kernel) rfl
theorem wi_X12_quietValue : Cond.instanceMethod yX12_quietValue ∈ WA := wa_t 1369 (by decide +kernel) rfl
theorem we_X12_quietValue : Cond.selects yX12_quietValue.cls yX12_quietValue yX12_quietValue ∈ WA := wa_s (q := (yX12_quietValue, _)) 51 rfl rfl
theorem wc_X12_valueNow : Cond.code yX12_valueNow cX12_valueNow 6 (some .int) ∈ WA := wa_t 1366 (by decide +kernel) rfl
theorem wi_X12_valueNow : Cond.instanceMethod yX12_valueNow ∈ WA := wa_t 1365 (by decide +kernel) rfl
theorem we_X12_valueNow : Cond.selects yX12_valueNow.cls yX12_valueNow yX12_valueNow ∈ WA := wa_s (q := (yX12_valueNow, _)) 50 rfl rfl
theorem wc_X12_valueBehind : Cond.code yX12_valueBehind cX12_valueBehind 7 (some .int) ∈ WA := wa_t 1376 (by decide +kernel) rfl
theorem wi_X12_valueBehind : Cond.instanceMethod yX12_valueBehind ∈ WA := wa_t 1375 (by decide +kernel) rfl
theorem we_X12_valueBehind : Cond.selects yX12_valueBehind.cls yX12_valueBehind yX12_valueBehind ∈ WA := wa_s (q := (yX12_valueBehind, _)) 52 rfl rfl
theorem wc_X12_waysNow : Cond.code yX12_waysNow cX12_waysNow 8 (some .int) ∈ WA := wa_t 1358 (by decide +kernel) rfl
theorem wi_X12_waysNow : Cond.instanceMethod yX12_waysNow ∈ WA := wa_t 1357 (by decide +kernel) rfl
theorem we_X12_waysNow : Cond.selects yX12_waysNow.cls yX12_waysNow yX12_waysNow ∈ WA := wa_s (q := (yX12_waysNow, _)) 49 rfl rfl
theorem wc_X12_clear : Cond.code yX12_clear cX12_clear 7 (some .int) ∈ WA := wa_t 1096 (by decide +kernel) rfl
theorem wi_X12_clear : Cond.instanceMethod yX12_clear ∈ WA := wa_t 1095 (by decide +kernel) rfl
theorem we_X12_clear : Cond.selects yX12_clear.cls yX12_clear yX12_clear ∈ WA := wa_s (q := (yX12_clear, _)) 29 rfl rfl
theorem wc_X12_entriesNow : Cond.code yX12_entriesNow cX12_entriesNow 6 (some .int) ∈ WA := wa_t 1100 (by decide +kernel) rfl
theorem wi_X12_entriesNow : Cond.instanceMethod yX12_entriesNow ∈ WA := wa_t 1099 (by decide +kernel) rfl
theorem we_X12_entriesNow : Cond.selects yX12_entriesNow.cls yX12_entriesNow yX12_entriesNow ∈ WA := wa_s (q := (yX12_entriesNow, _)) 30 rfl rfl
theorem wc_X12_slotOf : Cond.code yX12_slotOf cX12_slotOf 4 (some .int) ∈ WA := wa_t 1403 (by decide +kernel) rfl
theorem wi_X12_slotOf : Cond.instanceMethod yX12_slotOf ∈ WA := wa_t 1402 (by decide +kernel) rfl
theorem we_X12_slotOf : Cond.selects yX12_slotOf.cls yX12_slotOf yX12_slotOf ∈ WA := wa_s (q := (yX12_slotOf, _)) 56 rfl rfl
theorem wc_X12_keep : Cond.code yX12_keep cX12_keep 6 none ∈ WA := wa_t 1425 (by decide +kernel) rfl
theorem wi_X12_keep : Cond.instanceMethod yX12_keep ∈ WA := wa_t 1424 (by decide +kernel) rfl
theorem we_X12_keep : Cond.selects yX12_keep.cls yX12_keep yX12_keep ∈ WA := wa_s (q := (yX12_keep, _)) 60 rfl rfl
theorem wc_X12_order : Cond.code yX12_order cX12_order 7 (some .int) ∈ WA := wa_t 1410 (by decide +kernel) rfl
theorem wi_X12_order : Cond.instanceMethod yX12_order ∈ WA := wa_t 1409 (by decide +kernel) rfl
theorem we_X12_order : Cond.selects yX12_order.cls yX12_order yX12_order ∈ WA := wa_s (q := (yX12_order, _)) 57 rfl rfl
theorem wc_X12_want : Cond.code yX12_want cX12_want 5 (some .int) ∈ WA := wa_t 1414 (by decide +kernel) rfl
theorem wi_X12_want : Cond.instanceMethod yX12_want ∈ WA := wa_t 1413 (by decide +kernel) rfl
theorem we_X12_want : Cond.selects yX12_want.cls yX12_want yX12_want ∈ WA := wa_s (q := (yX12_want, _)) 58 rfl rfl
theorem wc_X12_has : Cond.code yX12_has cX12_has 4 (some .boolean) ∈ WA := wa_t 1417 (by decide +kernel) rfl
theorem ws_X12_has : Cond.static yX12_has ∈ WA := wa_t 1416 (by decide +kernel) rfl
theorem wc_X12_searched : Cond.code yX12_searched cX12_searched 13 (some .int) ∈ WA := wa_t 1395 (by decide +kernel) rfl
theorem wi_X12_searched : Cond.instanceMethod yX12_searched ∈ WA := wa_t 1394 (by decide +kernel) rfl
theorem we_X12_searched : Cond.selects yX12_searched.cls yX12_searched yX12_searched ∈ WA := wa_s (q := (yX12_searched, _)) 54 rfl rfl
theorem wc_X12_answers : Cond.code yX12_answers cX12_answers 3 (some .boolean) ∈ WA := wa_t 1406 (by decide +kernel) rfl
theorem ws_X12_answers : Cond.static yX12_answers ∈ WA := wa_t 1405 (by decide +kernel) rfl
theorem wc_X12_cut : Cond.code yX12_cut cX12_cut 3 none ∈ WA := wa_t 1421 (by decide +kernel) rfl
theorem wi_X12_cut : Cond.instanceMethod yX12_cut ∈ WA := wa_t 1420 (by decide +kernel) rfl
theorem we_X12_cut : Cond.selects yX12_cut.cls yX12_cut yX12_cut ∈ WA := wa_s (q := (yX12_cut, _)) 59 rfl rfl
theorem wc_X12_quietly : Cond.code yX12_quietly cX12_quietly 10 (some .int) ∈ WA := wa_t 1399 (by decide +kernel) rfl
theorem wi_X12_quietly : Cond.instanceMethod yX12_quietly ∈ WA := wa_t 1398 (by decide +kernel) rfl
theorem we_X12_quietly : Cond.selects yX12_quietly.cls yX12_quietly yX12_quietly ∈ WA := wa_s (q := (yX12_quietly, _)) 55 rfl rfl
theorem wc_X12_searchNow : Cond.code yX12_searchNow cX12_searchNow 6 (some .int) ∈ WA := wa_t 1388 (by decide +kernel) rfl
theorem wi_X12_searchNow : Cond.instanceMethod yX12_searchNow ∈ WA := wa_t 1387 (by decide +kernel) rfl
theorem we_X12_searchNow : Cond.selects yX12_searchNow.cls yX12_searchNow yX12_searchNow ∈ WA := wa_s (q := (yX12_searchNow, _)) 53 rfl rfl
theorem wc_X12_pageOf : Cond.code yX12_pageOf cX12_pageOf 5 (some .int) ∈ WA := wa_t 1489 (by decide +kernel) rfl
theorem wi_X12_pageOf : Cond.instanceMethod yX12_pageOf ∈ WA := wa_t 1488 (by decide +kernel) rfl
theorem we_X12_pageOf : Cond.selects yX12_pageOf.cls yX12_pageOf yX12_pageOf ∈ WA := wa_s (q := (yX12_pageOf, _)) 64 rfl rfl
theorem wc_X12_toldNow : Cond.code yX12_toldNow cX12_toldNow 6 (some .int) ∈ WA := wa_t 1497 (by decide +kernel) rfl
theorem wi_X12_toldNow : Cond.instanceMethod yX12_toldNow ∈ WA := wa_t 1496 (by decide +kernel) rfl
theorem we_X12_toldNow : Cond.selects yX12_toldNow.cls yX12_toldNow yX12_toldNow ∈ WA := wa_s (q := (yX12_toldNow, _)) 65 rfl rfl
theorem wc_X12_setUp : Cond.code yX12_setUp cX12_setUp 4 (some .int) ∈ WA := wa_t 1187 (by decide +kernel) rfl
theorem wi_X12_setUp : Cond.instanceMethod yX12_setUp ∈ WA := wa_t 1185 (by decide +kernel) rfl
theorem we_X12_setUp : Cond.selects yX12_setUp.cls yX12_setUp yX12_setUp ∈ WA := wa_t 1186 (by decide +kernel) rfl
theorem wc_X12_pawns : Cond.code yX12_pawns cX12_pawns 4 (some .int) ∈ WA := wa_t 1206 (by decide +kernel) rfl
theorem wi_X12_pawns : Cond.instanceMethod yX12_pawns ∈ WA := wa_t 1205 (by decide +kernel) rfl
theorem we_X12_pawns : Cond.selects yX12_pawns.cls yX12_pawns yX12_pawns ∈ WA := wa_s (q := (yX12_pawns, _)) 33 rfl rfl
theorem wc_X12_isField : Cond.code yX12_isField cX12_isField 2 (some .boolean) ∈ WA := wa_t 1202 (by decide +kernel) rfl
theorem wi_X12_isField : Cond.instanceMethod yX12_isField ∈ WA := wa_t 1201 (by decide +kernel) rfl
theorem we_X12_isField : Cond.selects yX12_isField.cls yX12_isField yX12_isField ∈ WA := wa_s (q := (yX12_isField, _)) 32 rfl rfl
theorem wc_X12_put : Cond.code yX12_put cX12_put 4 (some .int) ∈ WA := wa_t 1198 (by decide +kernel) rfl
theorem wi_X12_put : Cond.instanceMethod yX12_put ∈ WA := wa_t 1196 (by decide +kernel) rfl
theorem we_X12_put : Cond.selects yX12_put.cls yX12_put yX12_put ∈ WA := wa_t 1197 (by decide +kernel) rfl
theorem wc_X12_setSide : Cond.code yX12_setSide cX12_setSide 3 (some .int) ∈ WA := wa_t 1210 (by decide +kernel) rfl
theorem wi_X12_setSide : Cond.instanceMethod yX12_setSide ∈ WA := wa_t 1208 (by decide +kernel) rfl
theorem we_X12_setSide : Cond.selects yX12_setSide.cls yX12_setSide yX12_setSide ∈ WA := wa_t 1209 (by decide +kernel) rfl
theorem wc_X12_isMove : Cond.code yX12_isMove cX12_isMove 2 (some .boolean) ∈ WA := wa_t 1222 (by decide +kernel) rfl
theorem wi_X12_isMove : Cond.instanceMethod yX12_isMove ∈ WA := wa_t 1221 (by decide +kernel) rfl
theorem we_X12_isMove : Cond.selects yX12_isMove.cls yX12_isMove yX12_isMove ∈ WA := wa_s (q := (yX12_isMove, _)) 35 rfl rfl
theorem wc_X12_playNow : Cond.code yX12_playNow cX12_playNow 3 (some .int) ∈ WA := wa_t 1250 (by decide +kernel) rfl
theorem wi_X12_playNow : Cond.instanceMethod yX12_playNow ∈ WA := wa_t 1249 (by decide +kernel) rfl
theorem we_X12_playNow : Cond.selects yX12_playNow.cls yX12_playNow yX12_playNow ∈ WA := wa_s (q := (yX12_playNow, _)) 42 rfl rfl
theorem wc_X12_play : Cond.code yX12_play cX12_play 2 (some .int) ∈ WA := wa_t 1218 (by decide +kernel) rfl
theorem wi_X12_play : Cond.instanceMethod yX12_play ∈ WA := wa_t 1216 (by decide +kernel) rfl
theorem we_X12_play : Cond.selects yX12_play.cls yX12_play yX12_play ∈ WA := wa_t 1217 (by decide +kernel) rfl
theorem wc_X12_back : Cond.code yX12_back cX12_back 1 (some .int) ∈ WA := wa_t 1261 (by decide +kernel) rfl
theorem wi_X12_back : Cond.instanceMethod yX12_back ∈ WA := wa_t 1259 (by decide +kernel) rfl
theorem we_X12_back : Cond.selects yX12_back.cls yX12_back yX12_back ∈ WA := wa_t 1260 (by decide +kernel) rfl
theorem wc_X12_weigh : Cond.code yX12_weigh cX12_weigh 4 (some .int) ∈ WA := wa_t 1269 (by decide +kernel) rfl
theorem wi_X12_weigh : Cond.instanceMethod yX12_weigh ∈ WA := wa_t 1267 (by decide +kernel) rfl
theorem we_X12_weigh : Cond.selects yX12_weigh.cls yX12_weigh yX12_weigh ∈ WA := wa_t 1268 (by decide +kernel) rfl
theorem wc_X12_setQuiet : Cond.code yX12_setQuiet cX12_setQuiet 3 (some .boolean) ∈ WA := wa_t 1284 (by decide +kernel) rfl
theorem wi_X12_setQuiet : Cond.instanceMethod yX12_setQuiet ∈ WA := wa_t 1282 (by decide +kernel) rfl
theorem we_X12_setQuiet : Cond.selects yX12_setQuiet.cls yX12_setQuiet yX12_setQuiet ∈ WA := wa_t 1283 (by decide +kernel) rfl
theorem wc_X12_setSlots : Cond.code yX12_setSlots cX12_setSlots 3 (some .int) ∈ WA := wa_t 1288 (by decide +kernel) rfl
theorem wi_X12_setSlots : Cond.instanceMethod yX12_setSlots ∈ WA := wa_t 1286 (by decide +kernel) rfl
theorem we_X12_setSlots : Cond.selects yX12_setSlots.cls yX12_setSlots yX12_setSlots ∈ WA := wa_t 1287 (by decide +kernel) rfl
theorem wc_X12_empty : Cond.code yX12_empty cX12_empty 1 (some .int) ∈ WA := wa_t 1292 (by decide +kernel) rfl
theorem wi_X12_empty : Cond.instanceMethod yX12_empty ∈ WA := wa_t 1290 (by decide +kernel) rfl
theorem we_X12_empty : Cond.selects yX12_empty.cls yX12_empty yX12_empty ∈ WA := wa_t 1291 (by decide +kernel) rfl
theorem wc_X12_columns : Cond.code yX12_columns cX12_columns 1 (some .int) ∈ WA := wa_t 1296 (by decide +kernel) rfl
theorem wi_X12_columns : Cond.instanceMethod yX12_columns ∈ WA := wa_t 1294 (by decide +kernel) rfl
theorem we_X12_columns : Cond.selects yX12_columns.cls yX12_columns yX12_columns ∈ WA := wa_t 1295 (by decide +kernel) rfl
theorem wc_X12_rows : Cond.code yX12_rows cX12_rows 1 (some .int) ∈ WA := wa_t 1300 (by decide +kernel) rfl
theorem wi_X12_rows : Cond.instanceMethod yX12_rows ∈ WA := wa_t 1298 (by decide +kernel) rfl
theorem we_X12_rows : Cond.selects yX12_rows.cls yX12_rows yX12_rows ∈ WA := wa_t 1299 (by decide +kernel) rfl
theorem wc_X12_at : Cond.code yX12_at cX12_at 2 (some .int) ∈ WA := wa_t 1304 (by decide +kernel) rfl
theorem wi_X12_at : Cond.instanceMethod yX12_at ∈ WA := wa_t 1302 (by decide +kernel) rfl
theorem we_X12_at : Cond.selects yX12_at.cls yX12_at yX12_at ∈ WA := wa_t 1303 (by decide +kernel) rfl
theorem wc_X12_side : Cond.code yX12_side cX12_side 1 (some .int) ∈ WA := wa_t 1308 (by decide +kernel) rfl
theorem wi_X12_side : Cond.instanceMethod yX12_side ∈ WA := wa_t 1306 (by decide +kernel) rfl
theorem we_X12_side : Cond.selects yX12_side.cls yX12_side yX12_side ∈ WA := wa_t 1307 (by decide +kernel) rfl
theorem wc_X12_played : Cond.code yX12_played cX12_played 1 (some .int) ∈ WA := wa_t 1312 (by decide +kernel) rfl
theorem wi_X12_played : Cond.instanceMethod yX12_played ∈ WA := wa_t 1310 (by decide +kernel) rfl
theorem we_X12_played : Cond.selects yX12_played.cls yX12_played yX12_played ∈ WA := wa_t 1311 (by decide +kernel) rfl
theorem wc_X12_moves : Cond.code yX12_moves cX12_moves 1 (some .int) ∈ WA := wa_t 1316 (by decide +kernel) rfl
theorem wi_X12_moves : Cond.instanceMethod yX12_moves ∈ WA := wa_t 1314 (by decide +kernel) rfl
theorem we_X12_moves : Cond.selects yX12_moves.cls yX12_moves yX12_moves ∈ WA := wa_t 1315 (by decide +kernel) rfl
theorem wc_X12_from : Cond.code yX12_from cX12_from 2 (some .int) ∈ WA := wa_t 1320 (by decide +kernel) rfl
theorem wi_X12_from : Cond.instanceMethod yX12_from ∈ WA := wa_t 1318 (by decide +kernel) rfl
theorem we_X12_from : Cond.selects yX12_from.cls yX12_from yX12_from ∈ WA := wa_t 1319 (by decide +kernel) rfl
theorem wc_X12_to : Cond.code yX12_to cX12_to 2 (some .int) ∈ WA := wa_t 1324 (by decide +kernel) rfl
theorem wi_X12_to : Cond.instanceMethod yX12_to ∈ WA := wa_t 1322 (by decide +kernel) rfl
theorem we_X12_to : Cond.selects yX12_to.cls yX12_to yX12_to ∈ WA := wa_t 1323 (by decide +kernel) rfl
theorem wc_X12_takes : Cond.code yX12_takes cX12_takes 2 (some .boolean) ∈ WA := wa_t 1328 (by decide +kernel) rfl
theorem wi_X12_takes : Cond.instanceMethod yX12_takes ∈ WA := wa_t 1326 (by decide +kernel) rfl
theorem we_X12_takes : Cond.selects yX12_takes.cls yX12_takes yX12_takes ∈ WA := wa_t 1327 (by decide +kernel) rfl
theorem wc_X12_isLost : Cond.code yX12_isLost cX12_isLost 1 (some .boolean) ∈ WA := wa_t 1336 (by decide +kernel) rfl
theorem wi_X12_isLost : Cond.instanceMethod yX12_isLost ∈ WA := wa_t 1334 (by decide +kernel) rfl
theorem we_X12_isLost : Cond.selects yX12_isLost.cls yX12_isLost yX12_isLost ∈ WA := wa_t 1335 (by decide +kernel) rfl
theorem wc_X12_key : Cond.code yX12_key cX12_key 1 (some .long) ∈ WA := wa_t 1340 (by decide +kernel) rfl
theorem wi_X12_key : Cond.instanceMethod yX12_key ∈ WA := wa_t 1338 (by decide +kernel) rfl
theorem we_X12_key : Cond.selects yX12_key.cls yX12_key yX12_key ∈ WA := wa_t 1339 (by decide +kernel) rfl
theorem wc_X12_evaluation : Cond.code yX12_evaluation cX12_evaluation 1 (some .int) ∈ WA := wa_t 1350 (by decide +kernel) rfl
theorem wi_X12_evaluation : Cond.instanceMethod yX12_evaluation ∈ WA := wa_t 1348 (by decide +kernel) rfl
theorem we_X12_evaluation : Cond.selects yX12_evaluation.cls yX12_evaluation yX12_evaluation ∈ WA := wa_t 1349 (by decide +kernel) rfl
theorem wc_X12_ways : Cond.code yX12_ways cX12_ways 2 (some .int) ∈ WA := wa_t 1354 (by decide +kernel) rfl
theorem wi_X12_ways : Cond.instanceMethod yX12_ways ∈ WA := wa_t 1352 (by decide +kernel) rfl
theorem we_X12_ways : Cond.selects yX12_ways.cls yX12_ways yX12_ways ∈ WA := wa_t 1353 (by decide +kernel) rfl
theorem wc_X12_value : Cond.code yX12_value cX12_value 2 (some .int) ∈ WA := wa_t 1362 (by decide +kernel) rfl
theorem wi_X12_value : Cond.instanceMethod yX12_value ∈ WA := wa_t 1360 (by decide +kernel) rfl
theorem we_X12_value : Cond.selects yX12_value.cls yX12_value yX12_value ∈ WA := wa_t 1361 (by decide +kernel) rfl
theorem wc_X12_valueOf : Cond.code yX12_valueOf cX12_valueOf 3 (some .int) ∈ WA := wa_t 1380 (by decide +kernel) rfl
theorem wi_X12_valueOf : Cond.instanceMethod yX12_valueOf ∈ WA := wa_t 1378 (by decide +kernel) rfl
theorem we_X12_valueOf : Cond.selects yX12_valueOf.cls yX12_valueOf yX12_valueOf ∈ WA := wa_t 1379 (by decide +kernel) rfl
theorem wc_X12_search : Cond.code yX12_search cX12_search 2 (some .int) ∈ WA := wa_t 1384 (by decide +kernel) rfl
theorem wi_X12_search : Cond.instanceMethod yX12_search ∈ WA := wa_t 1382 (by decide +kernel) rfl
theorem we_X12_search : Cond.selects yX12_search.cls yX12_search yX12_search ∈ WA := wa_t 1383 (by decide +kernel) rfl
theorem wc_X12_bestFrom : Cond.code yX12_bestFrom cX12_bestFrom 1 (some .int) ∈ WA := wa_t 1429 (by decide +kernel) rfl
theorem wi_X12_bestFrom : Cond.instanceMethod yX12_bestFrom ∈ WA := wa_t 1427 (by decide +kernel) rfl
theorem we_X12_bestFrom : Cond.selects yX12_bestFrom.cls yX12_bestFrom yX12_bestFrom ∈ WA := wa_t 1428 (by decide +kernel) rfl
theorem wc_X12_bestTo : Cond.code yX12_bestTo cX12_bestTo 1 (some .int) ∈ WA := wa_t 1433 (by decide +kernel) rfl
theorem wi_X12_bestTo : Cond.instanceMethod yX12_bestTo ∈ WA := wa_t 1431 (by decide +kernel) rfl
theorem we_X12_bestTo : Cond.selects yX12_bestTo.cls yX12_bestTo yX12_bestTo ∈ WA := wa_t 1432 (by decide +kernel) rfl
theorem wc_X12_reached : Cond.code yX12_reached cX12_reached 1 (some .int) ∈ WA := wa_t 1437 (by decide +kernel) rfl
theorem wi_X12_reached : Cond.instanceMethod yX12_reached ∈ WA := wa_t 1435 (by decide +kernel) rfl
theorem we_X12_reached : Cond.selects yX12_reached.cls yX12_reached yX12_reached ∈ WA := wa_t 1436 (by decide +kernel) rfl
theorem wc_X12_nodes : Cond.code yX12_nodes cX12_nodes 1 (some .int) ∈ WA := wa_t 1441 (by decide +kernel) rfl
theorem wi_X12_nodes : Cond.instanceMethod yX12_nodes ∈ WA := wa_t 1439 (by decide +kernel) rfl
theorem we_X12_nodes : Cond.selects yX12_nodes.cls yX12_nodes yX12_nodes ∈ WA := wa_t 1440 (by decide +kernel) rfl
theorem wc_X12_hits : Cond.code yX12_hits cX12_hits 1 (some .int) ∈ WA := wa_t 1445 (by decide +kernel) rfl
theorem wi_X12_hits : Cond.instanceMethod yX12_hits ∈ WA := wa_t 1443 (by decide +kernel) rfl
theorem we_X12_hits : Cond.selects yX12_hits.cls yX12_hits yX12_hits ∈ WA := wa_t 1444 (by decide +kernel) rfl
theorem wc_X12_cuts : Cond.code yX12_cuts cX12_cuts 1 (some .int) ∈ WA := wa_t 1449 (by decide +kernel) rfl
theorem wi_X12_cuts : Cond.instanceMethod yX12_cuts ∈ WA := wa_t 1447 (by decide +kernel) rfl
theorem we_X12_cuts : Cond.selects yX12_cuts.cls yX12_cuts yX12_cuts ∈ WA := wa_t 1448 (by decide +kernel) rfl
theorem wc_X12_killerAt : Cond.code yX12_killerAt cX12_killerAt 3 (some .int) ∈ WA := wa_t 1457 (by decide +kernel) rfl
theorem wi_X12_killerAt : Cond.instanceMethod yX12_killerAt ∈ WA := wa_t 1456 (by decide +kernel) rfl
theorem we_X12_killerAt : Cond.selects yX12_killerAt.cls yX12_killerAt yX12_killerAt ∈ WA := wa_s (q := (yX12_killerAt, _)) 61 rfl rfl
theorem wc_X12_killer : Cond.code yX12_killer cX12_killer 3 (some .int) ∈ WA := wa_t 1453 (by decide +kernel) rfl
theorem wi_X12_killer : Cond.instanceMethod yX12_killer ∈ WA := wa_t 1451 (by decide +kernel) rfl
theorem we_X12_killer : Cond.selects yX12_killer.cls yX12_killer yX12_killer ∈ WA := wa_t 1452 (by decide +kernel) rfl
theorem wc_X12_slots : Cond.code yX12_slots cX12_slots 1 (some .int) ∈ WA := wa_t 1461 (by decide +kernel) rfl
theorem wi_X12_slots : Cond.instanceMethod yX12_slots ∈ WA := wa_t 1459 (by decide +kernel) rfl
theorem we_X12_slots : Cond.selects yX12_slots.cls yX12_slots yX12_slots ∈ WA := wa_t 1460 (by decide +kernel) rfl
theorem wc_X12_entries : Cond.code yX12_entries cX12_entries 1 (some .int) ∈ WA := wa_t 1465 (by decide +kernel) rfl
theorem wi_X12_entries : Cond.instanceMethod yX12_entries ∈ WA := wa_t 1463 (by decide +kernel) rfl
theorem we_X12_entries : Cond.selects yX12_entries.cls yX12_entries yX12_entries ∈ WA := wa_t 1464 (by decide +kernel) rfl
theorem wc_X12_toldOf : Cond.code yX12_toldOf cX12_toldOf 3 (some .int) ∈ WA := wa_t 1473 (by decide +kernel) rfl
theorem wi_X12_toldOf : Cond.instanceMethod yX12_toldOf ∈ WA := wa_t 1472 (by decide +kernel) rfl
theorem we_X12_toldOf : Cond.selects yX12_toldOf.cls yX12_toldOf yX12_toldOf ∈ WA := wa_s (q := (yX12_toldOf, _)) 62 rfl rfl
theorem wc_X12_ofSlot : Cond.code yX12_ofSlot cX12_ofSlot 3 (some .int) ∈ WA := wa_t 1469 (by decide +kernel) rfl
theorem wi_X12_ofSlot : Cond.instanceMethod yX12_ofSlot ∈ WA := wa_t 1467 (by decide +kernel) rfl
theorem we_X12_ofSlot : Cond.selects yX12_ofSlot.cls yX12_ofSlot yX12_ofSlot ∈ WA := wa_t 1468 (by decide +kernel) rfl
theorem wc_X12_knownNow : Cond.code yX12_knownNow cX12_knownNow 2 (some .int) ∈ WA := wa_t 1481 (by decide +kernel) rfl
theorem wi_X12_knownNow : Cond.instanceMethod yX12_knownNow ∈ WA := wa_t 1480 (by decide +kernel) rfl
theorem we_X12_knownNow : Cond.selects yX12_knownNow.cls yX12_knownNow yX12_knownNow ∈ WA := wa_s (q := (yX12_knownNow, _)) 63 rfl rfl
theorem wc_X12_known : Cond.code yX12_known cX12_known 1 (some .int) ∈ WA := wa_t 1477 (by decide +kernel) rfl
theorem wi_X12_known : Cond.instanceMethod yX12_known ∈ WA := wa_t 1475 (by decide +kernel) rfl
theorem we_X12_known : Cond.selects yX12_known.cls yX12_known yX12_known ∈ WA := wa_t 1476 (by decide +kernel) rfl
theorem wc_X12_teach : Cond.code yX12_teach cX12_teach 5 (some .int) ∈ WA := wa_t 1485 (by decide +kernel) rfl
theorem wi_X12_teach : Cond.instanceMethod yX12_teach ∈ WA := wa_t 1483 (by decide +kernel) rfl
theorem we_X12_teach : Cond.selects yX12_teach.cls yX12_teach yX12_teach ∈ WA := wa_t 1484 (by decide +kernel) rfl
theorem wc_X12_told : Cond.code yX12_told cX12_told 1 (some .int) ∈ WA := wa_t 1493 (by decide +kernel) rfl
theorem wi_X12_told : Cond.instanceMethod yX12_told ∈ WA := wa_t 1491 (by decide +kernel) rfl
theorem we_X12_told : Cond.selects yX12_told.cls yX12_told yX12_told ∈ WA := wa_t 1492 (by decide +kernel) rfl
theorem wc_X12_goNow : Cond.code yX12_goNow cX12_goNow 3 (some .int) ∈ WA := wa_t 1505 (by decide +kernel) rfl
theorem wi_X12_goNow : Cond.instanceMethod yX12_goNow ∈ WA := wa_t 1504 (by decide +kernel) rfl
theorem we_X12_goNow : Cond.selects yX12_goNow.cls yX12_goNow yX12_goNow ∈ WA := wa_s (q := (yX12_goNow, _)) 66 rfl rfl
theorem wc_X12_go : Cond.code yX12_go cX12_go 2 (some .int) ∈ WA := wa_t 1501 (by decide +kernel) rfl
theorem wi_X12_go : Cond.instanceMethod yX12_go ∈ WA := wa_t 1499 (by decide +kernel) rfl
theorem we_X12_go : Cond.selects yX12_go.cls yX12_go yX12_go ∈ WA := wa_t 1500 (by decide +kernel) rfl
theorem wc_X12_playOut : Cond.code yX12_playOut cX12_playOut 4 (some .int) ∈ WA := wa_t 1509 (by decide +kernel) rfl
theorem wi_X12_playOut : Cond.instanceMethod yX12_playOut ∈ WA := wa_t 1507 (by decide +kernel) rfl
theorem we_X12_playOut : Cond.selects yX12_playOut.cls yX12_playOut yX12_playOut ∈ WA := wa_t 1508 (by decide +kernel) rfl
theorem wc_X12_pages : Cond.code yX12_pages cX12_pages 1 (some .int) ∈ WA := wa_t 1513 (by decide +kernel) rfl
theorem wi_X12_pages : Cond.instanceMethod yX12_pages ∈ WA := wa_t 1511 (by decide +kernel) rfl
theorem we_X12_pages : Cond.selects yX12_pages.cls yX12_pages yX12_pages ∈ WA := wa_t 1512 (by decide +kernel) rfl
theorem wc_X12_effort : Cond.code yX12_effort cX12_effort 1 (some .double) ∈ WA := wa_t 1517 (by decide +kernel) rfl
theorem wi_X12_effort : Cond.instanceMethod yX12_effort ∈ WA := wa_t 1515 (by decide +kernel) rfl
theorem we_X12_effort : Cond.selects yX12_effort.cls yX12_effort yX12_effort ∈ WA := wa_t 1516 (by decide +kernel) rfl
theorem wc_X12_add : Cond.code yX12_add cX12_add 3 none ∈ WA := wa_t 1526 (by decide +kernel) rfl
theorem wi_X12_add : Cond.instanceMethod yX12_add ∈ WA := wa_t 1525 (by decide +kernel) rfl
theorem we_X12_add : Cond.selects yX12_add.cls yX12_add yX12_add ∈ WA := wa_s (q := (yX12_add, _)) 67 rfl rfl
theorem wc_X12_digest : Cond.code yX12_digest cX12_digest 8 (some .long) ∈ WA := wa_t 1521 (by decide +kernel) rfl
theorem wi_X12_digest : Cond.instanceMethod yX12_digest ∈ WA := wa_t 1519 (by decide +kernel) rfl
theorem we_X12_digest : Cond.selects yX12_digest.cls yX12_digest yX12_digest ∈ WA := wa_t 1520 (by decide +kernel) rfl
theorem wc_J9_abs_0f7a4 : Cond.code yJ9_abs_0f7a4 cJ9_abs_0f7a4 1 (some .int) ∈ WA := wa_t 1280 (by decide +kernel) rfl
theorem ws_J9_abs_0f7a4 : Cond.static yJ9_abs_0f7a4 ∈ WA := wa_t 1279 (by decide +kernel) rfl
theorem wc_J9_max_7cf53 : Cond.code yJ9_max_7cf53 cJ9_max_7cf53 2 (some .int) ∈ WA := wa_t 627 (by decide +kernel) rfl
theorem ws_J9_max_7cf53 : Cond.static yJ9_max_7cf53 ∈ WA := wa_t 626 (by decide +kernel) rfl
theorem wc_J7_fill_53178 : Cond.code yJ7_fill_53178 cJ7_fill_53178 4 none ∈ WA := wa_t 1391 (by decide +kernel) rfl
theorem ws_J7_fill_53178 : Cond.static yJ7_fill_53178 ∈ WA := wa_t 1390 (by decide +kernel) rfl
theorem ws_L_setUp : Cond.static yL_setUp ∈ WA := wa_t 673 (by decide +kernel) rfl
theorem ws_L_put : Cond.static yL_put ∈ WA := wa_t 764 (by decide +kernel) rfl
theorem ws_L_setSide : Cond.static yL_setSide ∈ WA := wa_t 815 (by decide +kernel) rfl
theorem ws_L_play : Cond.static yL_play ∈ WA := wa_t 827 (by decide +kernel) rfl
theorem ws_L_back : Cond.static yL_back ∈ WA := wa_t 852 (by decide +kernel) rfl
theorem ws_L_weigh : Cond.static yL_weigh ∈ WA := wa_t 873 (by decide +kernel) rfl
theorem ws_L_setSlots : Cond.static yL_setSlots ∈ WA := wa_t 885 (by decide +kernel) rfl
theorem ws_L_at : Cond.static yL_at ∈ WA := wa_t 898 (by decide +kernel) rfl
theorem ws_L_from : Cond.static yL_from ∈ WA := wa_t 905 (by decide +kernel) rfl
theorem ws_L_to : Cond.static yL_to ∈ WA := wa_t 912 (by decide +kernel) rfl
theorem ws_L_takes : Cond.static yL_takes ∈ WA := wa_t 919 (by decide +kernel) rfl
theorem ws_L_ways : Cond.static yL_ways ∈ WA := wa_t 927 (by decide +kernel) rfl
theorem ws_L_value : Cond.static yL_value ∈ WA := wa_t 935 (by decide +kernel) rfl
theorem ws_L_valueOf : Cond.static yL_valueOf ∈ WA := wa_t 942 (by decide +kernel) rfl
theorem ws_L_search : Cond.static yL_search ∈ WA := wa_t 951 (by decide +kernel) rfl
theorem ws_L_ofSlot : Cond.static yL_ofSlot ∈ WA := wa_t 1033 (by decide +kernel) rfl
theorem ws_L_teach : Cond.static yL_teach ∈ WA := wa_t 1043 (by decide +kernel) rfl
theorem ws_L_go : Cond.static yL_go ∈ WA := wa_t 1062 (by decide +kernel) rfl
theorem ws_L_playOut : Cond.static yL_playOut ∈ WA := wa_t 1074 (by decide +kernel) rfl
theorem wm_X11_9 : Cond.methodLink RX11 9 yX4_init ∈ WA := wa_t 33 (by decide +kernel) rfl
theorem wm_X11_12 : Cond.methodLink RX11 12 yX0_init ∈ WA := wa_t 74 (by decide +kernel) rfl
theorem wm_X11_21 : Cond.methodLink RX11 21 yX5_init ∈ WA := wa_t 96 (by decide +kernel) rfl
theorem wm_X11_28 : Cond.methodLink RX11 28 yX9_init ∈ WA := wa_t 99 (by decide +kernel) rfl
theorem wm_X11_42 : Cond.methodLink RX11 42 yX8_init ∈ WA := wa_t 134 (by decide +kernel) rfl
theorem wm_X11_51 : Cond.methodLink RX11 51 yX6_init ∈ WA := wa_t 162 (by decide +kernel) rfl
theorem wm_X11_54 : Cond.methodLink RX11 54 yX10_init ∈ WA := wa_t 179 (by decide +kernel) rfl
theorem wm_X11_63 : Cond.methodLink RX11 63 yX7_init ∈ WA := wa_t 195 (by decide +kernel) rfl
theorem wm_X11_72 : Cond.methodLink RX11 72 yX1_init ∈ WA := wa_t 249 (by decide +kernel) rfl
theorem wm_X11_77 : Cond.methodLink RX11 77 yX0_listMoves ∈ WA := wa_t 266 (by decide +kernel) rfl
theorem cw_X11_77 : CWd RX11 77 yX0_listMoves cX0_listMoves 4 none 1 := ⟨⟨wm_X11_77, wi_X0_listMoves, we_X0_listMoves, wn_X0, wc_X0_listMoves⟩, by decide +kernel, by decide⟩
theorem wm_X11_81 : Cond.methodLink RX11 81 yX11_isWithin ∈ WA := wa_t 680 (by decide +kernel) rfl
theorem cw_X11_81 : CWs RX11 81 yX11_isWithin cX11_isWithin 3 (some .boolean) 3 := ⟨⟨wm_X11_81, ws_X11_isWithin, wn_X11, wc_X11_isWithin⟩, by decide +kernel, by decide⟩
theorem wm_X11_98 : Cond.methodLink RX11 98 yX0_lay ∈ WA := wa_t 754 (by decide +kernel) rfl
theorem cw_X11_98 : CWd RX11 98 yX0_lay cX0_lay 9 none 3 := ⟨⟨wm_X11_98, wi_X0_lay, we_X0_lay, wn_X0, wc_X0_lay⟩, by decide +kernel, by decide⟩
theorem wm_X11_102 : Cond.methodLink RX11 102 yX8_wipe ∈ WA := wa_t 331 (by decide +kernel) rfl
theorem cw_X11_102 : CWd RX11 102 yX8_wipe cX8_wipe 2 none 0 := ⟨⟨wm_X11_102, wi_X8_wipe, we_X8_wipe, wn_X8, wc_X8_wipe⟩, by decide +kernel, by decide⟩
theorem wm_X11_105 : Cond.methodLink RX11 105 yX11_startAnew ∈ WA := wa_t 755 (by decide +kernel) rfl
theorem cw_X11_105 : CWd RX11 105 yX11_startAnew cX11_startAnew 1 none 0 := ⟨⟨wm_X11_105, wi_X11_startAnew, we_X11_startAnew, wn_X11, wc_X11_startAnew⟩, by decide +kernel, by decide⟩
theorem wm_X11_108 : Cond.methodLink RX11 108 yX0_isField ∈ WA := wa_t 772 (by decide +kernel) rfl
theorem cw_X11_108 : CWd RX11 108 yX0_isField cX0_isField 2 (some .boolean) 1 := ⟨⟨wm_X11_108, wi_X0_isField, we_X0_isField, wn_X0, wc_X0_isField⟩, by decide +kernel, by decide⟩
theorem wm_X11_119 : Cond.methodLink RX11 119 yX0_pawnAt ∈ WA := wa_t 572 (by decide +kernel) rfl
theorem cw_X11_119 : CWd RX11 119 yX0_pawnAt cX0_pawnAt 2 (some .int) 1 := ⟨⟨wm_X11_119, wi_X0_pawnAt, we_X0_pawnAt, wn_X0, wc_X0_pawnAt⟩, by decide +kernel, by decide⟩
theorem wm_X11_123 : Cond.methodLink RX11 123 yX0_countPawns ∈ WA := wa_t 790 (by decide +kernel) rfl
theorem cw_X11_123 : CWd RX11 123 yX0_countPawns cX0_countPawns 4 (some .int) 1 := ⟨⟨wm_X11_123, wi_X0_countPawns, we_X0_countPawns, wn_X0, wc_X0_countPawns⟩, by decide +kernel, by decide⟩
theorem wm_X11_131 : Cond.methodLink RX11 131 yX0_layOn ∈ WA := wa_t 810 (by decide +kernel) rfl
theorem cw_X11_131 : CWd RX11 131 yX0_layOn cX0_layOn 3 none 2 := ⟨⟨wm_X11_131, wi_X0_layOn, we_X0_layOn, wn_X0, wc_X0_layOn⟩, by decide +kernel, by decide⟩
theorem wm_X11_137 : Cond.methodLink RX11 137 yX0_mover ∈ WA := wa_t 363 (by decide +kernel) rfl
theorem cw_X11_137 : CWd RX11 137 yX0_mover cX0_mover 1 (some .int) 0 := ⟨⟨wm_X11_137, wi_X0_mover, we_X0_mover, wn_X0, wc_X0_mover⟩, by decide +kernel, by decide⟩
theorem wm_X11_141 : Cond.methodLink RX11 141 yX0_turnTo ∈ WA := wa_t 822 (by decide +kernel) rfl
theorem cw_X11_141 : CWd RX11 141 yX0_turnTo cX0_turnTo 2 none 1 := ⟨⟨wm_X11_141, wi_X0_turnTo, we_X0_turnTo, wn_X0, wc_X0_turnTo⟩, by decide +kernel, by decide⟩
theorem wm_X11_145 : Cond.methodLink RX11 145 yX5_has ∈ WA := wa_t 833 (by decide +kernel) rfl
theorem cw_X11_145 : CWd RX11 145 yX5_has cX5_has 2 (some .boolean) 1 := ⟨⟨wm_X11_145, wi_X5_has, we_X5_has, wn_X5, wc_X5_has⟩, by decide +kernel, by decide⟩
theorem wm_X11_150 : Cond.methodLink RX11 150 yX11_playHere ∈ WA := wa_t 838 (by decide +kernel) rfl
theorem cw_X11_150 : CWd RX11 150 yX11_playHere cX11_playHere 4 (some .int) 1 := ⟨⟨wm_X11_150, wi_X11_playHere, we_X11_playHere, wn_X11, wc_X11_playHere⟩, by decide +kernel, by decide⟩
theorem wm_X11_153 : Cond.methodLink RX11 153 yX9_length ∈ WA := wa_t 371 (by decide +kernel) rfl
theorem cw_X11_153 : CWd RX11 153 yX9_length cX9_length 1 (some .int) 0 := ⟨⟨wm_X11_153, wi_X9_length, we_X9_length, wn_X9, wc_X9_length⟩, by decide +kernel, by decide⟩
theorem wm_X11_158 : Cond.methodLink RX11 158 yX9_lastMove ∈ WA := wa_t 859 (by decide +kernel) rfl
theorem cw_X11_158 : CWd RX11 158 yX9_lastMove cX9_lastMove 2 (some .int) 0 := ⟨⟨wm_X11_158, wi_X9_lastMove, we_X9_lastMove, wn_X9, wc_X9_lastMove⟩, by decide +kernel, by decide⟩
theorem wm_X11_161 : Cond.methodLink RX11 161 yX9_lastTaken ∈ WA := wa_t 863 (by decide +kernel) rfl
theorem cw_X11_161 : CWd RX11 161 yX9_lastTaken cX9_lastTaken 2 (some .int) 0 := ⟨⟨wm_X11_161, wi_X9_lastTaken, we_X9_lastTaken, wn_X9, wc_X9_lastTaken⟩, by decide +kernel, by decide⟩
theorem wm_X11_164 : Cond.methodLink RX11 164 yX0_retreat ∈ WA := wa_t 867 (by decide +kernel) rfl
theorem cw_X11_164 : CWd RX11 164 yX0_retreat cX0_retreat 5 none 2 := ⟨⟨wm_X11_164, wi_X0_retreat, we_X0_retreat, wn_X0, wc_X0_retreat⟩, by decide +kernel, by decide⟩
theorem wm_X11_167 : Cond.methodLink RX11 167 yX9_dropLast ∈ WA := wa_t 868 (by decide +kernel) rfl
theorem cw_X11_167 : CWd RX11 167 yX9_dropLast cX9_dropLast 1 none 0 := ⟨⟨wm_X11_167, wi_X9_dropLast, we_X9_dropLast, wn_X9, wc_X9_dropLast⟩, by decide +kernel, by decide⟩
theorem wm_X11_172 : Cond.methodLink RX11 172 yX2_setWeights ∈ WA := wa_t 880 (by decide +kernel) rfl
theorem cw_X11_172 : CWd RX11 172 yX2_setWeights cX2_setWeights 4 none 3 := ⟨⟨wm_X11_172, wi_X2_setWeights, we_X2_setWeights, wn_X2, wc_X2_setWeights⟩, by decide +kernel, by decide⟩
theorem wm_X11_175 : Cond.methodLink RX11 175 yX2_evaluate ∈ WA := wa_t 405 (by decide +kernel) rfl
theorem cw_X11_175 : CWd RX11 175 yX2_evaluate cX2_evaluate 8 (some .int) 1 := ⟨⟨wm_X11_175, wi_X2_evaluate, we_X2_evaluate, wn_X2, wc_X2_evaluate⟩, by decide +kernel, by decide⟩
theorem wm_X11_179 : Cond.methodLink RX11 179 yX2_isQuietOn ∈ WA := wa_t 323 (by decide +kernel) rfl
theorem cw_X11_179 : CWd RX11 179 yX2_isQuietOn cX2_isQuietOn 1 (some .boolean) 0 := ⟨⟨wm_X11_179, wi_X2_isQuietOn, we_X2_isQuietOn, wn_X2, wc_X2_isQuietOn⟩, by decide +kernel, by decide⟩
theorem wm_X11_183 : Cond.methodLink RX11 183 yX2_switchQuiet ∈ WA := wa_t 327 (by decide +kernel) rfl
theorem cw_X11_183 : CWd RX11 183 yX2_switchQuiet cX2_switchQuiet 2 none 1 := ⟨⟨wm_X11_183, wi_X2_switchQuiet, we_X2_switchQuiet, wn_X2, wc_X2_switchQuiet⟩, by decide +kernel, by decide⟩
theorem wm_X11_189 : Cond.methodLink RX11 189 yX8_size ∈ WA := wa_t 492 (by decide +kernel) rfl
theorem cw_X11_189 : CWd RX11 189 yX8_size cX8_size 1 (some .int) 0 := ⟨⟨wm_X11_189, wi_X8_size, we_X8_size, wn_X8, wc_X8_size⟩, by decide +kernel, by decide⟩
theorem wm_X11_192 : Cond.methodLink RX11 192 yX8_resize ∈ WA := wa_t 892 (by decide +kernel) rfl
theorem cw_X11_192 : CWd RX11 192 yX8_resize cX8_resize 2 none 1 := ⟨⟨wm_X11_192, wi_X8_resize, we_X8_resize, wn_X8, wc_X8_resize⟩, by decide +kernel, by decide⟩
theorem wm_X11_195 : Cond.methodLink RX11 195 yX8_countEntries ∈ WA := wa_t 339 (by decide +kernel) rfl
theorem cw_X11_195 : CWd RX11 195 yX8_countEntries cX8_countEntries 3 (some .int) 0 := ⟨⟨wm_X11_195, wi_X8_countEntries, we_X8_countEntries, wn_X8, wc_X8_countEntries⟩, by decide +kernel, by decide⟩
theorem wm_X11_198 : Cond.methodLink RX11 198 yX0_width ∈ WA := wa_t 347 (by decide +kernel) rfl
theorem cw_X11_198 : CWd RX11 198 yX0_width cX0_width 1 (some .int) 0 := ⟨⟨wm_X11_198, wi_X0_width, we_X0_width, wn_X0, wc_X0_width⟩, by decide +kernel, by decide⟩
theorem wm_X11_201 : Cond.methodLink RX11 201 yX0_height ∈ WA := wa_t 355 (by decide +kernel) rfl
theorem cw_X11_201 : CWd RX11 201 yX0_height cX0_height 1 (some .int) 0 := ⟨⟨wm_X11_201, wi_X0_height, we_X0_height, wn_X0, wc_X0_height⟩, by decide +kernel, by decide⟩
theorem wm_X11_204 : Cond.methodLink RX11 204 yX5_size ∈ WA := wa_t 379 (by decide +kernel) rfl
theorem cw_X11_204 : CWd RX11 204 yX5_size cX5_size 1 (some .int) 0 := ⟨⟨wm_X11_204, wi_X5_size, we_X5_size, wn_X5, wc_X5_size⟩, by decide +kernel, by decide⟩
theorem wm_X11_205 : Cond.methodLink RX11 205 yX5_moveAt ∈ WA := wa_t 577 (by decide +kernel) rfl
theorem cw_X11_205 : CWd RX11 205 yX5_moveAt cX5_moveAt 2 (some .int) 1 := ⟨⟨wm_X11_205, wi_X5_moveAt, we_X5_moveAt, wn_X5, wc_X5_moveAt⟩, by decide +kernel, by decide⟩
theorem wm_X11_208 : Cond.methodLink RX11 208 yX11_fromOf ∈ WA := wa_t 426 (by decide +kernel) rfl
theorem cw_X11_208 : CWs RX11 208 yX11_fromOf cX11_fromOf 1 (some .int) 1 := ⟨⟨wm_X11_208, ws_X11_fromOf, wn_X11, wc_X11_fromOf⟩, by decide +kernel, by decide⟩
theorem wm_X11_211 : Cond.methodLink RX11 211 yX11_toOf ∈ WA := wa_t 433 (by decide +kernel) rfl
theorem cw_X11_211 : CWs RX11 211 yX11_toOf cX11_toOf 1 (some .int) 1 := ⟨⟨wm_X11_211, ws_X11_toOf, wn_X11, wc_X11_toOf⟩, by decide +kernel, by decide⟩
theorem wm_X11_214 : Cond.methodLink RX11 214 yX5_isTaking ∈ WA := wa_t 925 (by decide +kernel) rfl
theorem cw_X11_214 : CWd RX11 214 yX5_isTaking cX5_isTaking 2 (some .boolean) 1 := ⟨⟨wm_X11_214, wi_X5_isTaking, we_X5_isTaking, wn_X5, wc_X5_isTaking⟩, by decide +kernel, by decide⟩
theorem wm_X11_217 : Cond.methodLink RX11 217 yX11_isOver ∈ WA := wa_t 387 (by decide +kernel) rfl
theorem cw_X11_217 : CWd RX11 217 yX11_isOver cX11_isOver 1 (some .boolean) 0 := ⟨⟨wm_X11_217, wi_X11_isOver, we_X11_isOver, wn_X11, wc_X11_isOver⟩, by decide +kernel, by decide⟩
theorem wm_X11_220 : Cond.methodLink RX11 220 yX0_keyNumber ∈ WA := wa_t 395 (by decide +kernel) rfl
theorem cw_X11_220 : CWd RX11 220 yX0_keyNumber cX0_keyNumber 5 (some .long) 0 := ⟨⟨wm_X11_220, wi_X0_keyNumber, we_X0_keyNumber, wn_X0, wc_X0_keyNumber⟩, by decide +kernel, by decide⟩
theorem cw_X11_226 : CWn RX11 226 yX10_countWays cX10_countWays 5 (some .int) 1 := ⟨⟨by decide +kernel, wi_X10_countWays, we_X10_countWays, wn_X10, wc_X10_countWays⟩, by decide +kernel, by decide⟩
theorem cw_X11_229 : CWn RX11 229 yX10_worth cX10_worth 8 (some .int) 3 := ⟨⟨by decide +kernel, wi_X10_worth, we_X10_worth, wn_X10, wc_X10_worth⟩, by decide +kernel, by decide⟩
theorem cw_X11_235 : CWn RX11 235 yX10_worthBehind cX10_worthBehind 7 (some .int) 4 := ⟨⟨by decide +kernel, wi_X10_worthBehind, we_X10_worthBehind, wn_X10, wc_X10_worthBehind⟩, by decide +kernel, by decide⟩
theorem wm_X11_243 : Cond.methodLink RX11 243 yX7_seek ∈ WA := wa_t 959 (by decide +kernel) rfl
theorem cw_X11_243 : CWd RX11 243 yX7_seek cX7_seek 4 (some .int) 1 := ⟨⟨wm_X11_243, wi_X7_seek, we_X7_seek, wn_X7, wc_X7_seek⟩, by decide +kernel, by decide⟩
theorem wm_X11_246 : Cond.methodLink RX11 246 yX7_bestMove ∈ WA := wa_t 422 (by decide +kernel) rfl
theorem cw_X11_246 : CWd RX11 246 yX7_bestMove cX7_bestMove 1 (some .int) 0 := ⟨⟨wm_X11_246, wi_X7_bestMove, we_X7_bestMove, wn_X7, wc_X7_bestMove⟩, by decide +kernel, by decide⟩
theorem wm_X11_249 : Cond.methodLink RX11 249 yX7_depthReached ∈ WA := wa_t 440 (by decide +kernel) rfl
theorem cw_X11_249 : CWd RX11 249 yX7_depthReached cX7_depthReached 1 (some .int) 0 := ⟨⟨wm_X11_249, wi_X7_depthReached, we_X7_depthReached, wn_X7, wc_X7_depthReached⟩, by decide +kernel, by decide⟩
theorem wm_X11_252 : Cond.methodLink RX11 252 yX7_nodeCount ∈ WA := wa_t 448 (by decide +kernel) rfl
theorem cw_X11_252 : CWd RX11 252 yX7_nodeCount cX7_nodeCount 1 (some .int) 0 := ⟨⟨wm_X11_252, wi_X7_nodeCount, we_X7_nodeCount, wn_X7, wc_X7_nodeCount⟩, by decide +kernel, by decide⟩
theorem wm_X11_255 : Cond.methodLink RX11 255 yX7_hitCount ∈ WA := wa_t 460 (by decide +kernel) rfl
theorem cw_X11_255 : CWd RX11 255 yX7_hitCount cX7_hitCount 1 (some .int) 0 := ⟨⟨wm_X11_255, wi_X7_hitCount, we_X7_hitCount, wn_X7, wc_X7_hitCount⟩, by decide +kernel, by decide⟩
theorem wm_X11_258 : Cond.methodLink RX11 258 yX7_cutCount ∈ WA := wa_t 468 (by decide +kernel) rfl
theorem cw_X11_258 : CWd RX11 258 yX7_cutCount cX7_cutCount 1 (some .int) 0 := ⟨⟨wm_X11_258, wi_X7_cutCount, we_X7_cutCount, wn_X7, wc_X7_cutCount⟩, by decide +kernel, by decide⟩
theorem wm_X11_261 : Cond.methodLink RX11 261 yX7_killerOf ∈ WA := wa_t 476 (by decide +kernel) rfl
theorem cw_X11_261 : CWd RX11 261 yX7_killerOf cX7_killerOf 3 (some .int) 2 := ⟨⟨wm_X11_261, wi_X7_killerOf, we_X7_killerOf, wn_X7, wc_X7_killerOf⟩, by decide +kernel, by decide⟩
theorem wm_X11_265 : Cond.methodLink RX11 265 yX8_isSlot ∈ WA := wa_t 1039 (by decide +kernel) rfl
theorem cw_X11_265 : CWd RX11 265 yX8_isSlot cX8_isSlot 2 (some .boolean) 1 := ⟨⟨wm_X11_265, wi_X8_isSlot, we_X8_isSlot, wn_X8, wc_X8_isSlot⟩, by decide +kernel, by decide⟩
theorem wm_X11_272 : Cond.methodLink RX11 272 yX8_tell ∈ WA := wa_t 654 (by decide +kernel) rfl
theorem cw_X11_272 : CWd RX11 272 yX8_tell cX8_tell 3 (some .int) 2 := ⟨⟨wm_X11_272, wi_X8_tell, we_X8_tell, wn_X8, wc_X8_tell⟩, by decide +kernel, by decide⟩
theorem wm_X11_276 : Cond.methodLink RX11 276 yX8_find ∈ WA := wa_t 504 (by decide +kernel) rfl
theorem cw_X11_276 : CWd RX11 276 yX8_find cX8_find 4 (some .int) 1 := ⟨⟨wm_X11_276, wi_X8_find, we_X8_find, wn_X8, wc_X8_find⟩, by decide +kernel, by decide⟩
theorem wm_X11_280 : Cond.methodLink RX11 280 yX8_depthAt ∈ WA := wa_t 521 (by decide +kernel) rfl
theorem cw_X11_280 : CWd RX11 280 yX8_depthAt cX8_depthAt 2 (some .int) 1 := ⟨⟨wm_X11_280, wi_X8_depthAt, we_X8_depthAt, wn_X8, wc_X8_depthAt⟩, by decide +kernel, by decide⟩
theorem wm_X11_285 : Cond.methodLink RX11 285 yX1_isFull ∈ WA := wa_t 1050 (by decide +kernel) rfl
theorem cw_X11_285 : CWd RX11 285 yX1_isFull cX1_isFull 1 (some .boolean) 0 := ⟨⟨wm_X11_285, wi_X1_isFull, we_X1_isFull, wn_X1, wc_X1_isFull⟩, by decide +kernel, by decide⟩
theorem wm_X11_288 : Cond.methodLink RX11 288 yX1_find ∈ WA := wa_t 1054 (by decide +kernel) rfl
theorem cw_X11_288 : CWd RX11 288 yX1_find cX1_find 5 (some .int) 2 := ⟨⟨wm_X11_288, wi_X1_find, we_X1_find, wn_X1, wc_X1_find⟩, by decide +kernel, by decide⟩
theorem wm_X11_293 : Cond.methodLink RX11 293 yX1_write ∈ WA := wa_t 1056 (by decide +kernel) rfl
theorem cw_X11_293 : CWd RX11 293 yX1_write cX1_write 6 none 3 := ⟨⟨wm_X11_293, wi_X1_write, we_X1_write, wn_X1, wc_X1_write⟩, by decide +kernel, by decide⟩
theorem wm_X11_297 : Cond.methodLink RX11 297 yX1_length ∈ WA := wa_t 547 (by decide +kernel) rfl
theorem cw_X11_297 : CWd RX11 297 yX1_length cX1_length 1 (some .int) 0 := ⟨⟨wm_X11_297, wi_X1_length, we_X1_length, wn_X1, wc_X1_length⟩, by decide +kernel, by decide⟩
theorem wm_X11_298 : Cond.methodLink RX11 298 yX1_choose ∈ WA := wa_t 526 (by decide +kernel) rfl
theorem cw_X11_298 : CWd RX11 298 yX1_choose cX1_choose 8 (some .int) 2 := ⟨⟨wm_X11_298, wi_X1_choose, we_X1_choose, wn_X1, wc_X1_choose⟩, by decide +kernel, by decide⟩
theorem wm_X11_302 : Cond.methodLink RX11 302 yX11_goOn ∈ WA := wa_t 1068 (by decide +kernel) rfl
theorem cw_X11_302 : CWd RX11 302 yX11_goOn cX11_goOn 3 (some .int) 1 := ⟨⟨wm_X11_302, wi_X11_goOn, we_X11_goOn, wn_X11, wc_X11_goOn⟩, by decide +kernel, by decide⟩
theorem wm_X11_309 : Cond.methodLink RX11 309 yX11_addBoard ∈ WA := wa_t 560 (by decide +kernel) rfl
theorem cw_X11_309 : CWd RX11 309 yX11_addBoard cX11_addBoard 7 (some .long) 1 := ⟨⟨wm_X11_309, wi_X11_addBoard, we_X11_addBoard, wn_X11, wc_X11_addBoard⟩, by decide +kernel, by decide⟩
theorem wm_X11_313 : Cond.methodLink RX11 313 yX11_addMoves ∈ WA := wa_t 573 (by decide +kernel) rfl
theorem cw_X11_313 : CWd RX11 313 yX11_addMoves cX11_addMoves 6 (some .long) 1 := ⟨⟨wm_X11_313, wi_X11_addMoves, we_X11_addMoves, wn_X11, wc_X11_addMoves⟩, by decide +kernel, by decide⟩
theorem wm_X11_316 : Cond.methodLink RX11 316 yX11_addSearch ∈ WA := wa_t 646 (by decide +kernel) rfl
theorem cw_X11_316 : CWd RX11 316 yX11_addSearch cX11_addSearch 6 (some .long) 1 := ⟨⟨wm_X11_316, wi_X11_addSearch, we_X11_addSearch, wn_X11, wc_X11_addSearch⟩, by decide +kernel, by decide⟩
theorem wm_X11_319 : Cond.methodLink RX11 319 yX11_addTable ∈ WA := wa_t 650 (by decide +kernel) rfl
theorem cw_X11_319 : CWd RX11 319 yX11_addTable cX11_addTable 7 (some .long) 1 := ⟨⟨wm_X11_319, wi_X11_addTable, we_X11_addTable, wn_X11, wc_X11_addTable⟩, by decide +kernel, by decide⟩
theorem wm_X11_322 : Cond.methodLink RX11 322 yX11_known ∈ WA := wa_t 670 (by decide +kernel) rfl
theorem cw_X11_322 : CWd RX11 322 yX11_known cX11_known 1 (some .int) 0 := ⟨⟨wm_X11_322, wi_X11_known, we_X11_known, wn_X11, wc_X11_known⟩, by decide +kernel, by decide⟩
theorem wm_X11_325 : Cond.methodLink RX11 325 yX11_join ∈ WA := wa_t 564 (by decide +kernel) rfl
theorem cw_X11_325 : CWs RX11 325 yX11_join cX11_join 4 (some .long) 2 := ⟨⟨wm_X11_325, ws_X11_join, wn_X11, wc_X11_join⟩, by decide +kernel, by decide⟩
theorem wm_X11_329 : Cond.methodLink RX11 329 yX11_told ∈ WA := wa_t 671 (by decide +kernel) rfl
theorem cw_X11_329 : CWd RX11 329 yX11_told cX11_told 1 (some .int) 0 := ⟨⟨wm_X11_329, wi_X11_told, we_X11_told, wn_X11, wc_X11_told⟩, by decide +kernel, by decide⟩
theorem wm_X11_332 : Cond.methodLink RX11 332 yX0_countFields ∈ WA := wa_t 568 (by decide +kernel) rfl
theorem cw_X11_332 : CWd RX11 332 yX0_countFields cX0_countFields 1 (some .int) 0 := ⟨⟨wm_X11_332, wi_X0_countFields, we_X0_countFields, wn_X0, wc_X0_countFields⟩, by decide +kernel, by decide⟩
theorem wm_X11_337 : Cond.methodLink RX11 337 yX9_clear ∈ WA := wa_t 759 (by decide +kernel) rfl
theorem cw_X11_337 : CWd RX11 337 yX9_clear cX9_clear 1 none 0 := ⟨⟨wm_X11_337, wi_X9_clear, we_X9_clear, wn_X9, wc_X9_clear⟩, by decide +kernel, by decide⟩
theorem wm_X11_340 : Cond.methodLink RX11 340 yX0_advance ∈ WA := wa_t 842 (by decide +kernel) rfl
theorem cw_X11_340 : CWd RX11 340 yX0_advance cX0_advance 5 (some .int) 1 := ⟨⟨wm_X11_340, wi_X0_advance, we_X0_advance, wn_X0, wc_X0_advance⟩, by decide +kernel, by decide⟩
theorem wm_X11_343 : Cond.methodLink RX11 343 yX9_add ∈ WA := wa_t 843 (by decide +kernel) rfl
theorem cw_X11_343 : CWd RX11 343 yX9_add cX9_add 3 none 2 := ⟨⟨wm_X11_343, wi_X9_add, we_X9_add, wn_X9, wc_X9_add⟩, by decide +kernel, by decide⟩
theorem wm_X11_346 : Cond.methodLink RX11 346 yX5_indexOf ∈ WA := wa_t 1072 (by decide +kernel) rfl
theorem cw_X11_346 : CWd RX11 346 yX5_indexOf cX5_indexOf 3 (some .int) 1 := ⟨⟨wm_X11_346, wi_X5_indexOf, we_X5_indexOf, wn_X5, wc_X5_indexOf⟩, by decide +kernel, by decide⟩
theorem wm_X0_15 : Cond.methodLink RX0 15 yX0_lay ∈ WA := wa_t 78 (by decide +kernel) rfl
theorem cw_X0_15 : CWd RX0 15 yX0_lay cX0_lay 9 none 3 := ⟨⟨wm_X0_15, wi_X0_lay, we_X0_lay, wn_X0, wc_X0_lay⟩, by decide +kernel, by decide⟩
theorem wm_X0_29 : Cond.methodLink RX0 29 yX0_isField ∈ WA := wa_t 603 (by decide +kernel) rfl
theorem cw_X0_29 : CWd RX0 29 yX0_isField cX0_isField 2 (some .boolean) 1 := ⟨⟨wm_X0_29, wi_X0_isField, we_X0_isField, wn_X0, wc_X0_isField⟩, by decide +kernel, by decide⟩
theorem cw_X0_37 : CWns RX0 37 yX11_fromOf cX11_fromOf 1 (some .int) 1 := ⟨⟨by decide +kernel, ws_X11_fromOf, wn_X11, wc_X11_fromOf⟩, by decide +kernel, by decide⟩
theorem cw_X0_41 : CWns RX0 41 yX11_toOf cX11_toOf 1 (some .int) 1 := ⟨⟨by decide +kernel, ws_X11_toOf, wn_X11, wc_X11_toOf⟩, by decide +kernel, by decide⟩
theorem wm_X0_44 : Cond.methodLink RX0 44 yX5_clear ∈ WA := wa_t 270 (by decide +kernel) rfl
theorem cw_X0_44 : CWd RX0 44 yX5_clear cX5_clear 1 none 0 := ⟨⟨wm_X0_44, wi_X5_clear, we_X5_clear, wn_X5, wc_X5_clear⟩, by decide +kernel, by decide⟩
theorem wm_X0_49 : Cond.methodLink RX0 49 yX0_isOtherThrough ∈ WA := wa_t 274 (by decide +kernel) rfl
theorem cw_X0_49 : CWd RX0 49 yX0_isOtherThrough cX0_isOtherThrough 3 (some .boolean) 0 := ⟨⟨wm_X0_49, wi_X0_isOtherThrough, we_X0_isOtherThrough, wn_X0, wc_X0_isOtherThrough⟩, by decide +kernel, by decide⟩
theorem wm_X0_53 : Cond.methodLink RX0 53 yX0_pawnAt ∈ WA := wa_t 278 (by decide +kernel) rfl
theorem cw_X0_53 : CWd RX0 53 yX0_pawnAt cX0_pawnAt 2 (some .int) 1 := ⟨⟨wm_X0_53, wi_X0_pawnAt, we_X0_pawnAt, wn_X0, wc_X0_pawnAt⟩, by decide +kernel, by decide⟩
theorem wm_X0_56 : Cond.methodLink RX0 56 yX0_listSteps ∈ WA := wa_t 282 (by decide +kernel) rfl
theorem cw_X0_56 : CWd RX0 56 yX0_listSteps cX0_listSteps 7 none 3 := ⟨⟨wm_X0_56, wi_X0_listSteps, we_X0_listSteps, wn_X0, wc_X0_listSteps⟩, by decide +kernel, by decide⟩
theorem wm_X0_60 : Cond.methodLink RX0 60 yX0_canStep ∈ WA := wa_t 286 (by decide +kernel) rfl
theorem cw_X0_60 : CWd RX0 60 yX0_canStep cX0_canStep 9 (some .boolean) 3 := ⟨⟨wm_X0_60, wi_X0_canStep, we_X0_canStep, wn_X0, wc_X0_canStep⟩, by decide +kernel, by decide⟩
theorem wm_X0_64 : Cond.methodLink RX0 64 yX5_add ∈ WA := wa_t 290 (by decide +kernel) rfl
theorem cw_X0_64 : CWd RX0 64 yX5_add cX5_add 3 none 2 := ⟨⟨wm_X0_64, wi_X5_add, we_X5_add, wn_X5, wc_X5_add⟩, by decide +kernel, by decide⟩
theorem wm_X1_26 : Cond.methodLink RX1 26 yX1_find ∈ WA := wa_t 535 (by decide +kernel) rfl
theorem cw_X1_26 : CWd RX1 26 yX1_find cX1_find 5 (some .int) 2 := ⟨⟨wm_X1_26, wi_X1_find, we_X1_find, wn_X1, wc_X1_find⟩, by decide +kernel, by decide⟩
theorem wm_X1_30 : Cond.methodLink RX1 30 yJ9_max_7cf53 ∈ WA := wa_t 1060 (by decide +kernel) rfl
theorem wm_X1_36 : Cond.methodLink RX1 36 yX5_size ∈ WA := wa_t 530 (by decide +kernel) rfl
theorem cw_X1_36 : CWd RX1 36 yX5_size cX5_size 1 (some .int) 0 := ⟨⟨wm_X1_36, wi_X5_size, we_X5_size, wn_X5, wc_X5_size⟩, by decide +kernel, by decide⟩
theorem wm_X1_42 : Cond.methodLink RX1 42 yX5_moveAt ∈ WA := wa_t 531 (by decide +kernel) rfl
theorem cw_X1_42 : CWd RX1 42 yX5_moveAt cX5_moveAt 2 (some .int) 1 := ⟨⟨wm_X1_42, wi_X5_moveAt, we_X5_moveAt, wn_X5, wc_X5_moveAt⟩, by decide +kernel, by decide⟩
theorem wm_X1_46 : Cond.methodLink RX1 46 yX1_weightAt ∈ WA := wa_t 539 (by decide +kernel) rfl
theorem cw_X1_46 : CWd RX1 46 yX1_weightAt cX1_weightAt 2 (some .int) 1 := ⟨⟨wm_X1_46, wi_X1_weightAt, we_X1_weightAt, wn_X1, wc_X1_weightAt⟩, by decide +kernel, by decide⟩
theorem wm_X2_23 : Cond.methodLink RX2 23 yX0_mover ∈ WA := wa_t 409 (by decide +kernel) rfl
theorem cw_X2_23 : CWd RX2 23 yX0_mover cX0_mover 1 (some .int) 0 := ⟨⟨wm_X2_23, wi_X0_mover, we_X0_mover, wn_X0, wc_X0_mover⟩, by decide +kernel, by decide⟩
theorem wm_X2_29 : Cond.methodLink RX2 29 yX0_height ∈ WA := wa_t 410 (by decide +kernel) rfl
theorem cw_X2_29 : CWd RX2 29 yX0_height cX0_height 1 (some .int) 0 := ⟨⟨wm_X2_29, wi_X0_height, we_X0_height, wn_X0, wc_X0_height⟩, by decide +kernel, by decide⟩
theorem wm_X2_32 : Cond.methodLink RX2 32 yX0_width ∈ WA := wa_t 411 (by decide +kernel) rfl
theorem cw_X2_32 : CWd RX2 32 yX0_width cX0_width 1 (some .int) 0 := ⟨⟨wm_X2_32, wi_X0_width, we_X0_width, wn_X0, wc_X0_width⟩, by decide +kernel, by decide⟩
theorem wm_X2_35 : Cond.methodLink RX2 35 yX0_pawnAt ∈ WA := wa_t 412 (by decide +kernel) rfl
theorem cw_X2_35 : CWd RX2 35 yX0_pawnAt cX0_pawnAt 2 (some .int) 1 := ⟨⟨wm_X2_35, wi_X0_pawnAt, we_X0_pawnAt, wn_X0, wc_X0_pawnAt⟩, by decide +kernel, by decide⟩
theorem wm_X2_39 : Cond.methodLink RX2 39 yX2_weighPawn ∈ WA := wa_t 413 (by decide +kernel) rfl
theorem cw_X2_39 : CWd RX2 39 yX2_weighPawn cX2_weighPawn 8 (some .int) 4 := ⟨⟨wm_X2_39, wi_X2_weighPawn, we_X2_weighPawn, wn_X2, wc_X2_weighPawn⟩, by decide +kernel, by decide⟩
theorem wm_X2_43 : Cond.methodLink RX2 43 yX0_canStep ∈ WA := wa_t 417 (by decide +kernel) rfl
theorem cw_X2_43 : CWd RX2 43 yX0_canStep cX0_canStep 9 (some .boolean) 3 := ⟨⟨wm_X2_43, wi_X0_canStep, we_X0_canStep, wn_X0, wc_X0_canStep⟩, by decide +kernel, by decide⟩
theorem wm_X3_18 : Cond.methodLink RX3 18 yX3_clear ∈ WA := wa_t 205 (by decide +kernel) rfl
theorem cw_X3_18 : CWd RX3 18 yX3_clear cX3_clear 2 none 0 := ⟨⟨wm_X3_18, wi_X3_clear, we_X3_clear, wn_X3, wc_X3_clear⟩, by decide +kernel, by decide⟩
theorem wm_X4_17 : Cond.methodLink RX4 17 yX5_init ∈ WA := wa_t 40 (by decide +kernel) rfl
theorem wm_X4_22 : Cond.methodLink RX4 22 yX4_ofTurns ∈ WA := wa_t 586 (by decide +kernel) rfl
theorem cw_X4_22 : CWd RX4 22 yX4_ofTurns cX4_ofTurns 3 (some (.object "KindlingTree$MoveList")) 1 := ⟨⟨wm_X4_22, wi_X4_ofTurns, we_X4_ofTurns, wn_X4, wc_X4_ofTurns⟩, by decide +kernel, by decide⟩
theorem wm_X5_32 : Cond.methodLink RX5 32 yX5_indexOf ∈ WA := wa_t 989 (by decide +kernel) rfl
theorem cw_X5_32 : CWd RX5 32 yX5_indexOf cX5_indexOf 3 (some .int) 1 := ⟨⟨wm_X5_32, wi_X5_indexOf, we_X5_indexOf, wn_X5, wc_X5_indexOf⟩, by decide +kernel, by decide⟩
theorem wm_X5_36 : Cond.methodLink RX5 36 yX5_place ∈ WA := wa_t 993 (by decide +kernel) rfl
theorem cw_X5_36 : CWd RX5 36 yX5_place cX5_place 2 none 1 := ⟨⟨wm_X5_36, wi_X5_place, we_X5_place, wn_X5, wc_X5_place⟩, by decide +kernel, by decide⟩
theorem wm_X5_40 : Cond.methodLink RX5 40 yX5_isTaking ∈ WA := wa_t 997 (by decide +kernel) rfl
theorem cw_X5_40 : CWd RX5 40 yX5_isTaking cX5_isTaking 2 (some .boolean) 1 := ⟨⟨wm_X5_40, wi_X5_isTaking, we_X5_isTaking, wn_X5, wc_X5_isTaking⟩, by decide +kernel, by decide⟩
theorem wm_X6_27 : Cond.methodLink RX6 27 yX4_ofTurns ∈ WA := wa_t 620 (by decide +kernel) rfl
theorem cw_X6_27 : CWd RX6 27 yX4_ofTurns cX4_ofTurns 3 (some (.object "KindlingTree$MoveList")) 1 := ⟨⟨wm_X6_27, wi_X4_ofTurns, we_X4_ofTurns, wn_X4, wc_X4_ofTurns⟩, by decide +kernel, by decide⟩
theorem wm_X6_33 : Cond.methodLink RX6 33 yX0_listMoves ∈ WA := wa_t 621 (by decide +kernel) rfl
theorem cw_X6_33 : CWd RX6 33 yX0_listMoves cX0_listMoves 4 none 1 := ⟨⟨wm_X6_33, wi_X0_listMoves, we_X0_listMoves, wn_X0, wc_X0_listMoves⟩, by decide +kernel, by decide⟩
theorem wm_X6_39 : Cond.methodLink RX6 39 yX5_size ∈ WA := wa_t 622 (by decide +kernel) rfl
theorem cw_X6_39 : CWd RX6 39 yX5_size cX5_size 1 (some .int) 0 := ⟨⟨wm_X6_39, wi_X5_size, we_X5_size, wn_X5, wc_X5_size⟩, by decide +kernel, by decide⟩
theorem wm_X6_45 : Cond.methodLink RX6 45 yX2_evaluate ∈ WA := wa_t 623 (by decide +kernel) rfl
theorem cw_X6_45 : CWd RX6 45 yX2_evaluate cX2_evaluate 8 (some .int) 1 := ⟨⟨wm_X6_45, wi_X2_evaluate, we_X2_evaluate, wn_X2, wc_X2_evaluate⟩, by decide +kernel, by decide⟩
theorem wm_X6_51 : Cond.methodLink RX6 51 yX2_isQuietOn ∈ WA := wa_t 624 (by decide +kernel) rfl
theorem cw_X6_51 : CWd RX6 51 yX2_isQuietOn cX2_isQuietOn 1 (some .boolean) 0 := ⟨⟨wm_X6_51, wi_X2_isQuietOn, we_X2_isQuietOn, wn_X2, wc_X2_isQuietOn⟩, by decide +kernel, by decide⟩
theorem wm_X6_55 : Cond.methodLink RX6 55 yJ9_max_7cf53 ∈ WA := wa_t 625 (by decide +kernel) rfl
theorem wm_X6_61 : Cond.methodLink RX6 61 yX5_isTaking ∈ WA := wa_t 628 (by decide +kernel) rfl
theorem cw_X6_61 : CWd RX6 61 yX5_isTaking cX5_isTaking 2 (some .boolean) 1 := ⟨⟨wm_X6_61, wi_X5_isTaking, we_X5_isTaking, wn_X5, wc_X5_isTaking⟩, by decide +kernel, by decide⟩
theorem wm_X6_65 : Cond.methodLink RX6 65 yX5_moveAt ∈ WA := wa_t 632 (by decide +kernel) rfl
theorem cw_X6_65 : CWd RX6 65 yX5_moveAt cX5_moveAt 2 (some .int) 1 := ⟨⟨wm_X6_65, wi_X5_moveAt, we_X5_moveAt, wn_X5, wc_X5_moveAt⟩, by decide +kernel, by decide⟩
theorem wm_X6_69 : Cond.methodLink RX6 69 yX6_behind ∈ WA := wa_t 633 (by decide +kernel) rfl
theorem cw_X6_69 : CWd RX6 69 yX6_behind cX6_behind 7 (some .int) 4 := ⟨⟨wm_X6_69, wi_X6_behind, we_X6_behind, wn_X6, wc_X6_behind⟩, by decide +kernel, by decide⟩
theorem wm_X6_73 : Cond.methodLink RX6 73 yX0_advance ∈ WA := wa_t 637 (by decide +kernel) rfl
theorem cw_X6_73 : CWd RX6 73 yX0_advance cX0_advance 5 (some .int) 1 := ⟨⟨wm_X6_73, wi_X0_advance, we_X0_advance, wn_X0, wc_X0_advance⟩, by decide +kernel, by decide⟩
theorem wm_X6_76 : Cond.methodLink RX6 76 yX6_lookOn ∈ WA := wa_t 638 (by decide +kernel) rfl
theorem cw_X6_76 : CWd RX6 76 yX6_lookOn cX6_lookOn 8 (some .int) 3 := ⟨⟨wm_X6_76, wi_X6_lookOn, we_X6_lookOn, wn_X6, wc_X6_lookOn⟩, by decide +kernel, by decide⟩
theorem wm_X6_80 : Cond.methodLink RX6 80 yX0_retreat ∈ WA := wa_t 639 (by decide +kernel) rfl
theorem cw_X6_80 : CWd RX6 80 yX0_retreat cX0_retreat 5 none 2 := ⟨⟨wm_X6_80, wi_X0_retreat, we_X0_retreat, wn_X0, wc_X0_retreat⟩, by decide +kernel, by decide⟩
theorem wm_X7_29 : Cond.methodLink RX7 29 yX3_init ∈ WA := wa_t 201 (by decide +kernel) rfl
theorem wm_X7_44 : Cond.methodLink RX7 44 yX6_nodeCount ∈ WA := wa_t 452 (by decide +kernel) rfl
theorem cw_X7_44 : CWd RX7 44 yX6_nodeCount cX6_nodeCount 1 (some .int) 0 := ⟨⟨wm_X7_44, wi_X6_nodeCount, we_X6_nodeCount, wn_X6, wc_X6_nodeCount⟩, by decide +kernel, by decide⟩
theorem wm_X7_56 : Cond.methodLink RX7 56 yX3_olderOf ∈ WA := wa_t 480 (by decide +kernel) rfl
theorem cw_X7_56 : CWd RX7 56 yX3_olderOf cX3_olderOf 2 (some .int) 1 := ⟨⟨wm_X7_56, wi_X3_olderOf, we_X3_olderOf, wn_X3, wc_X3_olderOf⟩, by decide +kernel, by decide⟩
theorem wm_X7_60 : Cond.methodLink RX7 60 yX3_newerOf ∈ WA := wa_t 484 (by decide +kernel) rfl
theorem cw_X7_60 : CWd RX7 60 yX3_newerOf cX3_newerOf 2 (some .int) 1 := ⟨⟨wm_X7_60, wi_X3_newerOf, we_X3_newerOf, wn_X3, wc_X3_newerOf⟩, by decide +kernel, by decide⟩
theorem wm_X7_63 : Cond.methodLink RX7 63 yX3_clear ∈ WA := wa_t 963 (by decide +kernel) rfl
theorem cw_X7_63 : CWd RX7 63 yX3_clear cX3_clear 2 none 0 := ⟨⟨wm_X7_63, wi_X3_clear, we_X3_clear, wn_X3, wc_X3_clear⟩, by decide +kernel, by decide⟩
theorem wm_X7_66 : Cond.methodLink RX7 66 yX6_clearCount ∈ WA := wa_t 964 (by decide +kernel) rfl
theorem cw_X7_66 : CWd RX7 66 yX6_clearCount cX6_clearCount 1 none 0 := ⟨⟨wm_X7_66, wi_X6_clearCount, we_X6_clearCount, wn_X6, wc_X6_clearCount⟩, by decide +kernel, by decide⟩
theorem wm_X7_69 : Cond.methodLink RX7 69 yX7_nodeCount ∈ WA := wa_t 968 (by decide +kernel) rfl
theorem cw_X7_69 : CWd RX7 69 yX7_nodeCount cX7_nodeCount 1 (some .int) 0 := ⟨⟨wm_X7_69, wi_X7_nodeCount, we_X7_nodeCount, wn_X7, wc_X7_nodeCount⟩, by decide +kernel, by decide⟩
theorem wm_X7_70 : Cond.methodLink RX7 70 yX7_explore ∈ WA := wa_t 969 (by decide +kernel) rfl
theorem cw_X7_70 : CWd RX7 70 yX7_explore cX7_explore 8 (some .int) 3 := ⟨⟨wm_X7_70, wi_X7_explore, we_X7_explore, wn_X7, wc_X7_explore⟩, by decide +kernel, by decide⟩
theorem cw_X7_74 : CWn RX7 74 yX6_lookOn cX6_lookOn 8 (some .int) 3 := ⟨⟨by decide +kernel, wi_X6_lookOn, we_X6_lookOn, wn_X6, wc_X6_lookOn⟩, by decide +kernel, by decide⟩
theorem wm_X7_77 : Cond.methodLink RX7 77 yX4_ofDepth ∈ WA := wa_t 974 (by decide +kernel) rfl
theorem cw_X7_77 : CWd RX7 77 yX4_ofDepth cX4_ofDepth 2 (some (.object "KindlingTree$MoveList")) 1 := ⟨⟨wm_X7_77, wi_X4_ofDepth, we_X4_ofDepth, wn_X4, wc_X4_ofDepth⟩, by decide +kernel, by decide⟩
theorem wm_X7_83 : Cond.methodLink RX7 83 yX0_listMoves ∈ WA := wa_t 975 (by decide +kernel) rfl
theorem cw_X7_83 : CWd RX7 83 yX0_listMoves cX0_listMoves 4 none 1 := ⟨⟨wm_X7_83, wi_X0_listMoves, we_X0_listMoves, wn_X0, wc_X0_listMoves⟩, by decide +kernel, by decide⟩
theorem wm_X7_89 : Cond.methodLink RX7 89 yX5_size ∈ WA := wa_t 976 (by decide +kernel) rfl
theorem cw_X7_89 : CWd RX7 89 yX5_size cX5_size 1 (some .int) 0 := ⟨⟨wm_X7_89, wi_X5_size, we_X5_size, wn_X5, wc_X5_size⟩, by decide +kernel, by decide⟩
theorem wm_X7_94 : Cond.methodLink RX7 94 yX0_keyNumber ∈ WA := wa_t 977 (by decide +kernel) rfl
theorem cw_X7_94 : CWd RX7 94 yX0_keyNumber cX0_keyNumber 5 (some .long) 0 := ⟨⟨wm_X7_94, wi_X0_keyNumber, we_X0_keyNumber, wn_X0, wc_X0_keyNumber⟩, by decide +kernel, by decide⟩
theorem wm_X7_98 : Cond.methodLink RX7 98 yX8_find ∈ WA := wa_t 978 (by decide +kernel) rfl
theorem cw_X7_98 : CWd RX7 98 yX8_find cX8_find 4 (some .int) 1 := ⟨⟨wm_X7_98, wi_X8_find, we_X8_find, wn_X8, wc_X8_find⟩, by decide +kernel, by decide⟩
theorem wm_X7_104 : Cond.methodLink RX7 104 yX8_isAnswer ∈ WA := wa_t 979 (by decide +kernel) rfl
theorem cw_X7_104 : CWd RX7 104 yX8_isAnswer cX8_isAnswer 7 (some .boolean) 4 := ⟨⟨wm_X7_104, wi_X8_isAnswer, we_X8_isAnswer, wn_X8, wc_X8_isAnswer⟩, by decide +kernel, by decide⟩
theorem wm_X7_108 : Cond.methodLink RX7 108 yX8_moveAt ∈ WA := wa_t 983 (by decide +kernel) rfl
theorem cw_X7_108 : CWd RX7 108 yX8_moveAt cX8_moveAt 2 (some .int) 1 := ⟨⟨wm_X7_108, wi_X8_moveAt, we_X8_moveAt, wn_X8, wc_X8_moveAt⟩, by decide +kernel, by decide⟩
theorem wm_X7_111 : Cond.methodLink RX7 111 yX8_numberAt ∈ WA := wa_t 984 (by decide +kernel) rfl
theorem cw_X7_111 : CWd RX7 111 yX8_numberAt cX8_numberAt 2 (some .int) 1 := ⟨⟨wm_X7_111, wi_X8_numberAt, we_X8_numberAt, wn_X8, wc_X8_numberAt⟩, by decide +kernel, by decide⟩
theorem wm_X7_114 : Cond.methodLink RX7 114 yX5_arrange ∈ WA := wa_t 985 (by decide +kernel) rfl
theorem cw_X7_114 : CWd RX7 114 yX5_arrange cX5_arrange 5 none 3 := ⟨⟨wm_X7_114, wi_X5_arrange, we_X5_arrange, wn_X5, wc_X5_arrange⟩, by decide +kernel, by decide⟩
theorem wm_X7_118 : Cond.methodLink RX7 118 yX7_tryMoves ∈ WA := wa_t 998 (by decide +kernel) rfl
theorem cw_X7_118 : CWd RX7 118 yX7_tryMoves cX7_tryMoves 13 (some .int) 5 := ⟨⟨wm_X7_118, wi_X7_tryMoves, we_X7_tryMoves, wn_X7, wc_X7_tryMoves⟩, by decide +kernel, by decide⟩
theorem wm_X7_122 : Cond.methodLink RX7 122 yX5_inOrder ∈ WA := wa_t 1002 (by decide +kernel) rfl
theorem cw_X7_122 : CWd RX7 122 yX5_inOrder cX5_inOrder 2 (some .int) 1 := ⟨⟨wm_X7_122, wi_X5_inOrder, we_X5_inOrder, wn_X5, wc_X5_inOrder⟩, by decide +kernel, by decide⟩
theorem wm_X7_125 : Cond.methodLink RX7 125 yX5_moveAt ∈ WA := wa_t 1006 (by decide +kernel) rfl
theorem cw_X7_125 : CWd RX7 125 yX5_moveAt cX5_moveAt 2 (some .int) 1 := ⟨⟨wm_X7_125, wi_X5_moveAt, we_X5_moveAt, wn_X5, wc_X5_moveAt⟩, by decide +kernel, by decide⟩
theorem wm_X7_126 : Cond.methodLink RX7 126 yX7_behind ∈ WA := wa_t 1007 (by decide +kernel) rfl
theorem cw_X7_126 : CWd RX7 126 yX7_behind cX7_behind 7 (some .int) 4 := ⟨⟨wm_X7_126, wi_X7_behind, we_X7_behind, wn_X7, wc_X7_behind⟩, by decide +kernel, by decide⟩
theorem wm_X7_130 : Cond.methodLink RX7 130 yJ9_max_7cf53 ∈ WA := wa_t 1013 (by decide +kernel) rfl
theorem wm_X7_136 : Cond.methodLink RX7 136 yX7_noteCut ∈ WA := wa_t 1014 (by decide +kernel) rfl
theorem cw_X7_136 : CWd RX7 136 yX7_noteCut cX7_noteCut 4 none 3 := ⟨⟨wm_X7_136, wi_X7_noteCut, we_X7_noteCut, wn_X7, wc_X7_noteCut⟩, by decide +kernel, by decide⟩
theorem wm_X7_140 : Cond.methodLink RX7 140 yX8_store ∈ WA := wa_t 1024 (by decide +kernel) rfl
theorem cw_X7_140 : CWd RX7 140 yX8_store cX8_store 8 none 5 := ⟨⟨wm_X7_140, wi_X8_store, we_X8_store, wn_X8, wc_X8_store⟩, by decide +kernel, by decide⟩
theorem wm_X7_144 : Cond.methodLink RX7 144 yX0_advance ∈ WA := wa_t 1011 (by decide +kernel) rfl
theorem cw_X7_144 : CWd RX7 144 yX0_advance cX0_advance 5 (some .int) 1 := ⟨⟨wm_X7_144, wi_X0_advance, we_X0_advance, wn_X0, wc_X0_advance⟩, by decide +kernel, by decide⟩
theorem wm_X7_147 : Cond.methodLink RX7 147 yX0_retreat ∈ WA := wa_t 1012 (by decide +kernel) rfl
theorem cw_X7_147 : CWd RX7 147 yX0_retreat cX0_retreat 5 none 2 := ⟨⟨wm_X7_147, wi_X0_retreat, we_X0_retreat, wn_X0, wc_X0_retreat⟩, by decide +kernel, by decide⟩
theorem wm_X7_151 : Cond.methodLink RX7 151 yX5_indexOf ∈ WA := wa_t 1018 (by decide +kernel) rfl
theorem cw_X7_151 : CWd RX7 151 yX5_indexOf cX5_indexOf 3 (some .int) 1 := ⟨⟨wm_X7_151, wi_X5_indexOf, we_X5_indexOf, wn_X5, wc_X5_indexOf⟩, by decide +kernel, by decide⟩
theorem wm_X7_154 : Cond.methodLink RX7 154 yX5_isTaking ∈ WA := wa_t 1019 (by decide +kernel) rfl
theorem cw_X7_154 : CWd RX7 154 yX5_isTaking cX5_isTaking 2 (some .boolean) 1 := ⟨⟨wm_X7_154, wi_X5_isTaking, we_X5_isTaking, wn_X5, wc_X5_isTaking⟩, by decide +kernel, by decide⟩
theorem wm_X7_158 : Cond.methodLink RX7 158 yX3_note ∈ WA := wa_t 1020 (by decide +kernel) rfl
theorem cw_X7_158 : CWd RX7 158 yX3_note cX3_note 3 none 2 := ⟨⟨wm_X7_158, wi_X3_note, we_X3_note, wn_X3, wc_X3_note⟩, by decide +kernel, by decide⟩
theorem wm_X8_32 : Cond.methodLink RX8 32 yX8_wipe ∈ WA := wa_t 896 (by decide +kernel) rfl
theorem cw_X8_32 : CWd RX8 32 yX8_wipe cX8_wipe 2 none 0 := ⟨⟨wm_X8_32, wi_X8_wipe, we_X8_wipe, wn_X8, wc_X8_wipe⟩, by decide +kernel, by decide⟩
theorem wm_X8_35 : Cond.methodLink RX8 35 yX8_slotOf ∈ WA := wa_t 508 (by decide +kernel) rfl
theorem cw_X8_35 : CWd RX8 35 yX8_slotOf cX8_slotOf 3 (some .int) 1 := ⟨⟨wm_X8_35, wi_X8_slotOf, we_X8_slotOf, wn_X8, wc_X8_slotOf⟩, by decide +kernel, by decide⟩
theorem wm_X8_39 : Cond.methodLink RX8 39 yX8_depthAt ∈ WA := wa_t 512 (by decide +kernel) rfl
theorem cw_X8_39 : CWd RX8 39 yX8_depthAt cX8_depthAt 2 (some .int) 1 := ⟨⟨wm_X8_39, wi_X8_depthAt, we_X8_depthAt, wn_X8, wc_X8_depthAt⟩, by decide +kernel, by decide⟩
theorem wm_X8_43 : Cond.methodLink RX8 43 yX8_keyAt ∈ WA := wa_t 516 (by decide +kernel) rfl
theorem cw_X8_43 : CWd RX8 43 yX8_keyAt cX8_keyAt 2 (some .long) 1 := ⟨⟨wm_X8_43, wi_X8_keyAt, we_X8_keyAt, wn_X8, wc_X8_keyAt⟩, by decide +kernel, by decide⟩
theorem wm_X8_47 : Cond.methodLink RX8 47 yX8_isSlot ∈ WA := wa_t 1028 (by decide +kernel) rfl
theorem cw_X8_47 : CWd RX8 47 yX8_isSlot cX8_isSlot 2 (some .boolean) 1 := ⟨⟨wm_X8_47, wi_X8_isSlot, we_X8_isSlot, wn_X8, wc_X8_isSlot⟩, by decide +kernel, by decide⟩
theorem wm_X8_51 : Cond.methodLink RX8 51 yX8_kindAt ∈ WA := wa_t 662 (by decide +kernel) rfl
theorem cw_X8_51 : CWd RX8 51 yX8_kindAt cX8_kindAt 2 (some .int) 1 := ⟨⟨wm_X8_51, wi_X8_kindAt, we_X8_kindAt, wn_X8, wc_X8_kindAt⟩, by decide +kernel, by decide⟩
theorem wm_X8_54 : Cond.methodLink RX8 54 yX8_numberAt ∈ WA := wa_t 658 (by decide +kernel) rfl
theorem cw_X8_54 : CWd RX8 54 yX8_numberAt cX8_numberAt 2 (some .int) 1 := ⟨⟨wm_X8_54, wi_X8_numberAt, we_X8_numberAt, wn_X8, wc_X8_numberAt⟩, by decide +kernel, by decide⟩
theorem wm_X8_57 : Cond.methodLink RX8 57 yX8_moveAt ∈ WA := wa_t 666 (by decide +kernel) rfl
theorem cw_X8_57 : CWd RX8 57 yX8_moveAt cX8_moveAt 2 (some .int) 1 := ⟨⟨wm_X8_57, wi_X8_moveAt, we_X8_moveAt, wn_X8, wc_X8_moveAt⟩, by decide +kernel, by decide⟩
theorem wm_X9_22 : Cond.methodLink RX9 22 yX9_forgetOldest ∈ WA := wa_t 847 (by decide +kernel) rfl
theorem cw_X9_22 : CWd RX9 22 yX9_forgetOldest cX9_forgetOldest 2 none 0 := ⟨⟨wm_X9_22, wi_X9_forgetOldest, we_X9_forgetOldest, wn_X9, wc_X9_forgetOldest⟩, by decide +kernel, by decide⟩
theorem wm_X10_23 : Cond.methodLink RX10 23 yX4_ofDepth ∈ WA := wa_t 582 (by decide +kernel) rfl
theorem cw_X10_23 : CWd RX10 23 yX4_ofDepth cX4_ofDepth 2 (some (.object "KindlingTree$MoveList")) 1 := ⟨⟨wm_X10_23, wi_X4_ofDepth, we_X4_ofDepth, wn_X4, wc_X4_ofDepth⟩, by decide +kernel, by decide⟩
theorem wm_X10_29 : Cond.methodLink RX10 29 yX0_listMoves ∈ WA := wa_t 590 (by decide +kernel) rfl
theorem cw_X10_29 : CWd RX10 29 yX0_listMoves cX0_listMoves 4 none 1 := ⟨⟨wm_X10_29, wi_X0_listMoves, we_X0_listMoves, wn_X0, wc_X0_listMoves⟩, by decide +kernel, by decide⟩
theorem wm_X10_35 : Cond.methodLink RX10 35 yX5_size ∈ WA := wa_t 591 (by decide +kernel) rfl
theorem cw_X10_35 : CWd RX10 35 yX5_size cX5_size 1 (some .int) 0 := ⟨⟨wm_X10_35, wi_X5_size, we_X5_size, wn_X5, wc_X5_size⟩, by decide +kernel, by decide⟩
theorem wm_X10_41 : Cond.methodLink RX10 41 yX5_moveAt ∈ WA := wa_t 592 (by decide +kernel) rfl
theorem cw_X10_41 : CWd RX10 41 yX5_moveAt cX5_moveAt 2 (some .int) 1 := ⟨⟨wm_X10_41, wi_X5_moveAt, we_X5_moveAt, wn_X5, wc_X5_moveAt⟩, by decide +kernel, by decide⟩
theorem wm_X10_45 : Cond.methodLink RX10 45 yX10_countBehind ∈ WA := wa_t 593 (by decide +kernel) rfl
theorem cw_X10_45 : CWd RX10 45 yX10_countBehind cX10_countBehind 5 (some .int) 2 := ⟨⟨wm_X10_45, wi_X10_countBehind, we_X10_countBehind, wn_X10, wc_X10_countBehind⟩, by decide +kernel, by decide⟩
theorem wm_X10_49 : Cond.methodLink RX10 49 yX0_advance ∈ WA := wa_t 597 (by decide +kernel) rfl
theorem cw_X10_49 : CWd RX10 49 yX0_advance cX0_advance 5 (some .int) 1 := ⟨⟨wm_X10_49, wi_X0_advance, we_X0_advance, wn_X0, wc_X0_advance⟩, by decide +kernel, by decide⟩
theorem wm_X10_52 : Cond.methodLink RX10 52 yX10_countWays ∈ WA := wa_t 607 (by decide +kernel) rfl
theorem cw_X10_52 : CWd RX10 52 yX10_countWays cX10_countWays 5 (some .int) 1 := ⟨⟨wm_X10_52, wi_X10_countWays, we_X10_countWays, wn_X10, wc_X10_countWays⟩, by decide +kernel, by decide⟩
theorem wm_X10_55 : Cond.methodLink RX10 55 yX0_retreat ∈ WA := wa_t 608 (by decide +kernel) rfl
theorem cw_X10_55 : CWd RX10 55 yX0_retreat cX0_retreat 5 none 2 := ⟨⟨wm_X10_55, wi_X0_retreat, we_X0_retreat, wn_X0, wc_X0_retreat⟩, by decide +kernel, by decide⟩
theorem cw_X10_59 : CWn RX10 59 yX6_lookOn cX6_lookOn 8 (some .int) 3 := ⟨⟨by decide +kernel, wi_X6_lookOn, we_X6_lookOn, wn_X6, wc_X6_lookOn⟩, by decide +kernel, by decide⟩
theorem wm_X10_65 : Cond.methodLink RX10 65 yX10_worthBehind ∈ WA := wa_t 640 (by decide +kernel) rfl
theorem cw_X10_65 : CWd RX10 65 yX10_worthBehind cX10_worthBehind 7 (some .int) 4 := ⟨⟨wm_X10_65, wi_X10_worthBehind, we_X10_worthBehind, wn_X10, wc_X10_worthBehind⟩, by decide +kernel, by decide⟩
theorem wm_X10_69 : Cond.methodLink RX10 69 yJ9_max_7cf53 ∈ WA := wa_t 645 (by decide +kernel) rfl
theorem wm_X10_74 : Cond.methodLink RX10 74 yX10_worth ∈ WA := wa_t 644 (by decide +kernel) rfl
theorem cw_X10_74 : CWd RX10 74 yX10_worth cX10_worth 8 (some .int) 3 := ⟨⟨wm_X10_74, wi_X10_worth, we_X10_worth, wn_X10, wc_X10_worth⟩, by decide +kernel, by decide⟩
theorem wm_RL_7 : Cond.methodLink RL 7 yX11_setUp ∈ WA := wa_t 676 (by decide +kernel) rfl
theorem cw_RL_7 : CWd RL 7 yX11_setUp cX11_setUp 4 (some .int) 3 := ⟨⟨wm_RL_7, wi_X11_setUp, we_X11_setUp, wn_X11, wc_X11_setUp⟩, by decide +kernel, by decide⟩
theorem wm_RL_15 : Cond.methodLink RL 15 yX11_put ∈ WA := wa_t 768 (by decide +kernel) rfl
theorem cw_RL_15 : CWd RL 15 yX11_put cX11_put 4 (some .int) 2 := ⟨⟨wm_RL_15, wi_X11_put, we_X11_put, wn_X11, wc_X11_put⟩, by decide +kernel, by decide⟩
theorem wm_RL_23 : Cond.methodLink RL 23 yX11_setSide ∈ WA := wa_t 817 (by decide +kernel) rfl
theorem cw_RL_23 : CWd RL 23 yX11_setSide cX11_setSide 3 (some .int) 1 := ⟨⟨wm_RL_23, wi_X11_setSide, we_X11_setSide, wn_X11, wc_X11_setSide⟩, by decide +kernel, by decide⟩
theorem wm_RL_27 : Cond.methodLink RL 27 yX11_play ∈ WA := wa_t 829 (by decide +kernel) rfl
theorem cw_RL_27 : CWd RL 27 yX11_play cX11_play 2 (some .int) 1 := ⟨⟨wm_RL_27, wi_X11_play, we_X11_play, wn_X11, wc_X11_play⟩, by decide +kernel, by decide⟩
theorem wm_RL_30 : Cond.methodLink RL 30 yX11_back ∈ WA := wa_t 854 (by decide +kernel) rfl
theorem cw_RL_30 : CWd RL 30 yX11_back cX11_back 1 (some .int) 0 := ⟨⟨wm_RL_30, wi_X11_back, we_X11_back, wn_X11, wc_X11_back⟩, by decide +kernel, by decide⟩
theorem wm_RL_34 : Cond.methodLink RL 34 yX11_weigh ∈ WA := wa_t 875 (by decide +kernel) rfl
theorem cw_RL_34 : CWd RL 34 yX11_weigh cX11_weigh 4 (some .int) 3 := ⟨⟨wm_RL_34, wi_X11_weigh, we_X11_weigh, wn_X11, wc_X11_weigh⟩, by decide +kernel, by decide⟩
theorem wm_RL_37 : Cond.methodLink RL 37 yX11_setSlots ∈ WA := wa_t 887 (by decide +kernel) rfl
theorem cw_RL_37 : CWd RL 37 yX11_setSlots cX11_setSlots 3 (some .int) 1 := ⟨⟨wm_RL_37, wi_X11_setSlots, we_X11_setSlots, wn_X11, wc_X11_setSlots⟩, by decide +kernel, by decide⟩
theorem wm_RL_40 : Cond.methodLink RL 40 yX11_at ∈ WA := wa_t 900 (by decide +kernel) rfl
theorem cw_RL_40 : CWd RL 40 yX11_at cX11_at 2 (some .int) 1 := ⟨⟨wm_RL_40, wi_X11_at, we_X11_at, wn_X11, wc_X11_at⟩, by decide +kernel, by decide⟩
theorem wm_RL_43 : Cond.methodLink RL 43 yX11_from ∈ WA := wa_t 907 (by decide +kernel) rfl
theorem cw_RL_43 : CWd RL 43 yX11_from cX11_from 2 (some .int) 1 := ⟨⟨wm_RL_43, wi_X11_from, we_X11_from, wn_X11, wc_X11_from⟩, by decide +kernel, by decide⟩
theorem wm_RL_46 : Cond.methodLink RL 46 yX11_to ∈ WA := wa_t 914 (by decide +kernel) rfl
theorem cw_RL_46 : CWd RL 46 yX11_to cX11_to 2 (some .int) 1 := ⟨⟨wm_RL_46, wi_X11_to, we_X11_to, wn_X11, wc_X11_to⟩, by decide +kernel, by decide⟩
theorem wm_RL_49 : Cond.methodLink RL 49 yX11_takes ∈ WA := wa_t 921 (by decide +kernel) rfl
theorem cw_RL_49 : CWd RL 49 yX11_takes cX11_takes 2 (some .boolean) 1 := ⟨⟨wm_RL_49, wi_X11_takes, we_X11_takes, wn_X11, wc_X11_takes⟩, by decide +kernel, by decide⟩
theorem wm_RL_53 : Cond.methodLink RL 53 yX11_ways ∈ WA := wa_t 929 (by decide +kernel) rfl
theorem cw_RL_53 : CWd RL 53 yX11_ways cX11_ways 2 (some .int) 1 := ⟨⟨wm_RL_53, wi_X11_ways, we_X11_ways, wn_X11, wc_X11_ways⟩, by decide +kernel, by decide⟩
theorem wm_RL_56 : Cond.methodLink RL 56 yX11_value ∈ WA := wa_t 937 (by decide +kernel) rfl
theorem cw_RL_56 : CWd RL 56 yX11_value cX11_value 2 (some .int) 1 := ⟨⟨wm_RL_56, wi_X11_value, we_X11_value, wn_X11, wc_X11_value⟩, by decide +kernel, by decide⟩
theorem wm_RL_59 : Cond.methodLink RL 59 yX11_valueOf ∈ WA := wa_t 944 (by decide +kernel) rfl
theorem cw_RL_59 : CWd RL 59 yX11_valueOf cX11_valueOf 3 (some .int) 2 := ⟨⟨wm_RL_59, wi_X11_valueOf, we_X11_valueOf, wn_X11, wc_X11_valueOf⟩, by decide +kernel, by decide⟩
theorem wm_RL_62 : Cond.methodLink RL 62 yX11_search ∈ WA := wa_t 953 (by decide +kernel) rfl
theorem cw_RL_62 : CWd RL 62 yX11_search cX11_search 2 (some .int) 1 := ⟨⟨wm_RL_62, wi_X11_search, we_X11_search, wn_X11, wc_X11_search⟩, by decide +kernel, by decide⟩
theorem wm_RL_65 : Cond.methodLink RL 65 yX11_ofSlot ∈ WA := wa_t 1035 (by decide +kernel) rfl
theorem cw_RL_65 : CWd RL 65 yX11_ofSlot cX11_ofSlot 3 (some .int) 2 := ⟨⟨wm_RL_65, wi_X11_ofSlot, we_X11_ofSlot, wn_X11, wc_X11_ofSlot⟩, by decide +kernel, by decide⟩
theorem wm_RL_68 : Cond.methodLink RL 68 yX11_teach ∈ WA := wa_t 1045 (by decide +kernel) rfl
theorem cw_RL_68 : CWd RL 68 yX11_teach cX11_teach 6 (some .int) 2 := ⟨⟨wm_RL_68, wi_X11_teach, we_X11_teach, wn_X11, wc_X11_teach⟩, by decide +kernel, by decide⟩
theorem wm_RL_71 : Cond.methodLink RL 71 yX11_go ∈ WA := wa_t 1064 (by decide +kernel) rfl
theorem cw_RL_71 : CWd RL 71 yX11_go cX11_go 2 (some .int) 1 := ⟨⟨wm_RL_71, wi_X11_go, we_X11_go, wn_X11, wc_X11_go⟩, by decide +kernel, by decide⟩
theorem wm_RL_74 : Cond.methodLink RL 74 yX11_playOut ∈ WA := wa_t 1076 (by decide +kernel) rfl
theorem cw_RL_74 : CWd RL 74 yX11_playOut cX11_playOut 4 (some .int) 2 := ⟨⟨wm_RL_74, wi_X11_playOut, we_X11_playOut, wn_X11, wc_X11_playOut⟩, by decide +kernel, by decide⟩
theorem wm_RL_77 : Cond.methodLink RL 77 yX11_init ∈ WA := wa_t 25 (by decide +kernel) rfl
theorem wm_RL_80 : Cond.methodLink RL 80 yX12_init ∈ WA := wa_t 1083 (by decide +kernel) rfl
theorem wm_RL_81 : Cond.methodLink RL 81 yL_setUp ∈ WA := wa_t 672 (by decide +kernel) rfl
theorem wm_RL_86 : Cond.methodLink RL 86 yX12_setUp ∈ WA := wa_t 1184 (by decide +kernel) rfl
theorem cw_RL_86 : CWd RL 86 yX12_setUp cX12_setUp 4 (some .int) 3 := ⟨⟨wm_RL_86, wi_X12_setUp, we_X12_setUp, wn_X12, wc_X12_setUp⟩, by decide +kernel, by decide⟩
theorem wm_RL_87 : Cond.methodLink RL 87 yX12_thrown ∈ WA := wa_t 1180 (by decide +kernel) rfl
theorem cw_RL_87 : CWd RL 87 yX12_thrown cX12_thrown 1 (some .int) 0 := ⟨⟨wm_RL_87, wi_X12_thrown, we_X12_thrown, wn_X12, wc_X12_thrown⟩, by decide +kernel, by decide⟩
theorem wm_RL_90 : Cond.methodLink RL 90 yL_put ∈ WA := wa_t 763 (by decide +kernel) rfl
theorem wm_RL_93 : Cond.methodLink RL 93 yX12_put ∈ WA := wa_t 1195 (by decide +kernel) rfl
theorem cw_RL_93 : CWd RL 93 yX12_put cX12_put 4 (some .int) 2 := ⟨⟨wm_RL_93, wi_X12_put, we_X12_put, wn_X12, wc_X12_put⟩, by decide +kernel, by decide⟩
theorem wm_RL_94 : Cond.methodLink RL 94 yL_setSide ∈ WA := wa_t 814 (by decide +kernel) rfl
theorem wm_RL_97 : Cond.methodLink RL 97 yX12_setSide ∈ WA := wa_t 1207 (by decide +kernel) rfl
theorem cw_RL_97 : CWd RL 97 yX12_setSide cX12_setSide 3 (some .int) 1 := ⟨⟨wm_RL_97, wi_X12_setSide, we_X12_setSide, wn_X12, wc_X12_setSide⟩, by decide +kernel, by decide⟩
theorem wm_RL_98 : Cond.methodLink RL 98 yL_play ∈ WA := wa_t 826 (by decide +kernel) rfl
theorem wm_RL_100 : Cond.methodLink RL 100 yX12_play ∈ WA := wa_t 1215 (by decide +kernel) rfl
theorem cw_RL_100 : CWd RL 100 yX12_play cX12_play 2 (some .int) 1 := ⟨⟨wm_RL_100, wi_X12_play, we_X12_play, wn_X12, wc_X12_play⟩, by decide +kernel, by decide⟩
theorem wm_RL_101 : Cond.methodLink RL 101 yL_back ∈ WA := wa_t 851 (by decide +kernel) rfl
theorem wm_RL_104 : Cond.methodLink RL 104 yX12_back ∈ WA := wa_t 1258 (by decide +kernel) rfl
theorem cw_RL_104 : CWd RL 104 yX12_back cX12_back 1 (some .int) 0 := ⟨⟨wm_RL_104, wi_X12_back, we_X12_back, wn_X12, wc_X12_back⟩, by decide +kernel, by decide⟩
theorem wm_RL_105 : Cond.methodLink RL 105 yL_weigh ∈ WA := wa_t 872 (by decide +kernel) rfl
theorem wm_RL_107 : Cond.methodLink RL 107 yX12_weigh ∈ WA := wa_t 1266 (by decide +kernel) rfl
theorem cw_RL_107 : CWd RL 107 yX12_weigh cX12_weigh 4 (some .int) 3 := ⟨⟨wm_RL_107, wi_X12_weigh, we_X12_weigh, wn_X12, wc_X12_weigh⟩, by decide +kernel, by decide⟩
theorem wm_RL_108 : Cond.methodLink RL 108 yX11_setQuiet ∈ WA := wa_t 319 (by decide +kernel) rfl
theorem cw_RL_108 : CWd RL 108 yX11_setQuiet cX11_setQuiet 3 (some .boolean) 1 := ⟨⟨wm_RL_108, wi_X11_setQuiet, we_X11_setQuiet, wn_X11, wc_X11_setQuiet⟩, by decide +kernel, by decide⟩
theorem wm_RL_112 : Cond.methodLink RL 112 yX12_setQuiet ∈ WA := wa_t 1281 (by decide +kernel) rfl
theorem cw_RL_112 : CWd RL 112 yX12_setQuiet cX12_setQuiet 3 (some .boolean) 1 := ⟨⟨wm_RL_112, wi_X12_setQuiet, we_X12_setQuiet, wn_X12, wc_X12_setQuiet⟩, by decide +kernel, by decide⟩
theorem wm_RL_113 : Cond.methodLink RL 113 yL_setSlots ∈ WA := wa_t 884 (by decide +kernel) rfl
theorem wm_RL_115 : Cond.methodLink RL 115 yX12_setSlots ∈ WA := wa_t 1285 (by decide +kernel) rfl
theorem cw_RL_115 : CWd RL 115 yX12_setSlots cX12_setSlots 3 (some .int) 1 := ⟨⟨wm_RL_115, wi_X12_setSlots, we_X12_setSlots, wn_X12, wc_X12_setSlots⟩, by decide +kernel, by decide⟩
theorem wm_RL_116 : Cond.methodLink RL 116 yX11_empty ∈ WA := wa_t 335 (by decide +kernel) rfl
theorem cw_RL_116 : CWd RL 116 yX11_empty cX11_empty 2 (some .int) 0 := ⟨⟨wm_RL_116, wi_X11_empty, we_X11_empty, wn_X11, wc_X11_empty⟩, by decide +kernel, by decide⟩
theorem wm_RL_119 : Cond.methodLink RL 119 yX12_empty ∈ WA := wa_t 1289 (by decide +kernel) rfl
theorem cw_RL_119 : CWd RL 119 yX12_empty cX12_empty 1 (some .int) 0 := ⟨⟨wm_RL_119, wi_X12_empty, we_X12_empty, wn_X12, wc_X12_empty⟩, by decide +kernel, by decide⟩
theorem wm_RL_120 : Cond.methodLink RL 120 yX11_columns ∈ WA := wa_t 343 (by decide +kernel) rfl
theorem cw_RL_120 : CWd RL 120 yX11_columns cX11_columns 1 (some .int) 0 := ⟨⟨wm_RL_120, wi_X11_columns, we_X11_columns, wn_X11, wc_X11_columns⟩, by decide +kernel, by decide⟩
theorem wm_RL_123 : Cond.methodLink RL 123 yX12_columns ∈ WA := wa_t 1293 (by decide +kernel) rfl
theorem cw_RL_123 : CWd RL 123 yX12_columns cX12_columns 1 (some .int) 0 := ⟨⟨wm_RL_123, wi_X12_columns, we_X12_columns, wn_X12, wc_X12_columns⟩, by decide +kernel, by decide⟩
theorem wm_RL_124 : Cond.methodLink RL 124 yX11_rows ∈ WA := wa_t 351 (by decide +kernel) rfl
theorem cw_RL_124 : CWd RL 124 yX11_rows cX11_rows 1 (some .int) 0 := ⟨⟨wm_RL_124, wi_X11_rows, we_X11_rows, wn_X11, wc_X11_rows⟩, by decide +kernel, by decide⟩
theorem wm_RL_127 : Cond.methodLink RL 127 yX12_rows ∈ WA := wa_t 1297 (by decide +kernel) rfl
theorem cw_RL_127 : CWd RL 127 yX12_rows cX12_rows 1 (some .int) 0 := ⟨⟨wm_RL_127, wi_X12_rows, we_X12_rows, wn_X12, wc_X12_rows⟩, by decide +kernel, by decide⟩
theorem wm_RL_128 : Cond.methodLink RL 128 yL_at ∈ WA := wa_t 897 (by decide +kernel) rfl
theorem wm_RL_130 : Cond.methodLink RL 130 yX12_at ∈ WA := wa_t 1301 (by decide +kernel) rfl
theorem cw_RL_130 : CWd RL 130 yX12_at cX12_at 2 (some .int) 1 := ⟨⟨wm_RL_130, wi_X12_at, we_X12_at, wn_X12, wc_X12_at⟩, by decide +kernel, by decide⟩
theorem wm_RL_131 : Cond.methodLink RL 131 yX11_side ∈ WA := wa_t 359 (by decide +kernel) rfl
theorem cw_RL_131 : CWd RL 131 yX11_side cX11_side 1 (some .int) 0 := ⟨⟨wm_RL_131, wi_X11_side, we_X11_side, wn_X11, wc_X11_side⟩, by decide +kernel, by decide⟩
theorem wm_RL_134 : Cond.methodLink RL 134 yX12_side ∈ WA := wa_t 1305 (by decide +kernel) rfl
theorem cw_RL_134 : CWd RL 134 yX12_side cX12_side 1 (some .int) 0 := ⟨⟨wm_RL_134, wi_X12_side, we_X12_side, wn_X12, wc_X12_side⟩, by decide +kernel, by decide⟩
theorem wm_RL_135 : Cond.methodLink RL 135 yX11_played ∈ WA := wa_t 367 (by decide +kernel) rfl
theorem cw_RL_135 : CWd RL 135 yX11_played cX11_played 1 (some .int) 0 := ⟨⟨wm_RL_135, wi_X11_played, we_X11_played, wn_X11, wc_X11_played⟩, by decide +kernel, by decide⟩
theorem wm_RL_138 : Cond.methodLink RL 138 yX12_played ∈ WA := wa_t 1309 (by decide +kernel) rfl
theorem cw_RL_138 : CWd RL 138 yX12_played cX12_played 1 (some .int) 0 := ⟨⟨wm_RL_138, wi_X12_played, we_X12_played, wn_X12, wc_X12_played⟩, by decide +kernel, by decide⟩
theorem wm_RL_139 : Cond.methodLink RL 139 yX11_moves ∈ WA := wa_t 375 (by decide +kernel) rfl
theorem cw_RL_139 : CWd RL 139 yX11_moves cX11_moves 1 (some .int) 0 := ⟨⟨wm_RL_139, wi_X11_moves, we_X11_moves, wn_X11, wc_X11_moves⟩, by decide +kernel, by decide⟩
theorem wm_RL_142 : Cond.methodLink RL 142 yX12_moves ∈ WA := wa_t 1313 (by decide +kernel) rfl
theorem cw_RL_142 : CWd RL 142 yX12_moves cX12_moves 1 (some .int) 0 := ⟨⟨wm_RL_142, wi_X12_moves, we_X12_moves, wn_X12, wc_X12_moves⟩, by decide +kernel, by decide⟩
theorem wm_RL_143 : Cond.methodLink RL 143 yL_from ∈ WA := wa_t 904 (by decide +kernel) rfl
theorem wm_RL_145 : Cond.methodLink RL 145 yX12_from ∈ WA := wa_t 1317 (by decide +kernel) rfl
theorem cw_RL_145 : CWd RL 145 yX12_from cX12_from 2 (some .int) 1 := ⟨⟨wm_RL_145, wi_X12_from, we_X12_from, wn_X12, wc_X12_from⟩, by decide +kernel, by decide⟩
theorem wm_RL_146 : Cond.methodLink RL 146 yL_to ∈ WA := wa_t 911 (by decide +kernel) rfl
theorem wm_RL_148 : Cond.methodLink RL 148 yX12_to ∈ WA := wa_t 1321 (by decide +kernel) rfl
theorem cw_RL_148 : CWd RL 148 yX12_to cX12_to 2 (some .int) 1 := ⟨⟨wm_RL_148, wi_X12_to, we_X12_to, wn_X12, wc_X12_to⟩, by decide +kernel, by decide⟩
theorem wm_RL_149 : Cond.methodLink RL 149 yL_takes ∈ WA := wa_t 918 (by decide +kernel) rfl
theorem wm_RL_151 : Cond.methodLink RL 151 yX12_takes ∈ WA := wa_t 1325 (by decide +kernel) rfl
theorem cw_RL_151 : CWd RL 151 yX12_takes cX12_takes 2 (some .boolean) 1 := ⟨⟨wm_RL_151, wi_X12_takes, we_X12_takes, wn_X12, wc_X12_takes⟩, by decide +kernel, by decide⟩
theorem wm_RL_152 : Cond.methodLink RL 152 yX11_isLost ∈ WA := wa_t 383 (by decide +kernel) rfl
theorem cw_RL_152 : CWd RL 152 yX11_isLost cX11_isLost 1 (some .boolean) 0 := ⟨⟨wm_RL_152, wi_X11_isLost, we_X11_isLost, wn_X11, wc_X11_isLost⟩, by decide +kernel, by decide⟩
theorem wm_RL_156 : Cond.methodLink RL 156 yX12_isLost ∈ WA := wa_t 1333 (by decide +kernel) rfl
theorem cw_RL_156 : CWd RL 156 yX12_isLost cX12_isLost 1 (some .boolean) 0 := ⟨⟨wm_RL_156, wi_X12_isLost, we_X12_isLost, wn_X12, wc_X12_isLost⟩, by decide +kernel, by decide⟩
theorem wm_RL_157 : Cond.methodLink RL 157 yX11_key ∈ WA := wa_t 391 (by decide +kernel) rfl
theorem cw_RL_157 : CWd RL 157 yX11_key cX11_key 1 (some .long) 0 := ⟨⟨wm_RL_157, wi_X11_key, we_X11_key, wn_X11, wc_X11_key⟩, by decide +kernel, by decide⟩
theorem wm_RL_161 : Cond.methodLink RL 161 yX12_key ∈ WA := wa_t 1337 (by decide +kernel) rfl
theorem cw_RL_161 : CWd RL 161 yX12_key cX12_key 1 (some .long) 0 := ⟨⟨wm_RL_161, wi_X12_key, we_X12_key, wn_X12, wc_X12_key⟩, by decide +kernel, by decide⟩
theorem wm_RL_162 : Cond.methodLink RL 162 yX11_evaluation ∈ WA := wa_t 401 (by decide +kernel) rfl
theorem cw_RL_162 : CWd RL 162 yX11_evaluation cX11_evaluation 1 (some .int) 0 := ⟨⟨wm_RL_162, wi_X11_evaluation, we_X11_evaluation, wn_X11, wc_X11_evaluation⟩, by decide +kernel, by decide⟩
theorem wm_RL_165 : Cond.methodLink RL 165 yX12_evaluation ∈ WA := wa_t 1347 (by decide +kernel) rfl
theorem cw_RL_165 : CWd RL 165 yX12_evaluation cX12_evaluation 1 (some .int) 0 := ⟨⟨wm_RL_165, wi_X12_evaluation, we_X12_evaluation, wn_X12, wc_X12_evaluation⟩, by decide +kernel, by decide⟩
theorem wm_RL_166 : Cond.methodLink RL 166 yL_ways ∈ WA := wa_t 926 (by decide +kernel) rfl
theorem wm_RL_168 : Cond.methodLink RL 168 yX12_ways ∈ WA := wa_t 1351 (by decide +kernel) rfl
theorem cw_RL_168 : CWd RL 168 yX12_ways cX12_ways 2 (some .int) 1 := ⟨⟨wm_RL_168, wi_X12_ways, we_X12_ways, wn_X12, wc_X12_ways⟩, by decide +kernel, by decide⟩
theorem wm_RL_169 : Cond.methodLink RL 169 yL_value ∈ WA := wa_t 934 (by decide +kernel) rfl
theorem wm_RL_171 : Cond.methodLink RL 171 yX12_value ∈ WA := wa_t 1359 (by decide +kernel) rfl
theorem cw_RL_171 : CWd RL 171 yX12_value cX12_value 2 (some .int) 1 := ⟨⟨wm_RL_171, wi_X12_value, we_X12_value, wn_X12, wc_X12_value⟩, by decide +kernel, by decide⟩
theorem wm_RL_172 : Cond.methodLink RL 172 yL_valueOf ∈ WA := wa_t 941 (by decide +kernel) rfl
theorem wm_RL_174 : Cond.methodLink RL 174 yX12_valueOf ∈ WA := wa_t 1377 (by decide +kernel) rfl
theorem cw_RL_174 : CWd RL 174 yX12_valueOf cX12_valueOf 3 (some .int) 2 := ⟨⟨wm_RL_174, wi_X12_valueOf, we_X12_valueOf, wn_X12, wc_X12_valueOf⟩, by decide +kernel, by decide⟩
theorem wm_RL_175 : Cond.methodLink RL 175 yL_search ∈ WA := wa_t 950 (by decide +kernel) rfl
theorem wm_RL_177 : Cond.methodLink RL 177 yX12_search ∈ WA := wa_t 1381 (by decide +kernel) rfl
theorem cw_RL_177 : CWd RL 177 yX12_search cX12_search 2 (some .int) 1 := ⟨⟨wm_RL_177, wi_X12_search, we_X12_search, wn_X12, wc_X12_search⟩, by decide +kernel, by decide⟩
theorem wm_RL_178 : Cond.methodLink RL 178 yX11_bestFrom ∈ WA := wa_t 418 (by decide +kernel) rfl
theorem cw_RL_178 : CWd RL 178 yX11_bestFrom cX11_bestFrom 1 (some .int) 0 := ⟨⟨wm_RL_178, wi_X11_bestFrom, we_X11_bestFrom, wn_X11, wc_X11_bestFrom⟩, by decide +kernel, by decide⟩
theorem wm_RL_181 : Cond.methodLink RL 181 yX12_bestFrom ∈ WA := wa_t 1426 (by decide +kernel) rfl
theorem cw_RL_181 : CWd RL 181 yX12_bestFrom cX12_bestFrom 1 (some .int) 0 := ⟨⟨wm_RL_181, wi_X12_bestFrom, we_X12_bestFrom, wn_X12, wc_X12_bestFrom⟩, by decide +kernel, by decide⟩
theorem wm_RL_182 : Cond.methodLink RL 182 yX11_bestTo ∈ WA := wa_t 429 (by decide +kernel) rfl
theorem cw_RL_182 : CWd RL 182 yX11_bestTo cX11_bestTo 1 (some .int) 0 := ⟨⟨wm_RL_182, wi_X11_bestTo, we_X11_bestTo, wn_X11, wc_X11_bestTo⟩, by decide +kernel, by decide⟩
theorem wm_RL_185 : Cond.methodLink RL 185 yX12_bestTo ∈ WA := wa_t 1430 (by decide +kernel) rfl
theorem cw_RL_185 : CWd RL 185 yX12_bestTo cX12_bestTo 1 (some .int) 0 := ⟨⟨wm_RL_185, wi_X12_bestTo, we_X12_bestTo, wn_X12, wc_X12_bestTo⟩, by decide +kernel, by decide⟩
theorem wm_RL_186 : Cond.methodLink RL 186 yX11_reached ∈ WA := wa_t 436 (by decide +kernel) rfl
theorem cw_RL_186 : CWd RL 186 yX11_reached cX11_reached 1 (some .int) 0 := ⟨⟨wm_RL_186, wi_X11_reached, we_X11_reached, wn_X11, wc_X11_reached⟩, by decide +kernel, by decide⟩
theorem wm_RL_189 : Cond.methodLink RL 189 yX12_reached ∈ WA := wa_t 1434 (by decide +kernel) rfl
theorem cw_RL_189 : CWd RL 189 yX12_reached cX12_reached 1 (some .int) 0 := ⟨⟨wm_RL_189, wi_X12_reached, we_X12_reached, wn_X12, wc_X12_reached⟩, by decide +kernel, by decide⟩
theorem wm_RL_190 : Cond.methodLink RL 190 yX11_nodes ∈ WA := wa_t 444 (by decide +kernel) rfl
theorem cw_RL_190 : CWd RL 190 yX11_nodes cX11_nodes 1 (some .int) 0 := ⟨⟨wm_RL_190, wi_X11_nodes, we_X11_nodes, wn_X11, wc_X11_nodes⟩, by decide +kernel, by decide⟩
theorem wm_RL_193 : Cond.methodLink RL 193 yX12_nodes ∈ WA := wa_t 1438 (by decide +kernel) rfl
theorem cw_RL_193 : CWd RL 193 yX12_nodes cX12_nodes 1 (some .int) 0 := ⟨⟨wm_RL_193, wi_X12_nodes, we_X12_nodes, wn_X12, wc_X12_nodes⟩, by decide +kernel, by decide⟩
theorem wm_RL_194 : Cond.methodLink RL 194 yX11_hits ∈ WA := wa_t 456 (by decide +kernel) rfl
theorem cw_RL_194 : CWd RL 194 yX11_hits cX11_hits 1 (some .int) 0 := ⟨⟨wm_RL_194, wi_X11_hits, we_X11_hits, wn_X11, wc_X11_hits⟩, by decide +kernel, by decide⟩
theorem wm_RL_197 : Cond.methodLink RL 197 yX12_hits ∈ WA := wa_t 1442 (by decide +kernel) rfl
theorem cw_RL_197 : CWd RL 197 yX12_hits cX12_hits 1 (some .int) 0 := ⟨⟨wm_RL_197, wi_X12_hits, we_X12_hits, wn_X12, wc_X12_hits⟩, by decide +kernel, by decide⟩
theorem wm_RL_198 : Cond.methodLink RL 198 yX11_cuts ∈ WA := wa_t 464 (by decide +kernel) rfl
theorem cw_RL_198 : CWd RL 198 yX11_cuts cX11_cuts 1 (some .int) 0 := ⟨⟨wm_RL_198, wi_X11_cuts, we_X11_cuts, wn_X11, wc_X11_cuts⟩, by decide +kernel, by decide⟩
theorem wm_RL_201 : Cond.methodLink RL 201 yX12_cuts ∈ WA := wa_t 1446 (by decide +kernel) rfl
theorem cw_RL_201 : CWd RL 201 yX12_cuts cX12_cuts 1 (some .int) 0 := ⟨⟨wm_RL_201, wi_X12_cuts, we_X12_cuts, wn_X12, wc_X12_cuts⟩, by decide +kernel, by decide⟩
theorem wm_RL_202 : Cond.methodLink RL 202 yX11_killer ∈ WA := wa_t 472 (by decide +kernel) rfl
theorem cw_RL_202 : CWd RL 202 yX11_killer cX11_killer 3 (some .int) 2 := ⟨⟨wm_RL_202, wi_X11_killer, we_X11_killer, wn_X11, wc_X11_killer⟩, by decide +kernel, by decide⟩
theorem wm_RL_206 : Cond.methodLink RL 206 yX12_killer ∈ WA := wa_t 1450 (by decide +kernel) rfl
theorem cw_RL_206 : CWd RL 206 yX12_killer cX12_killer 3 (some .int) 2 := ⟨⟨wm_RL_206, wi_X12_killer, we_X12_killer, wn_X12, wc_X12_killer⟩, by decide +kernel, by decide⟩
theorem wm_RL_207 : Cond.methodLink RL 207 yX11_slots ∈ WA := wa_t 488 (by decide +kernel) rfl
theorem cw_RL_207 : CWd RL 207 yX11_slots cX11_slots 1 (some .int) 0 := ⟨⟨wm_RL_207, wi_X11_slots, we_X11_slots, wn_X11, wc_X11_slots⟩, by decide +kernel, by decide⟩
theorem wm_RL_210 : Cond.methodLink RL 210 yX12_slots ∈ WA := wa_t 1458 (by decide +kernel) rfl
theorem cw_RL_210 : CWd RL 210 yX12_slots cX12_slots 1 (some .int) 0 := ⟨⟨wm_RL_210, wi_X12_slots, we_X12_slots, wn_X12, wc_X12_slots⟩, by decide +kernel, by decide⟩
theorem wm_RL_211 : Cond.methodLink RL 211 yX11_entries ∈ WA := wa_t 496 (by decide +kernel) rfl
theorem cw_RL_211 : CWd RL 211 yX11_entries cX11_entries 1 (some .int) 0 := ⟨⟨wm_RL_211, wi_X11_entries, we_X11_entries, wn_X11, wc_X11_entries⟩, by decide +kernel, by decide⟩
theorem wm_RL_214 : Cond.methodLink RL 214 yX12_entries ∈ WA := wa_t 1462 (by decide +kernel) rfl
theorem cw_RL_214 : CWd RL 214 yX12_entries cX12_entries 1 (some .int) 0 := ⟨⟨wm_RL_214, wi_X12_entries, we_X12_entries, wn_X12, wc_X12_entries⟩, by decide +kernel, by decide⟩
theorem wm_RL_215 : Cond.methodLink RL 215 yL_ofSlot ∈ WA := wa_t 1032 (by decide +kernel) rfl
theorem wm_RL_217 : Cond.methodLink RL 217 yX12_ofSlot ∈ WA := wa_t 1466 (by decide +kernel) rfl
theorem cw_RL_217 : CWd RL 217 yX12_ofSlot cX12_ofSlot 3 (some .int) 2 := ⟨⟨wm_RL_217, wi_X12_ofSlot, we_X12_ofSlot, wn_X12, wc_X12_ofSlot⟩, by decide +kernel, by decide⟩
theorem wm_RL_218 : Cond.methodLink RL 218 yX11_known ∈ WA := wa_t 500 (by decide +kernel) rfl
theorem cw_RL_218 : CWd RL 218 yX11_known cX11_known 1 (some .int) 0 := ⟨⟨wm_RL_218, wi_X11_known, we_X11_known, wn_X11, wc_X11_known⟩, by decide +kernel, by decide⟩
theorem wm_RL_221 : Cond.methodLink RL 221 yX12_known ∈ WA := wa_t 1474 (by decide +kernel) rfl
theorem cw_RL_221 : CWd RL 221 yX12_known cX12_known 1 (some .int) 0 := ⟨⟨wm_RL_221, wi_X12_known, we_X12_known, wn_X12, wc_X12_known⟩, by decide +kernel, by decide⟩
theorem wm_RL_222 : Cond.methodLink RL 222 yL_teach ∈ WA := wa_t 1042 (by decide +kernel) rfl
theorem wm_RL_224 : Cond.methodLink RL 224 yX12_teach ∈ WA := wa_t 1482 (by decide +kernel) rfl
theorem cw_RL_224 : CWd RL 224 yX12_teach cX12_teach 5 (some .int) 2 := ⟨⟨wm_RL_224, wi_X12_teach, we_X12_teach, wn_X12, wc_X12_teach⟩, by decide +kernel, by decide⟩
theorem wm_RL_225 : Cond.methodLink RL 225 yX11_told ∈ WA := wa_t 522 (by decide +kernel) rfl
theorem cw_RL_225 : CWd RL 225 yX11_told cX11_told 1 (some .int) 0 := ⟨⟨wm_RL_225, wi_X11_told, we_X11_told, wn_X11, wc_X11_told⟩, by decide +kernel, by decide⟩
theorem wm_RL_228 : Cond.methodLink RL 228 yX12_told ∈ WA := wa_t 1490 (by decide +kernel) rfl
theorem cw_RL_228 : CWd RL 228 yX12_told cX12_told 1 (some .int) 0 := ⟨⟨wm_RL_228, wi_X12_told, we_X12_told, wn_X12, wc_X12_told⟩, by decide +kernel, by decide⟩
theorem wm_RL_229 : Cond.methodLink RL 229 yL_go ∈ WA := wa_t 1061 (by decide +kernel) rfl
theorem wm_RL_231 : Cond.methodLink RL 231 yX12_go ∈ WA := wa_t 1498 (by decide +kernel) rfl
theorem cw_RL_231 : CWd RL 231 yX12_go cX12_go 2 (some .int) 1 := ⟨⟨wm_RL_231, wi_X12_go, we_X12_go, wn_X12, wc_X12_go⟩, by decide +kernel, by decide⟩
theorem wm_RL_232 : Cond.methodLink RL 232 yL_playOut ∈ WA := wa_t 1073 (by decide +kernel) rfl
theorem wm_RL_234 : Cond.methodLink RL 234 yX12_playOut ∈ WA := wa_t 1506 (by decide +kernel) rfl
theorem cw_RL_234 : CWd RL 234 yX12_playOut cX12_playOut 4 (some .int) 2 := ⟨⟨wm_RL_234, wi_X12_playOut, we_X12_playOut, wn_X12, wc_X12_playOut⟩, by decide +kernel, by decide⟩
theorem wm_RL_235 : Cond.methodLink RL 235 yX11_pages ∈ WA := wa_t 543 (by decide +kernel) rfl
theorem cw_RL_235 : CWd RL 235 yX11_pages cX11_pages 1 (some .int) 0 := ⟨⟨wm_RL_235, wi_X11_pages, we_X11_pages, wn_X11, wc_X11_pages⟩, by decide +kernel, by decide⟩
theorem wm_RL_238 : Cond.methodLink RL 238 yX12_pages ∈ WA := wa_t 1510 (by decide +kernel) rfl
theorem cw_RL_238 : CWd RL 238 yX12_pages cX12_pages 1 (some .int) 0 := ⟨⟨wm_RL_238, wi_X12_pages, we_X12_pages, wn_X12, wc_X12_pages⟩, by decide +kernel, by decide⟩
theorem wm_RL_239 : Cond.methodLink RL 239 yX11_effort ∈ WA := wa_t 551 (by decide +kernel) rfl
theorem cw_RL_239 : CWd RL 239 yX11_effort cX11_effort 2 (some .double) 0 := ⟨⟨wm_RL_239, wi_X11_effort, we_X11_effort, wn_X11, wc_X11_effort⟩, by decide +kernel, by decide⟩
theorem wm_RL_243 : Cond.methodLink RL 243 yX12_effort ∈ WA := wa_t 1514 (by decide +kernel) rfl
theorem cw_RL_243 : CWd RL 243 yX12_effort cX12_effort 1 (some .double) 0 := ⟨⟨wm_RL_243, wi_X12_effort, we_X12_effort, wn_X12, wc_X12_effort⟩, by decide +kernel, by decide⟩
theorem wm_RL_244 : Cond.methodLink RL 244 yX11_digest ∈ WA := wa_t 555 (by decide +kernel) rfl
theorem cw_RL_244 : CWd RL 244 yX11_digest cX11_digest 3 (some .long) 0 := ⟨⟨wm_RL_244, wi_X11_digest, we_X11_digest, wn_X11, wc_X11_digest⟩, by decide +kernel, by decide⟩
theorem wm_RL_247 : Cond.methodLink RL 247 yX12_digest ∈ WA := wa_t 1518 (by decide +kernel) rfl
theorem cw_RL_247 : CWd RL 247 yX12_digest cX12_digest 8 (some .long) 0 := ⟨⟨wm_RL_247, wi_X12_digest, we_X12_digest, wn_X12, wc_X12_digest⟩, by decide +kernel, by decide⟩
theorem wm_X12_60 : Cond.methodLink RX12 60 yX12_lay ∈ WA := wa_t 1089 (by decide +kernel) rfl
theorem cw_X12_60 : CWd RX12 60 yX12_lay cX12_lay 5 none 3 := ⟨⟨wm_X12_60, wi_X12_lay, we_X12_lay, wn_X12, wc_X12_lay⟩, by decide +kernel, by decide⟩
theorem wm_X12_79 : Cond.methodLink RX12 79 yX12_clear ∈ WA := wa_t 1093 (by decide +kernel) rfl
theorem cw_X12_79 : CWd RX12 79 yX12_clear cX12_clear 7 (some .int) 1 := ⟨⟨wm_X12_79, wi_X12_clear, we_X12_clear, wn_X12, wc_X12_clear⟩, by decide +kernel, by decide⟩
theorem wm_X12_83 : Cond.methodLink RX12 83 yX12_is ∈ WA := wa_t 1188 (by decide +kernel) rfl
theorem cw_X12_83 : CWs RX12 83 yX12_is cX12_is 3 (some .boolean) 3 := ⟨⟨wm_X12_83, ws_X12_is, wn_X12, wc_X12_is⟩, by decide +kernel, by decide⟩
theorem wm_X12_87 : Cond.methodLink RX12 87 yX12_target ∈ WA := wa_t 1243 (by decide +kernel) rfl
theorem cw_X12_87 : CWd RX12 87 yX12_target cX12_target 6 (some .int) 3 := ⟨⟨wm_X12_87, wi_X12_target, we_X12_target, wn_X12, wc_X12_target⟩, by decide +kernel, by decide⟩
theorem wm_X12_91 : Cond.methodLink RX12 91 yX12_isStep ∈ WA := wa_t 1239 (by decide +kernel) rfl
theorem cw_X12_91 : CWd RX12 91 yX12_isStep cX12_isStep 5 (some .boolean) 3 := ⟨⟨wm_X12_91, wi_X12_isStep, we_X12_isStep, wn_X12, wc_X12_isStep⟩, by decide +kernel, by decide⟩
theorem wm_X12_94 : Cond.methodLink RX12 94 yX12_sideNow ∈ WA := wa_t 1211 (by decide +kernel) rfl
theorem cw_X12_94 : CWd RX12 94 yX12_sideNow cX12_sideNow 1 (some .int) 0 := ⟨⟨wm_X12_94, wi_X12_sideNow, we_X12_sideNow, wn_X12, wc_X12_sideNow⟩, by decide +kernel, by decide⟩
theorem wm_X12_98 : Cond.methodLink RX12 98 yX12_goal ∈ WA := wa_t 1231 (by decide +kernel) rfl
theorem cw_X12_98 : CWd RX12 98 yX12_goal cX12_goal 2 (some .int) 1 := ⟨⟨wm_X12_98, wi_X12_goal, we_X12_goal, wn_X12, wc_X12_goal⟩, by decide +kernel, by decide⟩
theorem wm_X12_101 : Cond.methodLink RX12 101 yX12_countSteps ∈ WA := wa_t 1235 (by decide +kernel) rfl
theorem cw_X12_101 : CWd RX12 101 yX12_countSteps cX12_countSteps 5 (some .int) 1 := ⟨⟨wm_X12_101, wi_X12_countSteps, we_X12_countSteps, wn_X12, wc_X12_countSteps⟩, by decide +kernel, by decide⟩
theorem wm_X12_104 : Cond.methodLink RX12 104 yX12_isLostNow ∈ WA := wa_t 1227 (by decide +kernel) rfl
theorem cw_X12_104 : CWd RX12 104 yX12_isLostNow cX12_isLostNow 3 (some .boolean) 0 := ⟨⟨wm_X12_104, wi_X12_isLostNow, we_X12_isLostNow, wn_X12, wc_X12_isLostNow⟩, by decide +kernel, by decide⟩
theorem wm_X12_112 : Cond.methodLink RX12 112 yJ9_abs_0f7a4 ∈ WA := wa_t 1278 (by decide +kernel) rfl
theorem wm_X12_117 : Cond.methodLink RX12 117 yX12_worth ∈ WA := wa_t 1274 (by decide +kernel) rfl
theorem cw_X12_117 : CWd RX12 117 yX12_worth cX12_worth 4 (some .int) 1 := ⟨⟨wm_X12_117, wi_X12_worth, we_X12_worth, wn_X12, wc_X12_worth⟩, by decide +kernel, by decide⟩
theorem wm_X12_120 : Cond.methodLink RX12 120 yX12_evaluated ∈ WA := wa_t 1270 (by decide +kernel) rfl
theorem cw_X12_120 : CWd RX12 120 yX12_evaluated cX12_evaluated 1 (some .int) 0 := ⟨⟨wm_X12_120, wi_X12_evaluated, we_X12_evaluated, wn_X12, wc_X12_evaluated⟩, by decide +kernel, by decide⟩
theorem wm_X12_123 : Cond.methodLink RX12 123 yX12_list ∈ WA := wa_t 1223 (by decide +kernel) rfl
theorem cw_X12_123 : CWd RX12 123 yX12_list cX12_list 5 (some .int) 1 := ⟨⟨wm_X12_123, wi_X12_list, we_X12_list, wn_X12, wc_X12_list⟩, by decide +kernel, by decide⟩
theorem wm_X12_126 : Cond.methodLink RX12 126 yX12_isTaking ∈ WA := wa_t 1329 (by decide +kernel) rfl
theorem cw_X12_126 : CWd RX12 126 yX12_isTaking cX12_isTaking 2 (some .boolean) 1 := ⟨⟨wm_X12_126, wi_X12_isTaking, we_X12_isTaking, wn_X12, wc_X12_isTaking⟩, by decide +kernel, by decide⟩
theorem wm_X12_130 : Cond.methodLink RX12 130 yX12_make ∈ WA := wa_t 1254 (by decide +kernel) rfl
theorem cw_X12_130 : CWd RX12 130 yX12_make cX12_make 3 (some .int) 1 := ⟨⟨wm_X12_130, wi_X12_make, we_X12_make, wn_X12, wc_X12_make⟩, by decide +kernel, by decide⟩
theorem wm_X12_133 : Cond.methodLink RX12 133 yX12_quietValue ∈ WA := wa_t 1367 (by decide +kernel) rfl
theorem cw_X12_133 : CWd RX12 133 yX12_quietValue cX12_quietValue 8 (some .int) 2 := ⟨⟨wm_X12_133, wi_X12_quietValue, we_X12_quietValue, wn_X12, wc_X12_quietValue⟩, by decide +kernel, by decide⟩
theorem wm_X12_137 : Cond.methodLink RX12 137 yJ9_max_7cf53 ∈ WA := wa_t 1371 (by decide +kernel) rfl
theorem wm_X12_140 : Cond.methodLink RX12 140 yX12_unmake ∈ WA := wa_t 1262 (by decide +kernel) rfl
theorem cw_X12_140 : CWd RX12 140 yX12_unmake cX12_unmake 3 none 2 := ⟨⟨wm_X12_140, wi_X12_unmake, we_X12_unmake, wn_X12, wc_X12_unmake⟩, by decide +kernel, by decide⟩
theorem wm_X12_145 : Cond.methodLink RX12 145 yX12_valueBehind ∈ WA := wa_t 1373 (by decide +kernel) rfl
theorem cw_X12_145 : CWd RX12 145 yX12_valueBehind cX12_valueBehind 7 (some .int) 3 := ⟨⟨wm_X12_145, wi_X12_valueBehind, we_X12_valueBehind, wn_X12, wc_X12_valueBehind⟩, by decide +kernel, by decide⟩
theorem wm_X12_148 : Cond.methodLink RX12 148 yX12_valueNow ∈ WA := wa_t 1363 (by decide +kernel) rfl
theorem cw_X12_148 : CWd RX12 148 yX12_valueNow cX12_valueNow 6 (some .int) 2 := ⟨⟨wm_X12_148, wi_X12_valueNow, we_X12_valueNow, wn_X12, wc_X12_valueNow⟩, by decide +kernel, by decide⟩
theorem wm_X12_151 : Cond.methodLink RX12 151 yX12_waysNow ∈ WA := wa_t 1355 (by decide +kernel) rfl
theorem cw_X12_151 : CWd RX12 151 yX12_waysNow cX12_waysNow 8 (some .int) 2 := ⟨⟨wm_X12_151, wi_X12_waysNow, we_X12_waysNow, wn_X12, wc_X12_waysNow⟩, by decide +kernel, by decide⟩
theorem wm_X12_154 : Cond.methodLink RX12 154 yX12_entriesNow ∈ WA := wa_t 1097 (by decide +kernel) rfl
theorem cw_X12_154 : CWd RX12 154 yX12_entriesNow cX12_entriesNow 6 (some .int) 0 := ⟨⟨wm_X12_154, wi_X12_entriesNow, we_X12_entriesNow, wn_X12, wc_X12_entriesNow⟩, by decide +kernel, by decide⟩
theorem wm_X12_157 : Cond.methodLink RX12 157 yX12_keyNow ∈ WA := wa_t 1341 (by decide +kernel) rfl
theorem cw_X12_157 : CWd RX12 157 yX12_keyNow cX12_keyNow 4 (some .long) 0 := ⟨⟨wm_X12_157, wi_X12_keyNow, we_X12_keyNow, wn_X12, wc_X12_keyNow⟩, by decide +kernel, by decide⟩
theorem wm_X12_161 : Cond.methodLink RX12 161 yX12_want ∈ WA := wa_t 1411 (by decide +kernel) rfl
theorem cw_X12_161 : CWd RX12 161 yX12_want cX12_want 5 (some .int) 4 := ⟨⟨wm_X12_161, wi_X12_want, we_X12_want, wn_X12, wc_X12_want⟩, by decide +kernel, by decide⟩
theorem wm_X12_165 : Cond.methodLink RX12 165 yX12_has ∈ WA := wa_t 1415 (by decide +kernel) rfl
theorem cw_X12_165 : CWs RX12 165 yX12_has cX12_has 4 (some .boolean) 3 := ⟨⟨wm_X12_165, ws_X12_has, wn_X12, wc_X12_has⟩, by decide +kernel, by decide⟩
theorem wm_X12_172 : Cond.methodLink RX12 172 yX12_quietly ∈ WA := wa_t 1396 (by decide +kernel) rfl
theorem cw_X12_172 : CWd RX12 172 yX12_quietly cX12_quietly 10 (some .int) 4 := ⟨⟨wm_X12_172, wi_X12_quietly, we_X12_quietly, wn_X12, wc_X12_quietly⟩, by decide +kernel, by decide⟩
theorem wm_X12_175 : Cond.methodLink RX12 175 yX12_slotOf ∈ WA := wa_t 1400 (by decide +kernel) rfl
theorem cw_X12_175 : CWd RX12 175 yX12_slotOf cX12_slotOf 4 (some .int) 1 := ⟨⟨wm_X12_175, wi_X12_slotOf, we_X12_slotOf, wn_X12, wc_X12_slotOf⟩, by decide +kernel, by decide⟩
theorem wm_X12_179 : Cond.methodLink RX12 179 yX12_answers ∈ WA := wa_t 1404 (by decide +kernel) rfl
theorem cw_X12_179 : CWs RX12 179 yX12_answers cX12_answers 3 (some .boolean) 3 := ⟨⟨wm_X12_179, ws_X12_answers, wn_X12, wc_X12_answers⟩, by decide +kernel, by decide⟩
theorem wm_X12_185 : Cond.methodLink RX12 185 yX12_order ∈ WA := wa_t 1407 (by decide +kernel) rfl
theorem cw_X12_185 : CWd RX12 185 yX12_order cX12_order 7 (some .int) 3 := ⟨⟨wm_X12_185, wi_X12_order, we_X12_order, wn_X12, wc_X12_order⟩, by decide +kernel, by decide⟩
theorem wm_X12_188 : Cond.methodLink RX12 188 yX12_searched ∈ WA := wa_t 1392 (by decide +kernel) rfl
theorem cw_X12_188 : CWd RX12 188 yX12_searched cX12_searched 13 (some .int) 4 := ⟨⟨wm_X12_188, wi_X12_searched, we_X12_searched, wn_X12, wc_X12_searched⟩, by decide +kernel, by decide⟩
theorem wm_X12_191 : Cond.methodLink RX12 191 yX12_cut ∈ WA := wa_t 1418 (by decide +kernel) rfl
theorem cw_X12_191 : CWd RX12 191 yX12_cut cX12_cut 3 none 2 := ⟨⟨wm_X12_191, wi_X12_cut, we_X12_cut, wn_X12, wc_X12_cut⟩, by decide +kernel, by decide⟩
theorem wm_X12_194 : Cond.methodLink RX12 194 yX12_keep ∈ WA := wa_t 1422 (by decide +kernel) rfl
theorem cw_X12_194 : CWd RX12 194 yX12_keep cX12_keep 6 none 4 := ⟨⟨wm_X12_194, wi_X12_keep, we_X12_keep, wn_X12, wc_X12_keep⟩, by decide +kernel, by decide⟩
theorem wm_X12_201 : Cond.methodLink RX12 201 yJ7_fill_53178 ∈ WA := wa_t 1389 (by decide +kernel) rfl
theorem wm_X12_213 : Cond.methodLink RX12 213 yX12_pageOf ∈ WA := wa_t 1486 (by decide +kernel) rfl
theorem cw_X12_213 : CWd RX12 213 yX12_pageOf cX12_pageOf 5 (some .int) 2 := ⟨⟨wm_X12_213, wi_X12_pageOf, we_X12_pageOf, wn_X12, wc_X12_pageOf⟩, by decide +kernel, by decide⟩
theorem wm_X12_217 : Cond.methodLink RX12 217 yX12_refuse ∈ WA := wa_t 1191 (by decide +kernel) rfl
theorem cw_X12_217 : CWd RX12 217 yX12_refuse cX12_refuse 2 (some .int) 1 := ⟨⟨wm_X12_217, wi_X12_refuse, we_X12_refuse, wn_X12, wc_X12_refuse⟩, by decide +kernel, by decide⟩
theorem wm_X12_220 : Cond.methodLink RX12 220 yX12_isField ∈ WA := wa_t 1199 (by decide +kernel) rfl
theorem cw_X12_220 : CWd RX12 220 yX12_isField cX12_isField 2 (some .boolean) 1 := ⟨⟨wm_X12_220, wi_X12_isField, we_X12_isField, wn_X12, wc_X12_isField⟩, by decide +kernel, by decide⟩
theorem wm_X12_223 : Cond.methodLink RX12 223 yX12_pawns ∈ WA := wa_t 1203 (by decide +kernel) rfl
theorem cw_X12_223 : CWd RX12 223 yX12_pawns cX12_pawns 4 (some .int) 1 := ⟨⟨wm_X12_223, wi_X12_pawns, we_X12_pawns, wn_X12, wc_X12_pawns⟩, by decide +kernel, by decide⟩
theorem wm_X12_232 : Cond.methodLink RX12 232 yX12_isMove ∈ WA := wa_t 1219 (by decide +kernel) rfl
theorem cw_X12_232 : CWd RX12 232 yX12_isMove cX12_isMove 2 (some .boolean) 1 := ⟨⟨wm_X12_232, wi_X12_isMove, we_X12_isMove, wn_X12, wc_X12_isMove⟩, by decide +kernel, by decide⟩
theorem wm_X12_235 : Cond.methodLink RX12 235 yX12_playNow ∈ WA := wa_t 1247 (by decide +kernel) rfl
theorem cw_X12_235 : CWd RX12 235 yX12_playNow cX12_playNow 3 (some .int) 1 := ⟨⟨wm_X12_235, wi_X12_playNow, we_X12_playNow, wn_X12, wc_X12_playNow⟩, by decide +kernel, by decide⟩
theorem wm_X12_238 : Cond.methodLink RX12 238 yX12_searchNow ∈ WA := wa_t 1385 (by decide +kernel) rfl
theorem cw_X12_238 : CWd RX12 238 yX12_searchNow cX12_searchNow 6 (some .int) 1 := ⟨⟨wm_X12_238, wi_X12_searchNow, we_X12_searchNow, wn_X12, wc_X12_searchNow⟩, by decide +kernel, by decide⟩
theorem wm_X12_241 : Cond.methodLink RX12 241 yX12_killerAt ∈ WA := wa_t 1454 (by decide +kernel) rfl
theorem cw_X12_241 : CWd RX12 241 yX12_killerAt cX12_killerAt 3 (some .int) 2 := ⟨⟨wm_X12_241, wi_X12_killerAt, we_X12_killerAt, wn_X12, wc_X12_killerAt⟩, by decide +kernel, by decide⟩
theorem wm_X12_244 : Cond.methodLink RX12 244 yX12_toldOf ∈ WA := wa_t 1470 (by decide +kernel) rfl
theorem cw_X12_244 : CWd RX12 244 yX12_toldOf cX12_toldOf 3 (some .int) 2 := ⟨⟨wm_X12_244, wi_X12_toldOf, we_X12_toldOf, wn_X12, wc_X12_toldOf⟩, by decide +kernel, by decide⟩
theorem wm_X12_247 : Cond.methodLink RX12 247 yX12_knownNow ∈ WA := wa_t 1478 (by decide +kernel) rfl
theorem cw_X12_247 : CWd RX12 247 yX12_knownNow cX12_knownNow 2 (some .int) 0 := ⟨⟨wm_X12_247, wi_X12_knownNow, we_X12_knownNow, wn_X12, wc_X12_knownNow⟩, by decide +kernel, by decide⟩
theorem wm_X12_250 : Cond.methodLink RX12 250 yX12_toldNow ∈ WA := wa_t 1494 (by decide +kernel) rfl
theorem cw_X12_250 : CWd RX12 250 yX12_toldNow cX12_toldNow 6 (some .int) 0 := ⟨⟨wm_X12_250, wi_X12_toldNow, we_X12_toldNow, wn_X12, wc_X12_toldNow⟩, by decide +kernel, by decide⟩
theorem wm_X12_253 : Cond.methodLink RX12 253 yX12_goNow ∈ WA := wa_t 1502 (by decide +kernel) rfl
theorem cw_X12_253 : CWd RX12 253 yX12_goNow cX12_goNow 3 (some .int) 1 := ⟨⟨wm_X12_253, wi_X12_goNow, we_X12_goNow, wn_X12, wc_X12_goNow⟩, by decide +kernel, by decide⟩
theorem wm_X12_264 : Cond.methodLink RX12 264 yX12_add ∈ WA := wa_t 1523 (by decide +kernel) rfl
theorem cw_X12_264 : CWd RX12 264 yX12_add cX12_add 3 none 1 := ⟨⟨wm_X12_264, wi_X12_add, we_X12_add, wn_X12, wc_X12_add⟩, by decide +kernel, by decide⟩
theorem wM_X1_30 : Cond.methodLink RX1 30 Lib.Math.max.name ∈ WA := wa_t 1060 (by decide +kernel) rfl
theorem wM_X6_55 : Cond.methodLink RX6 55 Lib.Math.max.name ∈ WA := wa_t 625 (by decide +kernel) rfl
theorem wM_X7_130 : Cond.methodLink RX7 130 Lib.Math.max.name ∈ WA := wa_t 1013 (by decide +kernel) rfl
theorem wM_X10_69 : Cond.methodLink RX10 69 Lib.Math.max.name ∈ WA := wa_t 645 (by decide +kernel) rfl
theorem wM_X12_112 : Cond.methodLink RX12 112 Lib.Math.abs.name ∈ WA := wa_t 1278 (by decide +kernel) rfl
theorem wM_X12_137 : Cond.methodLink RX12 137 Lib.Math.max.name ∈ WA := wa_t 1371 (by decide +kernel) rfl
theorem inWX0 : ∀ w ∈ u_ws RX0 TX0 4, w ∈ WA := by decide +kernel
theorem inWX1 : ∀ w ∈ u_ws RX1 TX1 4, w ∈ WA := by decide +kernel
theorem inWX2 : ∀ w ∈ u_ws RX2 TX2 4, w ∈ WA := by decide +kernel
theorem inWX3 : ∀ w ∈ u_ws RX3 TX3 2, w ∈ WA := by decide +kernel
theorem inWX4 : ∀ w ∈ u_ws RX4 TX4 2, w ∈ WA := by decide +kernel
theorem inWX5 : ∀ w ∈ u_ws RX5 TX5 6, w ∈ WA := by decide +kernel
theorem inWX6 : ∀ w ∈ u_ws RX6 TX6 4, w ∈ WA := by decide +kernel
theorem inWX7 : ∀ w ∈ u_ws RX7 TX7 10, w ∈ WA := by decide +kernel
theorem inWX8 : ∀ w ∈ u_ws RX8 TX8 6, w ∈ WA := by decide +kernel
theorem inWX9 : ∀ w ∈ u_ws RX9 TX9 3, w ∈ WA := by decide +kernel
theorem inWX10 : ∀ w ∈ u_ws RX10 TX10 3, w ∈ WA := by decide +kernel
theorem inWX11 : ∀ w ∈ u_ws RX11 TX11 8, w ∈ WA := by decide +kernel
theorem inWX12 : ∀ w ∈ u_ws RX12 TX12 26, w ∈ WA := by decide +kernel
end
section
theorem fI_tn (f : Fn) {z : Int} (h0 : 0 ≤ z) : fI f z.toNat = iI (f z) := by
  show iI (f ((z.toNat : Nat) : Int)) = _
  rw [Int.toNat_of_nonneg h0]
theorem fJ_tn (f : Fn) {z : Int} (h0 : 0 ≤ z) : fJ f z.toNat = jI (f z) := by
  show jI (f ((z.toNat : Nat) : Int)) = _
  rw [Int.toNat_of_nonneg h0]
theorem cx_q (ad : Nat → Nat) (G : Nat → Nat) (σ : Sg) {i : Nat} (hi : i < 2) : cell ad G σ (11 + i) = .inr (6, [.ref (ad 1), .ref (ad 3), .ref (ad 24), .int (iI (σ (15 + i) 0))]) := by
  match i, hi with
  | 0, _ => rfl
  | 1, _ => rfl
theorem own_q {i : Nat} (hi : i < 2) : own (15 + i) = 11 + i := by
  match i, hi with
  | 0, _ => rfl
  | 1, _ => rfl
theorem rowF_up (σ : Sg) {b n : Nat} (hn : n ≤ 4) {i : Int} {r j : Nat} {v : Int} (hr : r = b + j) (hj : j < n := by decide) : rowF (upr σ r (ups (σ r) i v)) b n i = upd (rowF σ b n i) (iI (j : Int)).toNatClampNeg (iI v) := by
  subst hr
  rw [iI_clamp ⟨by omega, by omega⟩, Int.toNat_natCast]
  funext q
  unfold rowF upd
  by_cases e : q = j
  · subst e
    rw [if_pos hj, if_pos rfl, upr_eq, ups_eq]
  · rw [if_neg e, upr_ne _ _ (by omega)]
section XT
variable {p : Program} {l : Launch} {e : Env} {R : Room} {s : State} {m : MethodId} {args : Array Value} {below : List Frame} {meth : Method} {c : Code} {H : Heap} {locs : List Loc} {cells slots : Nat} {Q : State → Prop}
variable {cc : ByteArray} {nL : Nat} {own' : String} {D : va_G} {ad : Nat → Nat} {G : Nat → Nat} {ids : List Nat} {σ : Sg} {pc : Nat} {ls : Array Slot} {rest : List Value} {A : Nat → Prop} {H0 : Heap}
theorem g_X0_0 (C : Cx p s m meth c args cc nL own' D G) (hM : XI D ad G ids A H0 H locs σ) (hk : 1 ∈ ids) {idx : Nat} (hw : Cond.fieldLink own' idx "KindlingTree$Board" "cells" "[I" ∈ WA) (hdg : decode cc pc = .ok (.getfield idx, 3)) (kk : W p l e R s m args below meth c H locs cells slots Q (F0 m (pc + 3) ls (.ref (ad 2) :: rest))) : W p l e R s m args below meth c H locs cells slots Q (F0 m pc ls (.ref (ad (1)) :: rest)) := x_get C hM hk (cx_1 ad G σ) (Rn := RX0) (T := TX0) (N := 4) rfl inWX0 0 (by decide) hw rfl hdg kk
theorem g_X0_1 (C : Cx p s m meth c args cc nL own' D G) (hM : XI D ad G ids A H0 H locs σ) (hk : 1 ∈ ids) {idx : Nat} (hw : Cond.fieldLink own' idx "KindlingTree$Board" "columns" "I" ∈ WA) (hdg : decode cc pc = .ok (.getfield idx, 3)) (kk : W p l e R s m args below meth c H locs cells slots Q (F0 m (pc + 3) ls (.int (iI (σ 2 0)) :: rest))) : W p l e R s m args below meth c H locs cells slots Q (F0 m pc ls (.ref (ad (1)) :: rest)) := x_get C hM hk (cx_1 ad G σ) (Rn := RX0) (T := TX0) (N := 4) rfl inWX0 1 (by decide) hw rfl hdg kk
theorem p_X0_1 (C : Cx p s m meth c args cc nL own' D G) (hM : XI D ad G ids A H0 H locs σ) (hk : 1 ∈ ids) {idx : Nat} (hw : Cond.fieldLink own' idx "KindlingTree$Board" "columns" "I" ∈ WA) {z : Int} (hdg : decode cc pc = .ok (.putfield idx, 3)) (kk : ∀ (H1 : Heap) (locs1 : List Loc), XI D ad G ids A H0 H1 locs1 (upr σ 2 (ups (σ 2) 0 z)) → W p l e R s m args below meth c H1 locs1 cells slots Q (F0 m (pc + 3) ls rest)) : W p l e R s m args below meth c H locs cells slots Q (F0 m pc ls (.int (iI z) :: .ref (ad (1)) :: rest)) := x_put C hM hk (cx_1 ad G σ) (Rn := RX0) (T := TX0) (N := 4) rfl inWX0 tyX0 tyX0_ok nmX0 1 (by decide) hw rfl (ty := .int) (by decide +kernel) rfl rfl (Nat.le_of_ble_eq_true rfl) (upr σ 2 (ups (σ 2) 0 z)) rfl (oth_1 ad G σ _ rfl (by decide)) hdg kk
theorem g_X0_2 (C : Cx p s m meth c args cc nL own' D G) (hM : XI D ad G ids A H0 H locs σ) (hk : 1 ∈ ids) {idx : Nat} (hw : Cond.fieldLink own' idx "KindlingTree$Board" "rows" "I" ∈ WA) (hdg : decode cc pc = .ok (.getfield idx, 3)) (kk : W p l e R s m args below meth c H locs cells slots Q (F0 m (pc + 3) ls (.int (iI (σ 3 0)) :: rest))) : W p l e R s m args below meth c H locs cells slots Q (F0 m pc ls (.ref (ad (1)) :: rest)) := x_get C hM hk (cx_1 ad G σ) (Rn := RX0) (T := TX0) (N := 4) rfl inWX0 2 (by decide) hw rfl hdg kk
theorem p_X0_2 (C : Cx p s m meth c args cc nL own' D G) (hM : XI D ad G ids A H0 H locs σ) (hk : 1 ∈ ids) {idx : Nat} (hw : Cond.fieldLink own' idx "KindlingTree$Board" "rows" "I" ∈ WA) {z : Int} (hdg : decode cc pc = .ok (.putfield idx, 3)) (kk : ∀ (H1 : Heap) (locs1 : List Loc), XI D ad G ids A H0 H1 locs1 (upr σ 3 (ups (σ 3) 0 z)) → W p l e R s m args below meth c H1 locs1 cells slots Q (F0 m (pc + 3) ls rest)) : W p l e R s m args below meth c H locs cells slots Q (F0 m pc ls (.int (iI z) :: .ref (ad (1)) :: rest)) := x_put C hM hk (cx_1 ad G σ) (Rn := RX0) (T := TX0) (N := 4) rfl inWX0 tyX0 tyX0_ok nmX0 2 (by decide) hw rfl (ty := .int) (by decide +kernel) rfl rfl (Nat.le_of_ble_eq_true rfl) (upr σ 3 (ups (σ 3) 0 z)) rfl (oth_1 ad G σ _ rfl (by decide)) hdg kk
theorem g_X0_3 (C : Cx p s m meth c args cc nL own' D G) (hM : XI D ad G ids A H0 H locs σ) (hk : 1 ∈ ids) {idx : Nat} (hw : Cond.fieldLink own' idx "KindlingTree$Board" "side" "I" ∈ WA) (hdg : decode cc pc = .ok (.getfield idx, 3)) (kk : W p l e R s m args below meth c H locs cells slots Q (F0 m (pc + 3) ls (.int (iI (σ 4 0)) :: rest))) : W p l e R s m args below meth c H locs cells slots Q (F0 m pc ls (.ref (ad (1)) :: rest)) := x_get C hM hk (cx_1 ad G σ) (Rn := RX0) (T := TX0) (N := 4) rfl inWX0 3 (by decide) hw rfl hdg kk
theorem p_X0_3 (C : Cx p s m meth c args cc nL own' D G) (hM : XI D ad G ids A H0 H locs σ) (hk : 1 ∈ ids) {idx : Nat} (hw : Cond.fieldLink own' idx "KindlingTree$Board" "side" "I" ∈ WA) {z : Int} (hdg : decode cc pc = .ok (.putfield idx, 3)) (kk : ∀ (H1 : Heap) (locs1 : List Loc), XI D ad G ids A H0 H1 locs1 (upr σ 4 (ups (σ 4) 0 z)) → W p l e R s m args below meth c H1 locs1 cells slots Q (F0 m (pc + 3) ls rest)) : W p l e R s m args below meth c H locs cells slots Q (F0 m pc ls (.int (iI z) :: .ref (ad (1)) :: rest)) := x_put C hM hk (cx_1 ad G σ) (Rn := RX0) (T := TX0) (N := 4) rfl inWX0 tyX0 tyX0_ok nmX0 3 (by decide) hw rfl (ty := .int) (by decide +kernel) rfl rfl (Nat.le_of_ble_eq_true rfl) (upr σ 4 (ups (σ 4) 0 z)) rfl (oth_1 ad G σ _ rfl (by decide)) hdg kk
theorem g_X1_0 (C : Cx p s m meth c args cc nL own' D G) (hM : XI D ad G ids A H0 H locs σ) (hk : 17 ∈ ids) {idx : Nat} (hw : Cond.fieldLink own' idx "KindlingTree$Book" "keys" "[J" ∈ WA) (hdg : decode cc pc = .ok (.getfield idx, 3)) (kk : W p l e R s m args below meth c H locs cells slots Q (F0 m (pc + 3) ls (.ref (ad 18) :: rest))) : W p l e R s m args below meth c H locs cells slots Q (F0 m pc ls (.ref (ad (17)) :: rest)) := x_get C hM hk (cx_17 ad G σ) (Rn := RX1) (T := TX1) (N := 4) rfl inWX1 0 (by decide) hw rfl hdg kk
theorem g_X1_1 (C : Cx p s m meth c args cc nL own' D G) (hM : XI D ad G ids A H0 H locs σ) (hk : 17 ∈ ids) {idx : Nat} (hw : Cond.fieldLink own' idx "KindlingTree$Book" "moves" "[I" ∈ WA) (hdg : decode cc pc = .ok (.getfield idx, 3)) (kk : W p l e R s m args below meth c H locs cells slots Q (F0 m (pc + 3) ls (.ref (ad 19) :: rest))) : W p l e R s m args below meth c H locs cells slots Q (F0 m pc ls (.ref (ad (17)) :: rest)) := x_get C hM hk (cx_17 ad G σ) (Rn := RX1) (T := TX1) (N := 4) rfl inWX1 1 (by decide) hw rfl hdg kk
theorem g_X1_2 (C : Cx p s m meth c args cc nL own' D G) (hM : XI D ad G ids A H0 H locs σ) (hk : 17 ∈ ids) {idx : Nat} (hw : Cond.fieldLink own' idx "KindlingTree$Book" "weights" "[I" ∈ WA) (hdg : decode cc pc = .ok (.getfield idx, 3)) (kk : W p l e R s m args below meth c H locs cells slots Q (F0 m (pc + 3) ls (.ref (ad 20) :: rest))) : W p l e R s m args below meth c H locs cells slots Q (F0 m pc ls (.ref (ad (17)) :: rest)) := x_get C hM hk (cx_17 ad G σ) (Rn := RX1) (T := TX1) (N := 4) rfl inWX1 2 (by decide) hw rfl hdg kk
theorem g_X1_3 (C : Cx p s m meth c args cc nL own' D G) (hM : XI D ad G ids A H0 H locs σ) (hk : 17 ∈ ids) {idx : Nat} (hw : Cond.fieldLink own' idx "KindlingTree$Book" "count" "I" ∈ WA) (hdg : decode cc pc = .ok (.getfield idx, 3)) (kk : W p l e R s m args below meth c H locs cells slots Q (F0 m (pc + 3) ls (.int (iI (σ 27 0)) :: rest))) : W p l e R s m args below meth c H locs cells slots Q (F0 m pc ls (.ref (ad (17)) :: rest)) := x_get C hM hk (cx_17 ad G σ) (Rn := RX1) (T := TX1) (N := 4) rfl inWX1 3 (by decide) hw rfl hdg kk
theorem p_X1_3 (C : Cx p s m meth c args cc nL own' D G) (hM : XI D ad G ids A H0 H locs σ) (hk : 17 ∈ ids) {idx : Nat} (hw : Cond.fieldLink own' idx "KindlingTree$Book" "count" "I" ∈ WA) {z : Int} (hdg : decode cc pc = .ok (.putfield idx, 3)) (kk : ∀ (H1 : Heap) (locs1 : List Loc), XI D ad G ids A H0 H1 locs1 (upr σ 27 (ups (σ 27) 0 z)) → W p l e R s m args below meth c H1 locs1 cells slots Q (F0 m (pc + 3) ls rest)) : W p l e R s m args below meth c H locs cells slots Q (F0 m pc ls (.int (iI z) :: .ref (ad (17)) :: rest)) := x_put C hM hk (cx_17 ad G σ) (Rn := RX1) (T := TX1) (N := 4) rfl inWX1 tyX1 tyX1_ok nmX1 3 (by decide) hw rfl (ty := .int) (by decide +kernel) rfl rfl (Nat.le_of_ble_eq_true rfl) (upr σ 27 (ups (σ 27) 0 z)) rfl (oth_1 ad G σ _ rfl (by decide)) hdg kk
theorem g_X2_0 (C : Cx p s m meth c args cc nL own' D G) (hM : XI D ad G ids A H0 H locs σ) (hk : 3 ∈ ids) {idx : Nat} (hw : Cond.fieldLink own' idx "KindlingTree$Judge" "perPawn" "I" ∈ WA) (hdg : decode cc pc = .ok (.getfield idx, 3)) (kk : W p l e R s m args below meth c H locs cells slots Q (F0 m (pc + 3) ls (.int (iI (σ 5 0)) :: rest))) : W p l e R s m args below meth c H locs cells slots Q (F0 m pc ls (.ref (ad (3)) :: rest)) := x_get C hM hk (cx_3 ad G σ) (Rn := RX2) (T := TX2) (N := 4) rfl inWX2 0 (by decide) hw rfl hdg kk
theorem p_X2_0 (C : Cx p s m meth c args cc nL own' D G) (hM : XI D ad G ids A H0 H locs σ) (hk : 3 ∈ ids) {idx : Nat} (hw : Cond.fieldLink own' idx "KindlingTree$Judge" "perPawn" "I" ∈ WA) {z : Int} (hdg : decode cc pc = .ok (.putfield idx, 3)) (kk : ∀ (H1 : Heap) (locs1 : List Loc), XI D ad G ids A H0 H1 locs1 (upr σ 5 (ups (σ 5) 0 z)) → W p l e R s m args below meth c H1 locs1 cells slots Q (F0 m (pc + 3) ls rest)) : W p l e R s m args below meth c H locs cells slots Q (F0 m pc ls (.int (iI z) :: .ref (ad (3)) :: rest)) := x_put C hM hk (cx_3 ad G σ) (Rn := RX2) (T := TX2) (N := 4) rfl inWX2 tyX2 tyX2_ok nmX2 0 (by decide) hw rfl (ty := .int) (by decide +kernel) rfl rfl (Nat.le_of_ble_eq_true rfl) (upr σ 5 (ups (σ 5) 0 z)) rfl (oth_1 ad G σ _ rfl (by decide)) hdg kk
theorem g_X2_1 (C : Cx p s m meth c args cc nL own' D G) (hM : XI D ad G ids A H0 H locs σ) (hk : 3 ∈ ids) {idx : Nat} (hw : Cond.fieldLink own' idx "KindlingTree$Judge" "perRow" "I" ∈ WA) (hdg : decode cc pc = .ok (.getfield idx, 3)) (kk : W p l e R s m args below meth c H locs cells slots Q (F0 m (pc + 3) ls (.int (iI (σ 6 0)) :: rest))) : W p l e R s m args below meth c H locs cells slots Q (F0 m pc ls (.ref (ad (3)) :: rest)) := x_get C hM hk (cx_3 ad G σ) (Rn := RX2) (T := TX2) (N := 4) rfl inWX2 1 (by decide) hw rfl hdg kk
theorem p_X2_1 (C : Cx p s m meth c args cc nL own' D G) (hM : XI D ad G ids A H0 H locs σ) (hk : 3 ∈ ids) {idx : Nat} (hw : Cond.fieldLink own' idx "KindlingTree$Judge" "perRow" "I" ∈ WA) {z : Int} (hdg : decode cc pc = .ok (.putfield idx, 3)) (kk : ∀ (H1 : Heap) (locs1 : List Loc), XI D ad G ids A H0 H1 locs1 (upr σ 6 (ups (σ 6) 0 z)) → W p l e R s m args below meth c H1 locs1 cells slots Q (F0 m (pc + 3) ls rest)) : W p l e R s m args below meth c H locs cells slots Q (F0 m pc ls (.int (iI z) :: .ref (ad (3)) :: rest)) := x_put C hM hk (cx_3 ad G σ) (Rn := RX2) (T := TX2) (N := 4) rfl inWX2 tyX2 tyX2_ok nmX2 1 (by decide) hw rfl (ty := .int) (by decide +kernel) rfl rfl (Nat.le_of_ble_eq_true rfl) (upr σ 6 (ups (σ 6) 0 z)) rfl (oth_1 ad G σ _ rfl (by decide)) hdg kk
theorem g_X2_2 (C : Cx p s m meth c args cc nL own' D G) (hM : XI D ad G ids A H0 H locs σ) (hk : 3 ∈ ids) {idx : Nat} (hw : Cond.fieldLink own' idx "KindlingTree$Judge" "perStep" "I" ∈ WA) (hdg : decode cc pc = .ok (.getfield idx, 3)) (kk : W p l e R s m args below meth c H locs cells slots Q (F0 m (pc + 3) ls (.int (iI (σ 7 0)) :: rest))) : W p l e R s m args below meth c H locs cells slots Q (F0 m pc ls (.ref (ad (3)) :: rest)) := x_get C hM hk (cx_3 ad G σ) (Rn := RX2) (T := TX2) (N := 4) rfl inWX2 2 (by decide) hw rfl hdg kk
theorem p_X2_2 (C : Cx p s m meth c args cc nL own' D G) (hM : XI D ad G ids A H0 H locs σ) (hk : 3 ∈ ids) {idx : Nat} (hw : Cond.fieldLink own' idx "KindlingTree$Judge" "perStep" "I" ∈ WA) {z : Int} (hdg : decode cc pc = .ok (.putfield idx, 3)) (kk : ∀ (H1 : Heap) (locs1 : List Loc), XI D ad G ids A H0 H1 locs1 (upr σ 7 (ups (σ 7) 0 z)) → W p l e R s m args below meth c H1 locs1 cells slots Q (F0 m (pc + 3) ls rest)) : W p l e R s m args below meth c H locs cells slots Q (F0 m pc ls (.int (iI z) :: .ref (ad (3)) :: rest)) := x_put C hM hk (cx_3 ad G σ) (Rn := RX2) (T := TX2) (N := 4) rfl inWX2 tyX2 tyX2_ok nmX2 2 (by decide) hw rfl (ty := .int) (by decide +kernel) rfl rfl (Nat.le_of_ble_eq_true rfl) (upr σ 7 (ups (σ 7) 0 z)) rfl (oth_1 ad G σ _ rfl (by decide)) hdg kk
theorem g_X2_3 (C : Cx p s m meth c args cc nL own' D G) (hM : XI D ad G ids A H0 H locs σ) (hk : 3 ∈ ids) {idx : Nat} (hw : Cond.fieldLink own' idx "KindlingTree$Judge" "isQuiet" "Z" ∈ WA) (hdg : decode cc pc = .ok (.getfield idx, 3)) (kk : W p l e R s m args below meth c H locs cells slots Q (F0 m (pc + 3) ls (.int (iI (σ 8 0)) :: rest))) : W p l e R s m args below meth c H locs cells slots Q (F0 m pc ls (.ref (ad (3)) :: rest)) := x_get C hM hk (cx_3 ad G σ) (Rn := RX2) (T := TX2) (N := 4) rfl inWX2 3 (by decide) hw rfl hdg kk
theorem p_X2_3 (C : Cx p s m meth c args cc nL own' D G) (hM : XI D ad G ids A H0 H locs σ) (hk : 3 ∈ ids) {idx : Nat} (hw : Cond.fieldLink own' idx "KindlingTree$Judge" "isQuiet" "Z" ∈ WA) {z : Int} (hz : z = 0 ∨ z = 1) (hdg : decode cc pc = .ok (.putfield idx, 3)) (kk : ∀ (H1 : Heap) (locs1 : List Loc), XI D ad G ids A H0 H1 locs1 (upr σ 8 (ups (σ 8) 0 z)) → W p l e R s m args below meth c H1 locs1 cells slots Q (F0 m (pc + 3) ls rest)) : W p l e R s m args below meth c H locs cells slots Q (F0 m pc ls (.int (iI z) :: .ref (ad (3)) :: rest)) := x_put C hM hk (cx_3 ad G σ) (Rn := RX2) (T := TX2) (N := 4) rfl inWX2 tyX2 tyX2_ok nmX2 3 (by decide) hw rfl (ty := .boolean) (by decide +kernel) (nar_z hz) (by rcases hz with rfl | rfl <;> rfl) (Nat.le_of_ble_eq_true rfl) (upr σ 8 (ups (σ 8) 0 z)) rfl (oth_1 ad G σ _ rfl (by decide)) hdg kk
theorem g_X3_0 (C : Cx p s m meth c args cc nL own' D G) (hM : XI D ad G ids A H0 H locs σ) (hk : 14 ∈ ids) {idx : Nat} (hw : Cond.fieldLink own' idx "KindlingTree$Killers" "newer" "[I" ∈ WA) (hdg : decode cc pc = .ok (.getfield idx, 3)) (kk : W p l e R s m args below meth c H locs cells slots Q (F0 m (pc + 3) ls (.ref (ad 15) :: rest))) : W p l e R s m args below meth c H locs cells slots Q (F0 m pc ls (.ref (ad (14)) :: rest)) := x_get C hM hk (cx_14 ad G σ) (Rn := RX3) (T := TX3) (N := 2) rfl inWX3 0 (by decide) hw rfl hdg kk
theorem g_X3_1 (C : Cx p s m meth c args cc nL own' D G) (hM : XI D ad G ids A H0 H locs σ) (hk : 14 ∈ ids) {idx : Nat} (hw : Cond.fieldLink own' idx "KindlingTree$Killers" "older" "[I" ∈ WA) (hdg : decode cc pc = .ok (.getfield idx, 3)) (kk : W p l e R s m args below meth c H locs cells slots Q (F0 m (pc + 3) ls (.ref (ad 16) :: rest))) : W p l e R s m args below meth c H locs cells slots Q (F0 m pc ls (.ref (ad (14)) :: rest)) := x_get C hM hk (cx_14 ad G σ) (Rn := RX3) (T := TX3) (N := 2) rfl inWX3 1 (by decide) hw rfl hdg kk
theorem g_X4_0 (C : Cx p s m meth c args cc nL own' D G) (hM : XI D ad G ids A H0 H locs σ) (hk : 24 ∈ ids) {idx : Nat} (hw : Cond.fieldLink own' idx "KindlingTree$Levels" "lists" "[LKindlingTree$MoveList;" ∈ WA) (hdg : decode cc pc = .ok (.getfield idx, 3)) (kk : W p l e R s m args below meth c H locs cells slots Q (F0 m (pc + 3) ls (.ref (ad 25) :: rest))) : W p l e R s m args below meth c H locs cells slots Q (F0 m pc ls (.ref (ad (24)) :: rest)) := x_get C hM hk (cx_24 ad G σ) (Rn := RX4) (T := TX4) (N := 2) rfl inWX4 0 (by decide) hw rfl hdg kk
theorem g_X4_1 (C : Cx p s m meth c args cc nL own' D G) (hM : XI D ad G ids A H0 H locs σ) (hk : 24 ∈ ids) {idx : Nat} (hw : Cond.fieldLink own' idx "KindlingTree$Levels" "spare" "LKindlingTree$MoveList;" ∈ WA) (hdg : decode cc pc = .ok (.getfield idx, 3)) (kk : W p l e R s m args below meth c H locs cells slots Q (F0 m (pc + 3) ls (.ref (ad 76) :: rest))) : W p l e R s m args below meth c H locs cells slots Q (F0 m pc ls (.ref (ad (24)) :: rest)) := x_get C hM hk (cx_24 ad G σ) (Rn := RX4) (T := TX4) (N := 2) rfl inWX4 1 (by decide) hw rfl hdg kk
theorem g_X5_0 (C : Cx p s m meth c args cc nL own' D G) (hM : XI D ad G ids A H0 H locs σ) {j : Nat} (hj : j < 11) (hk : 26 + 5 * j ∈ ids) {idx : Nat} (hw : Cond.fieldLink own' idx "KindlingTree$MoveList" "moves" "[I" ∈ WA) (hdg : decode cc pc = .ok (.getfield idx, 3)) (kk : W p l e R s m args below meth c H locs cells slots Q (F0 m (pc + 3) ls (.ref (ad (26 + 5 * j + 1)) :: rest))) : W p l e R s m args below meth c H locs cells slots Q (F0 m pc ls (.ref (ad (26 + 5 * j)) :: rest)) := x_get C hM hk (cx_lo ad G σ hj) (Rn := RX5) (T := TX5) (N := 6) rfl inWX5 0 (by decide) hw rfl hdg kk
theorem g_X5_1 (C : Cx p s m meth c args cc nL own' D G) (hM : XI D ad G ids A H0 H locs σ) {j : Nat} (hj : j < 11) (hk : 26 + 5 * j ∈ ids) {idx : Nat} (hw : Cond.fieldLink own' idx "KindlingTree$MoveList" "taking" "[Z" ∈ WA) (hdg : decode cc pc = .ok (.getfield idx, 3)) (kk : W p l e R s m args below meth c H locs cells slots Q (F0 m (pc + 3) ls (.ref (ad (26 + 5 * j + 2)) :: rest))) : W p l e R s m args below meth c H locs cells slots Q (F0 m pc ls (.ref (ad (26 + 5 * j)) :: rest)) := x_get C hM hk (cx_lo ad G σ hj) (Rn := RX5) (T := TX5) (N := 6) rfl inWX5 1 (by decide) hw rfl hdg kk
theorem g_X5_2 (C : Cx p s m meth c args cc nL own' D G) (hM : XI D ad G ids A H0 H locs σ) {j : Nat} (hj : j < 11) (hk : 26 + 5 * j ∈ ids) {idx : Nat} (hw : Cond.fieldLink own' idx "KindlingTree$MoveList" "order" "[I" ∈ WA) (hdg : decode cc pc = .ok (.getfield idx, 3)) (kk : W p l e R s m args below meth c H locs cells slots Q (F0 m (pc + 3) ls (.ref (ad (26 + 5 * j + 3)) :: rest))) : W p l e R s m args below meth c H locs cells slots Q (F0 m pc ls (.ref (ad (26 + 5 * j)) :: rest)) := x_get C hM hk (cx_lo ad G σ hj) (Rn := RX5) (T := TX5) (N := 6) rfl inWX5 2 (by decide) hw rfl hdg kk
theorem g_X5_3 (C : Cx p s m meth c args cc nL own' D G) (hM : XI D ad G ids A H0 H locs σ) {j : Nat} (hj : j < 11) (hk : 26 + 5 * j ∈ ids) {idx : Nat} (hw : Cond.fieldLink own' idx "KindlingTree$MoveList" "isPlaced" "[Z" ∈ WA) (hdg : decode cc pc = .ok (.getfield idx, 3)) (kk : W p l e R s m args below meth c H locs cells slots Q (F0 m (pc + 3) ls (.ref (ad (26 + 5 * j + 4)) :: rest))) : W p l e R s m args below meth c H locs cells slots Q (F0 m pc ls (.ref (ad (26 + 5 * j)) :: rest)) := x_get C hM hk (cx_lo ad G σ hj) (Rn := RX5) (T := TX5) (N := 6) rfl inWX5 3 (by decide) hw rfl hdg kk
theorem g_X5_4 (C : Cx p s m meth c args cc nL own' D G) (hM : XI D ad G ids A H0 H locs σ) {j : Nat} (hj : j < 11) (hk : 26 + 5 * j ∈ ids) {idx : Nat} (hw : Cond.fieldLink own' idx "KindlingTree$MoveList" "count" "I" ∈ WA) (hdg : decode cc pc = .ok (.getfield idx, 3)) (kk : W p l e R s m args below meth c H locs cells slots Q (F0 m (pc + 3) ls (.int (iI (σ (40 + 6 * j + 4) 0)) :: rest))) : W p l e R s m args below meth c H locs cells slots Q (F0 m pc ls (.ref (ad (26 + 5 * j)) :: rest)) := x_get C hM hk (cx_lo ad G σ hj) (Rn := RX5) (T := TX5) (N := 6) rfl inWX5 4 (by decide) hw rfl hdg kk
theorem p_X5_4 (C : Cx p s m meth c args cc nL own' D G) (hM : XI D ad G ids A H0 H locs σ) {j : Nat} (hj : j < 11) (hk : 26 + 5 * j ∈ ids) {idx : Nat} (hw : Cond.fieldLink own' idx "KindlingTree$MoveList" "count" "I" ∈ WA) {z : Int} (hdg : decode cc pc = .ok (.putfield idx, 3)) (kk : ∀ (H1 : Heap) (locs1 : List Loc), XI D ad G ids A H0 H1 locs1 (upr σ (40 + 6 * j + 4) (ups (σ (40 + 6 * j + 4)) 0 z)) → W p l e R s m args below meth c H1 locs1 cells slots Q (F0 m (pc + 3) ls rest)) : W p l e R s m args below meth c H locs cells slots Q (F0 m pc ls (.int (iI z) :: .ref (ad (26 + 5 * j)) :: rest)) := x_put C hM hk (cx_lo ad G σ hj) (Rn := RX5) (T := TX5) (N := 6) rfl inWX5 tyX5 tyX5_ok nmX5 4 (by decide) hw rfl (ty := .int) (by decide +kernel) rfl rfl (Nat.le_of_ble_eq_true rfl) (upr σ (40 + 6 * j + 4) (ups (σ (40 + 6 * j + 4)) 0 z)) (by rw [cx_lo _ _ _ hj, upr_eq, ups_eq, upr_ne (q := 40 + 6 * j + 5) _ _ (by omega)]; rfl) (oth_1 ad G σ _ (own_list hj (i := 4) (by decide)) (by omega)) hdg kk
theorem g_X5_5 (C : Cx p s m meth c args cc nL own' D G) (hM : XI D ad G ids A H0 H locs σ) {j : Nat} (hj : j < 11) (hk : 26 + 5 * j ∈ ids) {idx : Nat} (hw : Cond.fieldLink own' idx "KindlingTree$MoveList" "placed" "I" ∈ WA) (hdg : decode cc pc = .ok (.getfield idx, 3)) (kk : W p l e R s m args below meth c H locs cells slots Q (F0 m (pc + 3) ls (.int (iI (σ (40 + 6 * j + 5) 0)) :: rest))) : W p l e R s m args below meth c H locs cells slots Q (F0 m pc ls (.ref (ad (26 + 5 * j)) :: rest)) := x_get C hM hk (cx_lo ad G σ hj) (Rn := RX5) (T := TX5) (N := 6) rfl inWX5 5 (by decide) hw rfl hdg kk
theorem p_X5_5 (C : Cx p s m meth c args cc nL own' D G) (hM : XI D ad G ids A H0 H locs σ) {j : Nat} (hj : j < 11) (hk : 26 + 5 * j ∈ ids) {idx : Nat} (hw : Cond.fieldLink own' idx "KindlingTree$MoveList" "placed" "I" ∈ WA) {z : Int} (hdg : decode cc pc = .ok (.putfield idx, 3)) (kk : ∀ (H1 : Heap) (locs1 : List Loc), XI D ad G ids A H0 H1 locs1 (upr σ (40 + 6 * j + 5) (ups (σ (40 + 6 * j + 5)) 0 z)) → W p l e R s m args below meth c H1 locs1 cells slots Q (F0 m (pc + 3) ls rest)) : W p l e R s m args below meth c H locs cells slots Q (F0 m pc ls (.int (iI z) :: .ref (ad (26 + 5 * j)) :: rest)) := x_put C hM hk (cx_lo ad G σ hj) (Rn := RX5) (T := TX5) (N := 6) rfl inWX5 tyX5 tyX5_ok nmX5 5 (by decide) hw rfl (ty := .int) (by decide +kernel) rfl rfl (Nat.le_of_ble_eq_true rfl) (upr σ (40 + 6 * j + 5) (ups (σ (40 + 6 * j + 5)) 0 z)) (by rw [cx_lo _ _ _ hj, upr_eq, ups_eq, upr_ne (q := 40 + 6 * j + 4) _ _ (by omega)]; rfl) (oth_1 ad G σ _ (own_list hj (i := 5) (by decide)) (by omega)) hdg kk
theorem g_X6_0 (C : Cx p s m meth c args cc nL own' D G) (hM : XI D ad G ids A H0 H locs σ) {i : Nat} (hi : i < 2) (hk : 11 + i ∈ ids) {idx : Nat} (hw : Cond.fieldLink own' idx "KindlingTree$Quiet" "board" "LKindlingTree$Board;" ∈ WA) (hdg : decode cc pc = .ok (.getfield idx, 3)) (kk : W p l e R s m args below meth c H locs cells slots Q (F0 m (pc + 3) ls (.ref (ad 1) :: rest))) : W p l e R s m args below meth c H locs cells slots Q (F0 m pc ls (.ref (ad (11 + i)) :: rest)) := x_get C hM hk (cx_q ad G σ hi) (Rn := RX6) (T := TX6) (N := 4) rfl inWX6 0 (by decide) hw rfl hdg kk
theorem g_X6_1 (C : Cx p s m meth c args cc nL own' D G) (hM : XI D ad G ids A H0 H locs σ) {i : Nat} (hi : i < 2) (hk : 11 + i ∈ ids) {idx : Nat} (hw : Cond.fieldLink own' idx "KindlingTree$Quiet" "judge" "LKindlingTree$Judge;" ∈ WA) (hdg : decode cc pc = .ok (.getfield idx, 3)) (kk : W p l e R s m args below meth c H locs cells slots Q (F0 m (pc + 3) ls (.ref (ad 3) :: rest))) : W p l e R s m args below meth c H locs cells slots Q (F0 m pc ls (.ref (ad (11 + i)) :: rest)) := x_get C hM hk (cx_q ad G σ hi) (Rn := RX6) (T := TX6) (N := 4) rfl inWX6 1 (by decide) hw rfl hdg kk
theorem g_X6_2 (C : Cx p s m meth c args cc nL own' D G) (hM : XI D ad G ids A H0 H locs σ) {i : Nat} (hi : i < 2) (hk : 11 + i ∈ ids) {idx : Nat} (hw : Cond.fieldLink own' idx "KindlingTree$Quiet" "levels" "LKindlingTree$Levels;" ∈ WA) (hdg : decode cc pc = .ok (.getfield idx, 3)) (kk : W p l e R s m args below meth c H locs cells slots Q (F0 m (pc + 3) ls (.ref (ad 24) :: rest))) : W p l e R s m args below meth c H locs cells slots Q (F0 m pc ls (.ref (ad (11 + i)) :: rest)) := x_get C hM hk (cx_q ad G σ hi) (Rn := RX6) (T := TX6) (N := 4) rfl inWX6 2 (by decide) hw rfl hdg kk
theorem g_X6_3 (C : Cx p s m meth c args cc nL own' D G) (hM : XI D ad G ids A H0 H locs σ) {i : Nat} (hi : i < 2) (hk : 11 + i ∈ ids) {idx : Nat} (hw : Cond.fieldLink own' idx "KindlingTree$Quiet" "nodes" "I" ∈ WA) (hdg : decode cc pc = .ok (.getfield idx, 3)) (kk : W p l e R s m args below meth c H locs cells slots Q (F0 m (pc + 3) ls (.int (iI (σ (15 + i) 0)) :: rest))) : W p l e R s m args below meth c H locs cells slots Q (F0 m pc ls (.ref (ad (11 + i)) :: rest)) := x_get C hM hk (cx_q ad G σ hi) (Rn := RX6) (T := TX6) (N := 4) rfl inWX6 3 (by decide) hw rfl hdg kk
theorem p_X6_3 (C : Cx p s m meth c args cc nL own' D G) (hM : XI D ad G ids A H0 H locs σ) {i : Nat} (hi : i < 2) (hk : 11 + i ∈ ids) {idx : Nat} (hw : Cond.fieldLink own' idx "KindlingTree$Quiet" "nodes" "I" ∈ WA) {z : Int} (hdg : decode cc pc = .ok (.putfield idx, 3)) (kk : ∀ (H1 : Heap) (locs1 : List Loc), XI D ad G ids A H0 H1 locs1 (upr σ (15 + i) (ups (σ (15 + i)) 0 z)) → W p l e R s m args below meth c H1 locs1 cells slots Q (F0 m (pc + 3) ls rest)) : W p l e R s m args below meth c H locs cells slots Q (F0 m pc ls (.int (iI z) :: .ref (ad (11 + i)) :: rest)) := x_put C hM hk (cx_q ad G σ hi) (Rn := RX6) (T := TX6) (N := 4) rfl inWX6 tyX6 tyX6_ok nmX6 3 (by decide) hw rfl (ty := .int) (by decide +kernel) rfl rfl (Nat.le_of_ble_eq_true rfl) (upr σ (15 + i) (ups (σ (15 + i)) 0 z)) (by rw [cx_q _ _ _ hi, upr_eq, ups_eq]; rfl) (oth_1 ad G σ _ (own_q hi) (by omega)) hdg kk
theorem g_X7_0 (C : Cx p s m meth c args cc nL own' D G) (hM : XI D ad G ids A H0 H locs σ) (hk : 13 ∈ ids) {idx : Nat} (hw : Cond.fieldLink own' idx "KindlingTree$Seeker" "board" "LKindlingTree$Board;" ∈ WA) (hdg : decode cc pc = .ok (.getfield idx, 3)) (kk : W p l e R s m args below meth c H locs cells slots Q (F0 m (pc + 3) ls (.ref (ad 1) :: rest))) : W p l e R s m args below meth c H locs cells slots Q (F0 m pc ls (.ref (ad (13)) :: rest)) := x_get C hM hk (cx_13 ad G σ) (Rn := RX7) (T := TX7) (N := 10) rfl inWX7 0 (by decide) hw rfl hdg kk
theorem g_X7_1 (C : Cx p s m meth c args cc nL own' D G) (hM : XI D ad G ids A H0 H locs σ) (hk : 13 ∈ ids) {idx : Nat} (hw : Cond.fieldLink own' idx "KindlingTree$Seeker" "levels" "LKindlingTree$Levels;" ∈ WA) (hdg : decode cc pc = .ok (.getfield idx, 3)) (kk : W p l e R s m args below meth c H locs cells slots Q (F0 m (pc + 3) ls (.ref (ad 24) :: rest))) : W p l e R s m args below meth c H locs cells slots Q (F0 m pc ls (.ref (ad (13)) :: rest)) := x_get C hM hk (cx_13 ad G σ) (Rn := RX7) (T := TX7) (N := 10) rfl inWX7 1 (by decide) hw rfl hdg kk
theorem g_X7_2 (C : Cx p s m meth c args cc nL own' D G) (hM : XI D ad G ids A H0 H locs σ) (hk : 13 ∈ ids) {idx : Nat} (hw : Cond.fieldLink own' idx "KindlingTree$Seeker" "table" "LKindlingTree$Table;" ∈ WA) (hdg : decode cc pc = .ok (.getfield idx, 3)) (kk : W p l e R s m args below meth c H locs cells slots Q (F0 m (pc + 3) ls (.ref (ad 4) :: rest))) : W p l e R s m args below meth c H locs cells slots Q (F0 m pc ls (.ref (ad (13)) :: rest)) := x_get C hM hk (cx_13 ad G σ) (Rn := RX7) (T := TX7) (N := 10) rfl inWX7 2 (by decide) hw rfl hdg kk
theorem g_X7_3 (C : Cx p s m meth c args cc nL own' D G) (hM : XI D ad G ids A H0 H locs σ) (hk : 13 ∈ ids) {idx : Nat} (hw : Cond.fieldLink own' idx "KindlingTree$Seeker" "quiet" "LKindlingTree$Quiet;" ∈ WA) (hdg : decode cc pc = .ok (.getfield idx, 3)) (kk : W p l e R s m args below meth c H locs cells slots Q (F0 m (pc + 3) ls (.ref (ad 12) :: rest))) : W p l e R s m args below meth c H locs cells slots Q (F0 m pc ls (.ref (ad (13)) :: rest)) := x_get C hM hk (cx_13 ad G σ) (Rn := RX7) (T := TX7) (N := 10) rfl inWX7 3 (by decide) hw rfl hdg kk
theorem g_X7_4 (C : Cx p s m meth c args cc nL own' D G) (hM : XI D ad G ids A H0 H locs σ) (hk : 13 ∈ ids) {idx : Nat} (hw : Cond.fieldLink own' idx "KindlingTree$Seeker" "killers" "LKindlingTree$Killers;" ∈ WA) (hdg : decode cc pc = .ok (.getfield idx, 3)) (kk : W p l e R s m args below meth c H locs cells slots Q (F0 m (pc + 3) ls (.ref (ad 14) :: rest))) : W p l e R s m args below meth c H locs cells slots Q (F0 m pc ls (.ref (ad (13)) :: rest)) := x_get C hM hk (cx_13 ad G σ) (Rn := RX7) (T := TX7) (N := 10) rfl inWX7 4 (by decide) hw rfl hdg kk
theorem g_X7_5 (C : Cx p s m meth c args cc nL own' D G) (hM : XI D ad G ids A H0 H locs σ) (hk : 13 ∈ ids) {idx : Nat} (hw : Cond.fieldLink own' idx "KindlingTree$Seeker" "best" "I" ∈ WA) (hdg : decode cc pc = .ok (.getfield idx, 3)) (kk : W p l e R s m args below meth c H locs cells slots Q (F0 m (pc + 3) ls (.int (iI (σ 19 0)) :: rest))) : W p l e R s m args below meth c H locs cells slots Q (F0 m pc ls (.ref (ad (13)) :: rest)) := x_get C hM hk (cx_13 ad G σ) (Rn := RX7) (T := TX7) (N := 10) rfl inWX7 5 (by decide) hw rfl hdg kk
theorem p_X7_5 (C : Cx p s m meth c args cc nL own' D G) (hM : XI D ad G ids A H0 H locs σ) (hk : 13 ∈ ids) {idx : Nat} (hw : Cond.fieldLink own' idx "KindlingTree$Seeker" "best" "I" ∈ WA) {z : Int} (hdg : decode cc pc = .ok (.putfield idx, 3)) (kk : ∀ (H1 : Heap) (locs1 : List Loc), XI D ad G ids A H0 H1 locs1 (upr σ 19 (ups (σ 19) 0 z)) → W p l e R s m args below meth c H1 locs1 cells slots Q (F0 m (pc + 3) ls rest)) : W p l e R s m args below meth c H locs cells slots Q (F0 m pc ls (.int (iI z) :: .ref (ad (13)) :: rest)) := x_put C hM hk (cx_13 ad G σ) (Rn := RX7) (T := TX7) (N := 10) rfl inWX7 tyX7 tyX7_ok nmX7 5 (by decide) hw rfl (ty := .int) (by decide +kernel) rfl rfl (Nat.le_of_ble_eq_true rfl) (upr σ 19 (ups (σ 19) 0 z)) rfl (oth_1 ad G σ _ rfl (by decide)) hdg kk
theorem g_X7_6 (C : Cx p s m meth c args cc nL own' D G) (hM : XI D ad G ids A H0 H locs σ) (hk : 13 ∈ ids) {idx : Nat} (hw : Cond.fieldLink own' idx "KindlingTree$Seeker" "reached" "I" ∈ WA) (hdg : decode cc pc = .ok (.getfield idx, 3)) (kk : W p l e R s m args below meth c H locs cells slots Q (F0 m (pc + 3) ls (.int (iI (σ 20 0)) :: rest))) : W p l e R s m args below meth c H locs cells slots Q (F0 m pc ls (.ref (ad (13)) :: rest)) := x_get C hM hk (cx_13 ad G σ) (Rn := RX7) (T := TX7) (N := 10) rfl inWX7 6 (by decide) hw rfl hdg kk
theorem p_X7_6 (C : Cx p s m meth c args cc nL own' D G) (hM : XI D ad G ids A H0 H locs σ) (hk : 13 ∈ ids) {idx : Nat} (hw : Cond.fieldLink own' idx "KindlingTree$Seeker" "reached" "I" ∈ WA) {z : Int} (hdg : decode cc pc = .ok (.putfield idx, 3)) (kk : ∀ (H1 : Heap) (locs1 : List Loc), XI D ad G ids A H0 H1 locs1 (upr σ 20 (ups (σ 20) 0 z)) → W p l e R s m args below meth c H1 locs1 cells slots Q (F0 m (pc + 3) ls rest)) : W p l e R s m args below meth c H locs cells slots Q (F0 m pc ls (.int (iI z) :: .ref (ad (13)) :: rest)) := x_put C hM hk (cx_13 ad G σ) (Rn := RX7) (T := TX7) (N := 10) rfl inWX7 tyX7 tyX7_ok nmX7 6 (by decide) hw rfl (ty := .int) (by decide +kernel) rfl rfl (Nat.le_of_ble_eq_true rfl) (upr σ 20 (ups (σ 20) 0 z)) rfl (oth_1 ad G σ _ rfl (by decide)) hdg kk
theorem g_X7_7 (C : Cx p s m meth c args cc nL own' D G) (hM : XI D ad G ids A H0 H locs σ) (hk : 13 ∈ ids) {idx : Nat} (hw : Cond.fieldLink own' idx "KindlingTree$Seeker" "nodes" "I" ∈ WA) (hdg : decode cc pc = .ok (.getfield idx, 3)) (kk : W p l e R s m args below meth c H locs cells slots Q (F0 m (pc + 3) ls (.int (iI (σ 21 0)) :: rest))) : W p l e R s m args below meth c H locs cells slots Q (F0 m pc ls (.ref (ad (13)) :: rest)) := x_get C hM hk (cx_13 ad G σ) (Rn := RX7) (T := TX7) (N := 10) rfl inWX7 7 (by decide) hw rfl hdg kk
theorem p_X7_7 (C : Cx p s m meth c args cc nL own' D G) (hM : XI D ad G ids A H0 H locs σ) (hk : 13 ∈ ids) {idx : Nat} (hw : Cond.fieldLink own' idx "KindlingTree$Seeker" "nodes" "I" ∈ WA) {z : Int} (hdg : decode cc pc = .ok (.putfield idx, 3)) (kk : ∀ (H1 : Heap) (locs1 : List Loc), XI D ad G ids A H0 H1 locs1 (upr σ 21 (ups (σ 21) 0 z)) → W p l e R s m args below meth c H1 locs1 cells slots Q (F0 m (pc + 3) ls rest)) : W p l e R s m args below meth c H locs cells slots Q (F0 m pc ls (.int (iI z) :: .ref (ad (13)) :: rest)) := x_put C hM hk (cx_13 ad G σ) (Rn := RX7) (T := TX7) (N := 10) rfl inWX7 tyX7 tyX7_ok nmX7 7 (by decide) hw rfl (ty := .int) (by decide +kernel) rfl rfl (Nat.le_of_ble_eq_true rfl) (upr σ 21 (ups (σ 21) 0 z)) rfl (oth_1 ad G σ _ rfl (by decide)) hdg kk
theorem g_X7_8 (C : Cx p s m meth c args cc nL own' D G) (hM : XI D ad G ids A H0 H locs σ) (hk : 13 ∈ ids) {idx : Nat} (hw : Cond.fieldLink own' idx "KindlingTree$Seeker" "hits" "I" ∈ WA) (hdg : decode cc pc = .ok (.getfield idx, 3)) (kk : W p l e R s m args below meth c H locs cells slots Q (F0 m (pc + 3) ls (.int (iI (σ 22 0)) :: rest))) : W p l e R s m args below meth c H locs cells slots Q (F0 m pc ls (.ref (ad (13)) :: rest)) := x_get C hM hk (cx_13 ad G σ) (Rn := RX7) (T := TX7) (N := 10) rfl inWX7 8 (by decide) hw rfl hdg kk
theorem p_X7_8 (C : Cx p s m meth c args cc nL own' D G) (hM : XI D ad G ids A H0 H locs σ) (hk : 13 ∈ ids) {idx : Nat} (hw : Cond.fieldLink own' idx "KindlingTree$Seeker" "hits" "I" ∈ WA) {z : Int} (hdg : decode cc pc = .ok (.putfield idx, 3)) (kk : ∀ (H1 : Heap) (locs1 : List Loc), XI D ad G ids A H0 H1 locs1 (upr σ 22 (ups (σ 22) 0 z)) → W p l e R s m args below meth c H1 locs1 cells slots Q (F0 m (pc + 3) ls rest)) : W p l e R s m args below meth c H locs cells slots Q (F0 m pc ls (.int (iI z) :: .ref (ad (13)) :: rest)) := x_put C hM hk (cx_13 ad G σ) (Rn := RX7) (T := TX7) (N := 10) rfl inWX7 tyX7 tyX7_ok nmX7 8 (by decide) hw rfl (ty := .int) (by decide +kernel) rfl rfl (Nat.le_of_ble_eq_true rfl) (upr σ 22 (ups (σ 22) 0 z)) rfl (oth_1 ad G σ _ rfl (by decide)) hdg kk
theorem g_X7_9 (C : Cx p s m meth c args cc nL own' D G) (hM : XI D ad G ids A H0 H locs σ) (hk : 13 ∈ ids) {idx : Nat} (hw : Cond.fieldLink own' idx "KindlingTree$Seeker" "cuts" "I" ∈ WA) (hdg : decode cc pc = .ok (.getfield idx, 3)) (kk : W p l e R s m args below meth c H locs cells slots Q (F0 m (pc + 3) ls (.int (iI (σ 23 0)) :: rest))) : W p l e R s m args below meth c H locs cells slots Q (F0 m pc ls (.ref (ad (13)) :: rest)) := x_get C hM hk (cx_13 ad G σ) (Rn := RX7) (T := TX7) (N := 10) rfl inWX7 9 (by decide) hw rfl hdg kk
theorem p_X7_9 (C : Cx p s m meth c args cc nL own' D G) (hM : XI D ad G ids A H0 H locs σ) (hk : 13 ∈ ids) {idx : Nat} (hw : Cond.fieldLink own' idx "KindlingTree$Seeker" "cuts" "I" ∈ WA) {z : Int} (hdg : decode cc pc = .ok (.putfield idx, 3)) (kk : ∀ (H1 : Heap) (locs1 : List Loc), XI D ad G ids A H0 H1 locs1 (upr σ 23 (ups (σ 23) 0 z)) → W p l e R s m args below meth c H1 locs1 cells slots Q (F0 m (pc + 3) ls rest)) : W p l e R s m args below meth c H locs cells slots Q (F0 m pc ls (.int (iI z) :: .ref (ad (13)) :: rest)) := x_put C hM hk (cx_13 ad G σ) (Rn := RX7) (T := TX7) (N := 10) rfl inWX7 tyX7 tyX7_ok nmX7 9 (by decide) hw rfl (ty := .int) (by decide +kernel) rfl rfl (Nat.le_of_ble_eq_true rfl) (upr σ 23 (ups (σ 23) 0 z)) rfl (oth_1 ad G σ _ rfl (by decide)) hdg kk
theorem g_X8_0 (C : Cx p s m meth c args cc nL own' D G) (hM : XI D ad G ids A H0 H locs σ) (hk : 4 ∈ ids) {idx : Nat} (hw : Cond.fieldLink own' idx "KindlingTree$Table" "keys" "[J" ∈ WA) (hdg : decode cc pc = .ok (.getfield idx, 3)) (kk : W p l e R s m args below meth c H locs cells slots Q (F0 m (pc + 3) ls (.ref (ad 5) :: rest))) : W p l e R s m args below meth c H locs cells slots Q (F0 m pc ls (.ref (ad (4)) :: rest)) := x_get C hM hk (cx_4 ad G σ) (Rn := RX8) (T := TX8) (N := 6) rfl inWX8 0 (by decide) hw rfl hdg kk
theorem g_X8_1 (C : Cx p s m meth c args cc nL own' D G) (hM : XI D ad G ids A H0 H locs σ) (hk : 4 ∈ ids) {idx : Nat} (hw : Cond.fieldLink own' idx "KindlingTree$Table" "depths" "[I" ∈ WA) (hdg : decode cc pc = .ok (.getfield idx, 3)) (kk : W p l e R s m args below meth c H locs cells slots Q (F0 m (pc + 3) ls (.ref (ad 6) :: rest))) : W p l e R s m args below meth c H locs cells slots Q (F0 m pc ls (.ref (ad (4)) :: rest)) := x_get C hM hk (cx_4 ad G σ) (Rn := RX8) (T := TX8) (N := 6) rfl inWX8 1 (by decide) hw rfl hdg kk
theorem g_X8_2 (C : Cx p s m meth c args cc nL own' D G) (hM : XI D ad G ids A H0 H locs σ) (hk : 4 ∈ ids) {idx : Nat} (hw : Cond.fieldLink own' idx "KindlingTree$Table" "numbers" "[I" ∈ WA) (hdg : decode cc pc = .ok (.getfield idx, 3)) (kk : W p l e R s m args below meth c H locs cells slots Q (F0 m (pc + 3) ls (.ref (ad 7) :: rest))) : W p l e R s m args below meth c H locs cells slots Q (F0 m pc ls (.ref (ad (4)) :: rest)) := x_get C hM hk (cx_4 ad G σ) (Rn := RX8) (T := TX8) (N := 6) rfl inWX8 2 (by decide) hw rfl hdg kk
theorem g_X8_3 (C : Cx p s m meth c args cc nL own' D G) (hM : XI D ad G ids A H0 H locs σ) (hk : 4 ∈ ids) {idx : Nat} (hw : Cond.fieldLink own' idx "KindlingTree$Table" "kinds" "[I" ∈ WA) (hdg : decode cc pc = .ok (.getfield idx, 3)) (kk : W p l e R s m args below meth c H locs cells slots Q (F0 m (pc + 3) ls (.ref (ad 8) :: rest))) : W p l e R s m args below meth c H locs cells slots Q (F0 m pc ls (.ref (ad (4)) :: rest)) := x_get C hM hk (cx_4 ad G σ) (Rn := RX8) (T := TX8) (N := 6) rfl inWX8 3 (by decide) hw rfl hdg kk
theorem g_X8_4 (C : Cx p s m meth c args cc nL own' D G) (hM : XI D ad G ids A H0 H locs σ) (hk : 4 ∈ ids) {idx : Nat} (hw : Cond.fieldLink own' idx "KindlingTree$Table" "moves" "[I" ∈ WA) (hdg : decode cc pc = .ok (.getfield idx, 3)) (kk : W p l e R s m args below meth c H locs cells slots Q (F0 m (pc + 3) ls (.ref (ad 9) :: rest))) : W p l e R s m args below meth c H locs cells slots Q (F0 m pc ls (.ref (ad (4)) :: rest)) := x_get C hM hk (cx_4 ad G σ) (Rn := RX8) (T := TX8) (N := 6) rfl inWX8 4 (by decide) hw rfl hdg kk
theorem g_X8_5 (C : Cx p s m meth c args cc nL own' D G) (hM : XI D ad G ids A H0 H locs σ) (hk : 4 ∈ ids) {idx : Nat} (hw : Cond.fieldLink own' idx "KindlingTree$Table" "slots" "I" ∈ WA) (hdg : decode cc pc = .ok (.getfield idx, 3)) (kk : W p l e R s m args below meth c H locs cells slots Q (F0 m (pc + 3) ls (.int (iI (σ 9 0)) :: rest))) : W p l e R s m args below meth c H locs cells slots Q (F0 m pc ls (.ref (ad (4)) :: rest)) := x_get C hM hk (cx_4 ad G σ) (Rn := RX8) (T := TX8) (N := 6) rfl inWX8 5 (by decide) hw rfl hdg kk
theorem p_X8_5 (C : Cx p s m meth c args cc nL own' D G) (hM : XI D ad G ids A H0 H locs σ) (hk : 4 ∈ ids) {idx : Nat} (hw : Cond.fieldLink own' idx "KindlingTree$Table" "slots" "I" ∈ WA) {z : Int} (hdg : decode cc pc = .ok (.putfield idx, 3)) (kk : ∀ (H1 : Heap) (locs1 : List Loc), XI D ad G ids A H0 H1 locs1 (upr σ 9 (ups (σ 9) 0 z)) → W p l e R s m args below meth c H1 locs1 cells slots Q (F0 m (pc + 3) ls rest)) : W p l e R s m args below meth c H locs cells slots Q (F0 m pc ls (.int (iI z) :: .ref (ad (4)) :: rest)) := x_put C hM hk (cx_4 ad G σ) (Rn := RX8) (T := TX8) (N := 6) rfl inWX8 tyX8 tyX8_ok nmX8 5 (by decide) hw rfl (ty := .int) (by decide +kernel) rfl rfl (Nat.le_of_ble_eq_true rfl) (upr σ 9 (ups (σ 9) 0 z)) rfl (oth_1 ad G σ _ rfl (by decide)) hdg kk
theorem g_X9_0 (C : Cx p s m meth c args cc nL own' D G) (hM : XI D ad G ids A H0 H locs σ) (hk : 21 ∈ ids) {idx : Nat} (hw : Cond.fieldLink own' idx "KindlingTree$Trail" "moves" "[I" ∈ WA) (hdg : decode cc pc = .ok (.getfield idx, 3)) (kk : W p l e R s m args below meth c H locs cells slots Q (F0 m (pc + 3) ls (.ref (ad 22) :: rest))) : W p l e R s m args below meth c H locs cells slots Q (F0 m pc ls (.ref (ad (21)) :: rest)) := x_get C hM hk (cx_21 ad G σ) (Rn := RX9) (T := TX9) (N := 3) rfl inWX9 0 (by decide) hw rfl hdg kk
theorem g_X9_1 (C : Cx p s m meth c args cc nL own' D G) (hM : XI D ad G ids A H0 H locs σ) (hk : 21 ∈ ids) {idx : Nat} (hw : Cond.fieldLink own' idx "KindlingTree$Trail" "taken" "[I" ∈ WA) (hdg : decode cc pc = .ok (.getfield idx, 3)) (kk : W p l e R s m args below meth c H locs cells slots Q (F0 m (pc + 3) ls (.ref (ad 23) :: rest))) : W p l e R s m args below meth c H locs cells slots Q (F0 m pc ls (.ref (ad (21)) :: rest)) := x_get C hM hk (cx_21 ad G σ) (Rn := RX9) (T := TX9) (N := 3) rfl inWX9 1 (by decide) hw rfl hdg kk
theorem g_X9_2 (C : Cx p s m meth c args cc nL own' D G) (hM : XI D ad G ids A H0 H locs σ) (hk : 21 ∈ ids) {idx : Nat} (hw : Cond.fieldLink own' idx "KindlingTree$Trail" "count" "I" ∈ WA) (hdg : decode cc pc = .ok (.getfield idx, 3)) (kk : W p l e R s m args below meth c H locs cells slots Q (F0 m (pc + 3) ls (.int (iI (σ 30 0)) :: rest))) : W p l e R s m args below meth c H locs cells slots Q (F0 m pc ls (.ref (ad (21)) :: rest)) := x_get C hM hk (cx_21 ad G σ) (Rn := RX9) (T := TX9) (N := 3) rfl inWX9 2 (by decide) hw rfl hdg kk
theorem p_X9_2 (C : Cx p s m meth c args cc nL own' D G) (hM : XI D ad G ids A H0 H locs σ) (hk : 21 ∈ ids) {idx : Nat} (hw : Cond.fieldLink own' idx "KindlingTree$Trail" "count" "I" ∈ WA) {z : Int} (hdg : decode cc pc = .ok (.putfield idx, 3)) (kk : ∀ (H1 : Heap) (locs1 : List Loc), XI D ad G ids A H0 H1 locs1 (upr σ 30 (ups (σ 30) 0 z)) → W p l e R s m args below meth c H1 locs1 cells slots Q (F0 m (pc + 3) ls rest)) : W p l e R s m args below meth c H locs cells slots Q (F0 m pc ls (.int (iI z) :: .ref (ad (21)) :: rest)) := x_put C hM hk (cx_21 ad G σ) (Rn := RX9) (T := TX9) (N := 3) rfl inWX9 tyX9 tyX9_ok nmX9 2 (by decide) hw rfl (ty := .int) (by decide +kernel) rfl rfl (Nat.le_of_ble_eq_true rfl) (upr σ 30 (ups (σ 30) 0 z)) rfl (oth_1 ad G σ _ rfl (by decide)) hdg kk
theorem g_X10_0 (C : Cx p s m meth c args cc nL own' D G) (hM : XI D ad G ids A H0 H locs σ) (hk : 10 ∈ ids) {idx : Nat} (hw : Cond.fieldLink own' idx "KindlingTree$Valuer" "board" "LKindlingTree$Board;" ∈ WA) (hdg : decode cc pc = .ok (.getfield idx, 3)) (kk : W p l e R s m args below meth c H locs cells slots Q (F0 m (pc + 3) ls (.ref (ad 1) :: rest))) : W p l e R s m args below meth c H locs cells slots Q (F0 m pc ls (.ref (ad (10)) :: rest)) := x_get C hM hk (cx_10 ad G σ) (Rn := RX10) (T := TX10) (N := 3) rfl inWX10 0 (by decide) hw rfl hdg kk
theorem g_X10_1 (C : Cx p s m meth c args cc nL own' D G) (hM : XI D ad G ids A H0 H locs σ) (hk : 10 ∈ ids) {idx : Nat} (hw : Cond.fieldLink own' idx "KindlingTree$Valuer" "levels" "LKindlingTree$Levels;" ∈ WA) (hdg : decode cc pc = .ok (.getfield idx, 3)) (kk : W p l e R s m args below meth c H locs cells slots Q (F0 m (pc + 3) ls (.ref (ad 24) :: rest))) : W p l e R s m args below meth c H locs cells slots Q (F0 m pc ls (.ref (ad (10)) :: rest)) := x_get C hM hk (cx_10 ad G σ) (Rn := RX10) (T := TX10) (N := 3) rfl inWX10 1 (by decide) hw rfl hdg kk
theorem g_X10_2 (C : Cx p s m meth c args cc nL own' D G) (hM : XI D ad G ids A H0 H locs σ) (hk : 10 ∈ ids) {idx : Nat} (hw : Cond.fieldLink own' idx "KindlingTree$Valuer" "quiet" "LKindlingTree$Quiet;" ∈ WA) (hdg : decode cc pc = .ok (.getfield idx, 3)) (kk : W p l e R s m args below meth c H locs cells slots Q (F0 m (pc + 3) ls (.ref (ad 11) :: rest))) : W p l e R s m args below meth c H locs cells slots Q (F0 m pc ls (.ref (ad (10)) :: rest)) := x_get C hM hk (cx_10 ad G σ) (Rn := RX10) (T := TX10) (N := 3) rfl inWX10 2 (by decide) hw rfl hdg kk
theorem g_X11_0 (C : Cx p s m meth c args cc nL own' D G) (hM : XI D ad G ids A H0 H locs σ) (hk : 0 ∈ ids) {idx : Nat} (hw : Cond.fieldLink own' idx "KindlingTree" "board" "LKindlingTree$Board;" ∈ WA) (hdg : decode cc pc = .ok (.getfield idx, 3)) (kk : W p l e R s m args below meth c H locs cells slots Q (F0 m (pc + 3) ls (.ref (ad 1) :: rest))) : W p l e R s m args below meth c H locs cells slots Q (F0 m pc ls (.ref (ad (0)) :: rest)) := x_get C hM hk (cx_0 ad G σ) (Rn := RX11) (T := TX11) (N := 8) rfl inWX11 0 (by decide) hw rfl hdg kk
theorem g_X11_1 (C : Cx p s m meth c args cc nL own' D G) (hM : XI D ad G ids A H0 H locs σ) (hk : 0 ∈ ids) {idx : Nat} (hw : Cond.fieldLink own' idx "KindlingTree" "here" "LKindlingTree$MoveList;" ∈ WA) (hdg : decode cc pc = .ok (.getfield idx, 3)) (kk : W p l e R s m args below meth c H locs cells slots Q (F0 m (pc + 3) ls (.ref (ad 26) :: rest))) : W p l e R s m args below meth c H locs cells slots Q (F0 m pc ls (.ref (ad (0)) :: rest)) := x_get C hM hk (cx_0 ad G σ) (Rn := RX11) (T := TX11) (N := 8) rfl inWX11 1 (by decide) hw rfl hdg kk
theorem g_X11_2 (C : Cx p s m meth c args cc nL own' D G) (hM : XI D ad G ids A H0 H locs σ) (hk : 0 ∈ ids) {idx : Nat} (hw : Cond.fieldLink own' idx "KindlingTree" "trail" "LKindlingTree$Trail;" ∈ WA) (hdg : decode cc pc = .ok (.getfield idx, 3)) (kk : W p l e R s m args below meth c H locs cells slots Q (F0 m (pc + 3) ls (.ref (ad 21) :: rest))) : W p l e R s m args below meth c H locs cells slots Q (F0 m pc ls (.ref (ad (0)) :: rest)) := x_get C hM hk (cx_0 ad G σ) (Rn := RX11) (T := TX11) (N := 8) rfl inWX11 2 (by decide) hw rfl hdg kk
theorem g_X11_3 (C : Cx p s m meth c args cc nL own' D G) (hM : XI D ad G ids A H0 H locs σ) (hk : 0 ∈ ids) {idx : Nat} (hw : Cond.fieldLink own' idx "KindlingTree" "judge" "LKindlingTree$Judge;" ∈ WA) (hdg : decode cc pc = .ok (.getfield idx, 3)) (kk : W p l e R s m args below meth c H locs cells slots Q (F0 m (pc + 3) ls (.ref (ad 3) :: rest))) : W p l e R s m args below meth c H locs cells slots Q (F0 m pc ls (.ref (ad (0)) :: rest)) := x_get C hM hk (cx_0 ad G σ) (Rn := RX11) (T := TX11) (N := 8) rfl inWX11 3 (by decide) hw rfl hdg kk
theorem g_X11_4 (C : Cx p s m meth c args cc nL own' D G) (hM : XI D ad G ids A H0 H locs σ) (hk : 0 ∈ ids) {idx : Nat} (hw : Cond.fieldLink own' idx "KindlingTree" "table" "LKindlingTree$Table;" ∈ WA) (hdg : decode cc pc = .ok (.getfield idx, 3)) (kk : W p l e R s m args below meth c H locs cells slots Q (F0 m (pc + 3) ls (.ref (ad 4) :: rest))) : W p l e R s m args below meth c H locs cells slots Q (F0 m pc ls (.ref (ad (0)) :: rest)) := x_get C hM hk (cx_0 ad G σ) (Rn := RX11) (T := TX11) (N := 8) rfl inWX11 4 (by decide) hw rfl hdg kk
theorem g_X11_5 (C : Cx p s m meth c args cc nL own' D G) (hM : XI D ad G ids A H0 H locs σ) (hk : 0 ∈ ids) {idx : Nat} (hw : Cond.fieldLink own' idx "KindlingTree" "valuer" "LKindlingTree$Valuer;" ∈ WA) (hdg : decode cc pc = .ok (.getfield idx, 3)) (kk : W p l e R s m args below meth c H locs cells slots Q (F0 m (pc + 3) ls (.ref (ad 10) :: rest))) : W p l e R s m args below meth c H locs cells slots Q (F0 m pc ls (.ref (ad (0)) :: rest)) := x_get C hM hk (cx_0 ad G σ) (Rn := RX11) (T := TX11) (N := 8) rfl inWX11 5 (by decide) hw rfl hdg kk
theorem g_X11_6 (C : Cx p s m meth c args cc nL own' D G) (hM : XI D ad G ids A H0 H locs σ) (hk : 0 ∈ ids) {idx : Nat} (hw : Cond.fieldLink own' idx "KindlingTree" "seeker" "LKindlingTree$Seeker;" ∈ WA) (hdg : decode cc pc = .ok (.getfield idx, 3)) (kk : W p l e R s m args below meth c H locs cells slots Q (F0 m (pc + 3) ls (.ref (ad 13) :: rest))) : W p l e R s m args below meth c H locs cells slots Q (F0 m pc ls (.ref (ad (0)) :: rest)) := x_get C hM hk (cx_0 ad G σ) (Rn := RX11) (T := TX11) (N := 8) rfl inWX11 6 (by decide) hw rfl hdg kk
theorem g_X11_7 (C : Cx p s m meth c args cc nL own' D G) (hM : XI D ad G ids A H0 H locs σ) (hk : 0 ∈ ids) {idx : Nat} (hw : Cond.fieldLink own' idx "KindlingTree" "book" "LKindlingTree$Book;" ∈ WA) (hdg : decode cc pc = .ok (.getfield idx, 3)) (kk : W p l e R s m args below meth c H locs cells slots Q (F0 m (pc + 3) ls (.ref (ad 17) :: rest))) : W p l e R s m args below meth c H locs cells slots Q (F0 m pc ls (.ref (ad (0)) :: rest)) := x_get C hM hk (cx_0 ad G σ) (Rn := RX11) (T := TX11) (N := 8) rfl inWX11 7 (by decide) hw rfl hdg kk
theorem g_X12_0 (C : Cx p s m meth c args cc nL own' D G) (hM : XI D ad G ids A H0 H locs σ) (hk : 100 ∈ ids) {idx : Nat} (hw : Cond.fieldLink own' idx "KindlingTreeModel" "thrown" "I" ∈ WA) (hdg : decode cc pc = .ok (.getfield idx, 3)) (kk : W p l e R s m args below meth c H locs cells slots Q (F0 m (pc + 3) ls (.int (iI (σ 232 0)) :: rest))) : W p l e R s m args below meth c H locs cells slots Q (F0 m pc ls (.ref (ad (100)) :: rest)) := x_get C hM hk (cx_100 ad G σ) (Rn := RX12) (T := TX12) (N := 26) rfl inWX12 0 (by decide) hw rfl hdg kk
theorem p_X12_0 (C : Cx p s m meth c args cc nL own' D G) (hM : XI D ad G ids A H0 H locs σ) (hk : 100 ∈ ids) {idx : Nat} (hw : Cond.fieldLink own' idx "KindlingTreeModel" "thrown" "I" ∈ WA) {z : Int} (hdg : decode cc pc = .ok (.putfield idx, 3)) (kk : ∀ (H1 : Heap) (locs1 : List Loc), XI D ad G ids A H0 H1 locs1 (upr σ 232 (ups (σ 232) 0 z)) → W p l e R s m args below meth c H1 locs1 cells slots Q (F0 m (pc + 3) ls rest)) : W p l e R s m args below meth c H locs cells slots Q (F0 m pc ls (.int (iI z) :: .ref (ad (100)) :: rest)) := x_put C hM hk (cx_100 ad G σ) (Rn := RX12) (T := TX12) (N := 26) rfl inWX12 tyX12 tyX12_ok nmX12 0 (by decide) hw rfl (ty := .int) (by decide +kernel) rfl rfl (Nat.le_of_ble_eq_true rfl) (upr σ 232 (ups (σ 232) 0 z)) rfl (oth_1 ad G σ _ rfl (by decide)) hdg kk
theorem g_X12_1 (C : Cx p s m meth c args cc nL own' D G) (hM : XI D ad G ids A H0 H locs σ) (hk : 100 ∈ ids) {idx : Nat} (hw : Cond.fieldLink own' idx "KindlingTreeModel" "columns" "I" ∈ WA) (hdg : decode cc pc = .ok (.getfield idx, 3)) (kk : W p l e R s m args below meth c H locs cells slots Q (F0 m (pc + 3) ls (.int (iI (σ 202 0)) :: rest))) : W p l e R s m args below meth c H locs cells slots Q (F0 m pc ls (.ref (ad (100)) :: rest)) := x_get C hM hk (cx_100 ad G σ) (Rn := RX12) (T := TX12) (N := 26) rfl inWX12 1 (by decide) hw rfl hdg kk
theorem g_X12_2 (C : Cx p s m meth c args cc nL own' D G) (hM : XI D ad G ids A H0 H locs σ) (hk : 100 ∈ ids) {idx : Nat} (hw : Cond.fieldLink own' idx "KindlingTreeModel" "rows" "I" ∈ WA) (hdg : decode cc pc = .ok (.getfield idx, 3)) (kk : W p l e R s m args below meth c H locs cells slots Q (F0 m (pc + 3) ls (.int (iI (σ 203 0)) :: rest))) : W p l e R s m args below meth c H locs cells slots Q (F0 m pc ls (.ref (ad (100)) :: rest)) := x_get C hM hk (cx_100 ad G σ) (Rn := RX12) (T := TX12) (N := 26) rfl inWX12 2 (by decide) hw rfl hdg kk
theorem g_X12_3 (C : Cx p s m meth c args cc nL own' D G) (hM : XI D ad G ids A H0 H locs σ) (hk : 100 ∈ ids) {idx : Nat} (hw : Cond.fieldLink own' idx "KindlingTreeModel" "now" "[I" ∈ WA) (hdg : decode cc pc = .ok (.getfield idx, 3)) (kk : W p l e R s m args below meth c H locs cells slots Q (F0 m (pc + 3) ls (.ref (ad 101) :: rest))) : W p l e R s m args below meth c H locs cells slots Q (F0 m pc ls (.ref (ad (100)) :: rest)) := x_get C hM hk (cx_100 ad G σ) (Rn := RX12) (T := TX12) (N := 26) rfl inWX12 3 (by decide) hw rfl hdg kk
theorem g_X12_4 (C : Cx p s m meth c args cc nL own' D G) (hM : XI D ad G ids A H0 H locs σ) (hk : 100 ∈ ids) {idx : Nat} (hw : Cond.fieldLink own' idx "KindlingTreeModel" "gone" "[I" ∈ WA) (hdg : decode cc pc = .ok (.getfield idx, 3)) (kk : W p l e R s m args below meth c H locs cells slots Q (F0 m (pc + 3) ls (.ref (ad 102) :: rest))) : W p l e R s m args below meth c H locs cells slots Q (F0 m pc ls (.ref (ad (100)) :: rest)) := x_get C hM hk (cx_100 ad G σ) (Rn := RX12) (T := TX12) (N := 26) rfl inWX12 4 (by decide) hw rfl hdg kk
theorem g_X12_5 (C : Cx p s m meth c args cc nL own' D G) (hM : XI D ad G ids A H0 H locs σ) (hk : 100 ∈ ids) {idx : Nat} (hw : Cond.fieldLink own' idx "KindlingTreeModel" "played" "I" ∈ WA) (hdg : decode cc pc = .ok (.getfield idx, 3)) (kk : W p l e R s m args below meth c H locs cells slots Q (F0 m (pc + 3) ls (.int (iI (σ 230 0)) :: rest))) : W p l e R s m args below meth c H locs cells slots Q (F0 m pc ls (.ref (ad (100)) :: rest)) := x_get C hM hk (cx_100 ad G σ) (Rn := RX12) (T := TX12) (N := 26) rfl inWX12 5 (by decide) hw rfl hdg kk
theorem p_X12_5 (C : Cx p s m meth c args cc nL own' D G) (hM : XI D ad G ids A H0 H locs σ) (hk : 100 ∈ ids) {idx : Nat} (hw : Cond.fieldLink own' idx "KindlingTreeModel" "played" "I" ∈ WA) {z : Int} (hdg : decode cc pc = .ok (.putfield idx, 3)) (kk : ∀ (H1 : Heap) (locs1 : List Loc), XI D ad G ids A H0 H1 locs1 (upr σ 230 (ups (σ 230) 0 z)) → W p l e R s m args below meth c H1 locs1 cells slots Q (F0 m (pc + 3) ls rest)) : W p l e R s m args below meth c H locs cells slots Q (F0 m pc ls (.int (iI z) :: .ref (ad (100)) :: rest)) := x_put C hM hk (cx_100 ad G σ) (Rn := RX12) (T := TX12) (N := 26) rfl inWX12 tyX12 tyX12_ok nmX12 5 (by decide) hw rfl (ty := .int) (by decide +kernel) rfl rfl (Nat.le_of_ble_eq_true rfl) (upr σ 230 (ups (σ 230) 0 z)) rfl (oth_1 ad G σ _ rfl (by decide)) hdg kk
theorem g_X12_6 (C : Cx p s m meth c args cc nL own' D G) (hM : XI D ad G ids A H0 H locs σ) (hk : 100 ∈ ids) {idx : Nat} (hw : Cond.fieldLink own' idx "KindlingTreeModel" "perPawn" "I" ∈ WA) (hdg : decode cc pc = .ok (.getfield idx, 3)) (kk : W p l e R s m args below meth c H locs cells slots Q (F0 m (pc + 3) ls (.int (iI (σ 205 0)) :: rest))) : W p l e R s m args below meth c H locs cells slots Q (F0 m pc ls (.ref (ad (100)) :: rest)) := x_get C hM hk (cx_100 ad G σ) (Rn := RX12) (T := TX12) (N := 26) rfl inWX12 6 (by decide) hw rfl hdg kk
theorem p_X12_6 (C : Cx p s m meth c args cc nL own' D G) (hM : XI D ad G ids A H0 H locs σ) (hk : 100 ∈ ids) {idx : Nat} (hw : Cond.fieldLink own' idx "KindlingTreeModel" "perPawn" "I" ∈ WA) {z : Int} (hdg : decode cc pc = .ok (.putfield idx, 3)) (kk : ∀ (H1 : Heap) (locs1 : List Loc), XI D ad G ids A H0 H1 locs1 (upr σ 205 (ups (σ 205) 0 z)) → W p l e R s m args below meth c H1 locs1 cells slots Q (F0 m (pc + 3) ls rest)) : W p l e R s m args below meth c H locs cells slots Q (F0 m pc ls (.int (iI z) :: .ref (ad (100)) :: rest)) := x_put C hM hk (cx_100 ad G σ) (Rn := RX12) (T := TX12) (N := 26) rfl inWX12 tyX12 tyX12_ok nmX12 6 (by decide) hw rfl (ty := .int) (by decide +kernel) rfl rfl (Nat.le_of_ble_eq_true rfl) (upr σ 205 (ups (σ 205) 0 z)) rfl (oth_1 ad G σ _ rfl (by decide)) hdg kk
theorem g_X12_7 (C : Cx p s m meth c args cc nL own' D G) (hM : XI D ad G ids A H0 H locs σ) (hk : 100 ∈ ids) {idx : Nat} (hw : Cond.fieldLink own' idx "KindlingTreeModel" "perRow" "I" ∈ WA) (hdg : decode cc pc = .ok (.getfield idx, 3)) (kk : W p l e R s m args below meth c H locs cells slots Q (F0 m (pc + 3) ls (.int (iI (σ 206 0)) :: rest))) : W p l e R s m args below meth c H locs cells slots Q (F0 m pc ls (.ref (ad (100)) :: rest)) := x_get C hM hk (cx_100 ad G σ) (Rn := RX12) (T := TX12) (N := 26) rfl inWX12 7 (by decide) hw rfl hdg kk
theorem p_X12_7 (C : Cx p s m meth c args cc nL own' D G) (hM : XI D ad G ids A H0 H locs σ) (hk : 100 ∈ ids) {idx : Nat} (hw : Cond.fieldLink own' idx "KindlingTreeModel" "perRow" "I" ∈ WA) {z : Int} (hdg : decode cc pc = .ok (.putfield idx, 3)) (kk : ∀ (H1 : Heap) (locs1 : List Loc), XI D ad G ids A H0 H1 locs1 (upr σ 206 (ups (σ 206) 0 z)) → W p l e R s m args below meth c H1 locs1 cells slots Q (F0 m (pc + 3) ls rest)) : W p l e R s m args below meth c H locs cells slots Q (F0 m pc ls (.int (iI z) :: .ref (ad (100)) :: rest)) := x_put C hM hk (cx_100 ad G σ) (Rn := RX12) (T := TX12) (N := 26) rfl inWX12 tyX12 tyX12_ok nmX12 7 (by decide) hw rfl (ty := .int) (by decide +kernel) rfl rfl (Nat.le_of_ble_eq_true rfl) (upr σ 206 (ups (σ 206) 0 z)) rfl (oth_1 ad G σ _ rfl (by decide)) hdg kk
theorem g_X12_8 (C : Cx p s m meth c args cc nL own' D G) (hM : XI D ad G ids A H0 H locs σ) (hk : 100 ∈ ids) {idx : Nat} (hw : Cond.fieldLink own' idx "KindlingTreeModel" "perStep" "I" ∈ WA) (hdg : decode cc pc = .ok (.getfield idx, 3)) (kk : W p l e R s m args below meth c H locs cells slots Q (F0 m (pc + 3) ls (.int (iI (σ 207 0)) :: rest))) : W p l e R s m args below meth c H locs cells slots Q (F0 m pc ls (.ref (ad (100)) :: rest)) := x_get C hM hk (cx_100 ad G σ) (Rn := RX12) (T := TX12) (N := 26) rfl inWX12 8 (by decide) hw rfl hdg kk
theorem p_X12_8 (C : Cx p s m meth c args cc nL own' D G) (hM : XI D ad G ids A H0 H locs σ) (hk : 100 ∈ ids) {idx : Nat} (hw : Cond.fieldLink own' idx "KindlingTreeModel" "perStep" "I" ∈ WA) {z : Int} (hdg : decode cc pc = .ok (.putfield idx, 3)) (kk : ∀ (H1 : Heap) (locs1 : List Loc), XI D ad G ids A H0 H1 locs1 (upr σ 207 (ups (σ 207) 0 z)) → W p l e R s m args below meth c H1 locs1 cells slots Q (F0 m (pc + 3) ls rest)) : W p l e R s m args below meth c H locs cells slots Q (F0 m pc ls (.int (iI z) :: .ref (ad (100)) :: rest)) := x_put C hM hk (cx_100 ad G σ) (Rn := RX12) (T := TX12) (N := 26) rfl inWX12 tyX12 tyX12_ok nmX12 8 (by decide) hw rfl (ty := .int) (by decide +kernel) rfl rfl (Nat.le_of_ble_eq_true rfl) (upr σ 207 (ups (σ 207) 0 z)) rfl (oth_1 ad G σ _ rfl (by decide)) hdg kk
theorem g_X12_9 (C : Cx p s m meth c args cc nL own' D G) (hM : XI D ad G ids A H0 H locs σ) (hk : 100 ∈ ids) {idx : Nat} (hw : Cond.fieldLink own' idx "KindlingTreeModel" "isQuiet" "Z" ∈ WA) (hdg : decode cc pc = .ok (.getfield idx, 3)) (kk : W p l e R s m args below meth c H locs cells slots Q (F0 m (pc + 3) ls (.int (iI (σ 208 0)) :: rest))) : W p l e R s m args below meth c H locs cells slots Q (F0 m pc ls (.ref (ad (100)) :: rest)) := x_get C hM hk (cx_100 ad G σ) (Rn := RX12) (T := TX12) (N := 26) rfl inWX12 9 (by decide) hw rfl hdg kk
theorem p_X12_9 (C : Cx p s m meth c args cc nL own' D G) (hM : XI D ad G ids A H0 H locs σ) (hk : 100 ∈ ids) {idx : Nat} (hw : Cond.fieldLink own' idx "KindlingTreeModel" "isQuiet" "Z" ∈ WA) {z : Int} (hz : z = 0 ∨ z = 1) (hdg : decode cc pc = .ok (.putfield idx, 3)) (kk : ∀ (H1 : Heap) (locs1 : List Loc), XI D ad G ids A H0 H1 locs1 (upr σ 208 (ups (σ 208) 0 z)) → W p l e R s m args below meth c H1 locs1 cells slots Q (F0 m (pc + 3) ls rest)) : W p l e R s m args below meth c H locs cells slots Q (F0 m pc ls (.int (iI z) :: .ref (ad (100)) :: rest)) := x_put C hM hk (cx_100 ad G σ) (Rn := RX12) (T := TX12) (N := 26) rfl inWX12 tyX12 tyX12_ok nmX12 9 (by decide) hw rfl (ty := .boolean) (by decide +kernel) (nar_z hz) (by rcases hz with rfl | rfl <;> rfl) (Nat.le_of_ble_eq_true rfl) (upr σ 208 (ups (σ 208) 0 z)) rfl (oth_1 ad G σ _ rfl (by decide)) hdg kk
theorem g_X12_10 (C : Cx p s m meth c args cc nL own' D G) (hM : XI D ad G ids A H0 H locs σ) (hk : 100 ∈ ids) {idx : Nat} (hw : Cond.fieldLink own' idx "KindlingTreeModel" "listed" "[[I" ∈ WA) (hdg : decode cc pc = .ok (.getfield idx, 3)) (kk : W p l e R s m args below meth c H locs cells slots Q (F0 m (pc + 3) ls (.ref (ad 103) :: rest))) : W p l e R s m args below meth c H locs cells slots Q (F0 m pc ls (.ref (ad (100)) :: rest)) := x_get C hM hk (cx_100 ad G σ) (Rn := RX12) (T := TX12) (N := 26) rfl inWX12 10 (by decide) hw rfl hdg kk
theorem g_X12_11 (C : Cx p s m meth c args cc nL own' D G) (hM : XI D ad G ids A H0 H locs σ) (hk : 100 ∈ ids) {idx : Nat} (hw : Cond.fieldLink own' idx "KindlingTreeModel" "slots" "I" ∈ WA) (hdg : decode cc pc = .ok (.getfield idx, 3)) (kk : W p l e R s m args below meth c H locs cells slots Q (F0 m (pc + 3) ls (.int (iI (σ 209 0)) :: rest))) : W p l e R s m args below meth c H locs cells slots Q (F0 m pc ls (.ref (ad (100)) :: rest)) := x_get C hM hk (cx_100 ad G σ) (Rn := RX12) (T := TX12) (N := 26) rfl inWX12 11 (by decide) hw rfl hdg kk
theorem p_X12_11 (C : Cx p s m meth c args cc nL own' D G) (hM : XI D ad G ids A H0 H locs σ) (hk : 100 ∈ ids) {idx : Nat} (hw : Cond.fieldLink own' idx "KindlingTreeModel" "slots" "I" ∈ WA) {z : Int} (hdg : decode cc pc = .ok (.putfield idx, 3)) (kk : ∀ (H1 : Heap) (locs1 : List Loc), XI D ad G ids A H0 H1 locs1 (upr σ 209 (ups (σ 209) 0 z)) → W p l e R s m args below meth c H1 locs1 cells slots Q (F0 m (pc + 3) ls rest)) : W p l e R s m args below meth c H locs cells slots Q (F0 m pc ls (.int (iI z) :: .ref (ad (100)) :: rest)) := x_put C hM hk (cx_100 ad G σ) (Rn := RX12) (T := TX12) (N := 26) rfl inWX12 tyX12 tyX12_ok nmX12 11 (by decide) hw rfl (ty := .int) (by decide +kernel) rfl rfl (Nat.le_of_ble_eq_true rfl) (upr σ 209 (ups (σ 209) 0 z)) rfl (oth_1 ad G σ _ rfl (by decide)) hdg kk
theorem g_X12_12 (C : Cx p s m meth c args cc nL own' D G) (hM : XI D ad G ids A H0 H locs σ) (hk : 100 ∈ ids) {idx : Nat} (hw : Cond.fieldLink own' idx "KindlingTreeModel" "slotKey" "[J" ∈ WA) (hdg : decode cc pc = .ok (.getfield idx, 3)) (kk : W p l e R s m args below meth c H locs cells slots Q (F0 m (pc + 3) ls (.ref (ad 116) :: rest))) : W p l e R s m args below meth c H locs cells slots Q (F0 m pc ls (.ref (ad (100)) :: rest)) := x_get C hM hk (cx_100 ad G σ) (Rn := RX12) (T := TX12) (N := 26) rfl inWX12 12 (by decide) hw rfl hdg kk
theorem g_X12_13 (C : Cx p s m meth c args cc nL own' D G) (hM : XI D ad G ids A H0 H locs σ) (hk : 100 ∈ ids) {idx : Nat} (hw : Cond.fieldLink own' idx "KindlingTreeModel" "slot" "[[I" ∈ WA) (hdg : decode cc pc = .ok (.getfield idx, 3)) (kk : W p l e R s m args below meth c H locs cells slots Q (F0 m (pc + 3) ls (.ref (ad 117) :: rest))) : W p l e R s m args below meth c H locs cells slots Q (F0 m pc ls (.ref (ad (100)) :: rest)) := x_get C hM hk (cx_100 ad G σ) (Rn := RX12) (T := TX12) (N := 26) rfl inWX12 13 (by decide) hw rfl hdg kk
theorem g_X12_14 (C : Cx p s m meth c args cc nL own' D G) (hM : XI D ad G ids A H0 H locs σ) (hk : 100 ∈ ids) {idx : Nat} (hw : Cond.fieldLink own' idx "KindlingTreeModel" "tried" "[[I" ∈ WA) (hdg : decode cc pc = .ok (.getfield idx, 3)) (kk : W p l e R s m args below meth c H locs cells slots Q (F0 m (pc + 3) ls (.ref (ad 182) :: rest))) : W p l e R s m args below meth c H locs cells slots Q (F0 m pc ls (.ref (ad (100)) :: rest)) := x_get C hM hk (cx_100 ad G σ) (Rn := RX12) (T := TX12) (N := 26) rfl inWX12 14 (by decide) hw rfl hdg kk
theorem g_X12_15 (C : Cx p s m meth c args cc nL own' D G) (hM : XI D ad G ids A H0 H locs σ) (hk : 100 ∈ ids) {idx : Nat} (hw : Cond.fieldLink own' idx "KindlingTreeModel" "killer" "[[I" ∈ WA) (hdg : decode cc pc = .ok (.getfield idx, 3)) (kk : W p l e R s m args below meth c H locs cells slots Q (F0 m (pc + 3) ls (.ref (ad 195) :: rest))) : W p l e R s m args below meth c H locs cells slots Q (F0 m pc ls (.ref (ad (100)) :: rest)) := x_get C hM hk (cx_100 ad G σ) (Rn := RX12) (T := TX12) (N := 26) rfl inWX12 15 (by decide) hw rfl hdg kk
theorem g_X12_16 (C : Cx p s m meth c args cc nL own' D G) (hM : XI D ad G ids A H0 H locs σ) (hk : 100 ∈ ids) {idx : Nat} (hw : Cond.fieldLink own' idx "KindlingTreeModel" "nodes" "I" ∈ WA) (hdg : decode cc pc = .ok (.getfield idx, 3)) (kk : W p l e R s m args below meth c H locs cells slots Q (F0 m (pc + 3) ls (.int (iI (σ 221 0)) :: rest))) : W p l e R s m args below meth c H locs cells slots Q (F0 m pc ls (.ref (ad (100)) :: rest)) := x_get C hM hk (cx_100 ad G σ) (Rn := RX12) (T := TX12) (N := 26) rfl inWX12 16 (by decide) hw rfl hdg kk
theorem p_X12_16 (C : Cx p s m meth c args cc nL own' D G) (hM : XI D ad G ids A H0 H locs σ) (hk : 100 ∈ ids) {idx : Nat} (hw : Cond.fieldLink own' idx "KindlingTreeModel" "nodes" "I" ∈ WA) {z : Int} (hdg : decode cc pc = .ok (.putfield idx, 3)) (kk : ∀ (H1 : Heap) (locs1 : List Loc), XI D ad G ids A H0 H1 locs1 (upr σ 221 (ups (σ 221) 0 z)) → W p l e R s m args below meth c H1 locs1 cells slots Q (F0 m (pc + 3) ls rest)) : W p l e R s m args below meth c H locs cells slots Q (F0 m pc ls (.int (iI z) :: .ref (ad (100)) :: rest)) := x_put C hM hk (cx_100 ad G σ) (Rn := RX12) (T := TX12) (N := 26) rfl inWX12 tyX12 tyX12_ok nmX12 16 (by decide) hw rfl (ty := .int) (by decide +kernel) rfl rfl (Nat.le_of_ble_eq_true rfl) (upr σ 221 (ups (σ 221) 0 z)) rfl (oth_1 ad G σ _ rfl (by decide)) hdg kk
theorem g_X12_17 (C : Cx p s m meth c args cc nL own' D G) (hM : XI D ad G ids A H0 H locs σ) (hk : 100 ∈ ids) {idx : Nat} (hw : Cond.fieldLink own' idx "KindlingTreeModel" "hits" "I" ∈ WA) (hdg : decode cc pc = .ok (.getfield idx, 3)) (kk : W p l e R s m args below meth c H locs cells slots Q (F0 m (pc + 3) ls (.int (iI (σ 222 0)) :: rest))) : W p l e R s m args below meth c H locs cells slots Q (F0 m pc ls (.ref (ad (100)) :: rest)) := x_get C hM hk (cx_100 ad G σ) (Rn := RX12) (T := TX12) (N := 26) rfl inWX12 17 (by decide) hw rfl hdg kk
theorem p_X12_17 (C : Cx p s m meth c args cc nL own' D G) (hM : XI D ad G ids A H0 H locs σ) (hk : 100 ∈ ids) {idx : Nat} (hw : Cond.fieldLink own' idx "KindlingTreeModel" "hits" "I" ∈ WA) {z : Int} (hdg : decode cc pc = .ok (.putfield idx, 3)) (kk : ∀ (H1 : Heap) (locs1 : List Loc), XI D ad G ids A H0 H1 locs1 (upr σ 222 (ups (σ 222) 0 z)) → W p l e R s m args below meth c H1 locs1 cells slots Q (F0 m (pc + 3) ls rest)) : W p l e R s m args below meth c H locs cells slots Q (F0 m pc ls (.int (iI z) :: .ref (ad (100)) :: rest)) := x_put C hM hk (cx_100 ad G σ) (Rn := RX12) (T := TX12) (N := 26) rfl inWX12 tyX12 tyX12_ok nmX12 17 (by decide) hw rfl (ty := .int) (by decide +kernel) rfl rfl (Nat.le_of_ble_eq_true rfl) (upr σ 222 (ups (σ 222) 0 z)) rfl (oth_1 ad G σ _ rfl (by decide)) hdg kk
theorem g_X12_18 (C : Cx p s m meth c args cc nL own' D G) (hM : XI D ad G ids A H0 H locs σ) (hk : 100 ∈ ids) {idx : Nat} (hw : Cond.fieldLink own' idx "KindlingTreeModel" "cuts" "I" ∈ WA) (hdg : decode cc pc = .ok (.getfield idx, 3)) (kk : W p l e R s m args below meth c H locs cells slots Q (F0 m (pc + 3) ls (.int (iI (σ 223 0)) :: rest))) : W p l e R s m args below meth c H locs cells slots Q (F0 m pc ls (.ref (ad (100)) :: rest)) := x_get C hM hk (cx_100 ad G σ) (Rn := RX12) (T := TX12) (N := 26) rfl inWX12 18 (by decide) hw rfl hdg kk
theorem p_X12_18 (C : Cx p s m meth c args cc nL own' D G) (hM : XI D ad G ids A H0 H locs σ) (hk : 100 ∈ ids) {idx : Nat} (hw : Cond.fieldLink own' idx "KindlingTreeModel" "cuts" "I" ∈ WA) {z : Int} (hdg : decode cc pc = .ok (.putfield idx, 3)) (kk : ∀ (H1 : Heap) (locs1 : List Loc), XI D ad G ids A H0 H1 locs1 (upr σ 223 (ups (σ 223) 0 z)) → W p l e R s m args below meth c H1 locs1 cells slots Q (F0 m (pc + 3) ls rest)) : W p l e R s m args below meth c H locs cells slots Q (F0 m pc ls (.int (iI z) :: .ref (ad (100)) :: rest)) := x_put C hM hk (cx_100 ad G σ) (Rn := RX12) (T := TX12) (N := 26) rfl inWX12 tyX12 tyX12_ok nmX12 18 (by decide) hw rfl (ty := .int) (by decide +kernel) rfl rfl (Nat.le_of_ble_eq_true rfl) (upr σ 223 (ups (σ 223) 0 z)) rfl (oth_1 ad G σ _ rfl (by decide)) hdg kk
theorem g_X12_19 (C : Cx p s m meth c args cc nL own' D G) (hM : XI D ad G ids A H0 H locs σ) (hk : 100 ∈ ids) {idx : Nat} (hw : Cond.fieldLink own' idx "KindlingTreeModel" "reached" "I" ∈ WA) (hdg : decode cc pc = .ok (.getfield idx, 3)) (kk : W p l e R s m args below meth c H locs cells slots Q (F0 m (pc + 3) ls (.int (iI (σ 220 0)) :: rest))) : W p l e R s m args below meth c H locs cells slots Q (F0 m pc ls (.ref (ad (100)) :: rest)) := x_get C hM hk (cx_100 ad G σ) (Rn := RX12) (T := TX12) (N := 26) rfl inWX12 19 (by decide) hw rfl hdg kk
theorem p_X12_19 (C : Cx p s m meth c args cc nL own' D G) (hM : XI D ad G ids A H0 H locs σ) (hk : 100 ∈ ids) {idx : Nat} (hw : Cond.fieldLink own' idx "KindlingTreeModel" "reached" "I" ∈ WA) {z : Int} (hdg : decode cc pc = .ok (.putfield idx, 3)) (kk : ∀ (H1 : Heap) (locs1 : List Loc), XI D ad G ids A H0 H1 locs1 (upr σ 220 (ups (σ 220) 0 z)) → W p l e R s m args below meth c H1 locs1 cells slots Q (F0 m (pc + 3) ls rest)) : W p l e R s m args below meth c H locs cells slots Q (F0 m pc ls (.int (iI z) :: .ref (ad (100)) :: rest)) := x_put C hM hk (cx_100 ad G σ) (Rn := RX12) (T := TX12) (N := 26) rfl inWX12 tyX12 tyX12_ok nmX12 19 (by decide) hw rfl (ty := .int) (by decide +kernel) rfl rfl (Nat.le_of_ble_eq_true rfl) (upr σ 220 (ups (σ 220) 0 z)) rfl (oth_1 ad G σ _ rfl (by decide)) hdg kk
theorem g_X12_20 (C : Cx p s m meth c args cc nL own' D G) (hM : XI D ad G ids A H0 H locs σ) (hk : 100 ∈ ids) {idx : Nat} (hw : Cond.fieldLink own' idx "KindlingTreeModel" "best" "I" ∈ WA) (hdg : decode cc pc = .ok (.getfield idx, 3)) (kk : W p l e R s m args below meth c H locs cells slots Q (F0 m (pc + 3) ls (.int (iI (σ 219 0)) :: rest))) : W p l e R s m args below meth c H locs cells slots Q (F0 m pc ls (.ref (ad (100)) :: rest)) := x_get C hM hk (cx_100 ad G σ) (Rn := RX12) (T := TX12) (N := 26) rfl inWX12 20 (by decide) hw rfl hdg kk
theorem p_X12_20 (C : Cx p s m meth c args cc nL own' D G) (hM : XI D ad G ids A H0 H locs σ) (hk : 100 ∈ ids) {idx : Nat} (hw : Cond.fieldLink own' idx "KindlingTreeModel" "best" "I" ∈ WA) {z : Int} (hdg : decode cc pc = .ok (.putfield idx, 3)) (kk : ∀ (H1 : Heap) (locs1 : List Loc), XI D ad G ids A H0 H1 locs1 (upr σ 219 (ups (σ 219) 0 z)) → W p l e R s m args below meth c H1 locs1 cells slots Q (F0 m (pc + 3) ls rest)) : W p l e R s m args below meth c H locs cells slots Q (F0 m pc ls (.int (iI z) :: .ref (ad (100)) :: rest)) := x_put C hM hk (cx_100 ad G σ) (Rn := RX12) (T := TX12) (N := 26) rfl inWX12 tyX12 tyX12_ok nmX12 20 (by decide) hw rfl (ty := .int) (by decide +kernel) rfl rfl (Nat.le_of_ble_eq_true rfl) (upr σ 219 (ups (σ 219) 0 z)) rfl (oth_1 ad G σ _ rfl (by decide)) hdg kk
theorem g_X12_21 (C : Cx p s m meth c args cc nL own' D G) (hM : XI D ad G ids A H0 H locs σ) (hk : 100 ∈ ids) {idx : Nat} (hw : Cond.fieldLink own' idx "KindlingTreeModel" "bestMove" "I" ∈ WA) (hdg : decode cc pc = .ok (.getfield idx, 3)) (kk : W p l e R s m args below meth c H locs cells slots Q (F0 m (pc + 3) ls (.int (iI (σ 231 0)) :: rest))) : W p l e R s m args below meth c H locs cells slots Q (F0 m pc ls (.ref (ad (100)) :: rest)) := x_get C hM hk (cx_100 ad G σ) (Rn := RX12) (T := TX12) (N := 26) rfl inWX12 21 (by decide) hw rfl hdg kk
theorem p_X12_21 (C : Cx p s m meth c args cc nL own' D G) (hM : XI D ad G ids A H0 H locs σ) (hk : 100 ∈ ids) {idx : Nat} (hw : Cond.fieldLink own' idx "KindlingTreeModel" "bestMove" "I" ∈ WA) {z : Int} (hdg : decode cc pc = .ok (.putfield idx, 3)) (kk : ∀ (H1 : Heap) (locs1 : List Loc), XI D ad G ids A H0 H1 locs1 (upr σ 231 (ups (σ 231) 0 z)) → W p l e R s m args below meth c H1 locs1 cells slots Q (F0 m (pc + 3) ls rest)) : W p l e R s m args below meth c H locs cells slots Q (F0 m pc ls (.int (iI z) :: .ref (ad (100)) :: rest)) := x_put C hM hk (cx_100 ad G σ) (Rn := RX12) (T := TX12) (N := 26) rfl inWX12 tyX12 tyX12_ok nmX12 21 (by decide) hw rfl (ty := .int) (by decide +kernel) rfl rfl (Nat.le_of_ble_eq_true rfl) (upr σ 231 (ups (σ 231) 0 z)) rfl (oth_1 ad G σ _ rfl (by decide)) hdg kk
theorem g_X12_22 (C : Cx p s m meth c args cc nL own' D G) (hM : XI D ad G ids A H0 H locs σ) (hk : 100 ∈ ids) {idx : Nat} (hw : Cond.fieldLink own' idx "KindlingTreeModel" "pages" "I" ∈ WA) (hdg : decode cc pc = .ok (.getfield idx, 3)) (kk : W p l e R s m args below meth c H locs cells slots Q (F0 m (pc + 3) ls (.int (iI (σ 227 0)) :: rest))) : W p l e R s m args below meth c H locs cells slots Q (F0 m pc ls (.ref (ad (100)) :: rest)) := x_get C hM hk (cx_100 ad G σ) (Rn := RX12) (T := TX12) (N := 26) rfl inWX12 22 (by decide) hw rfl hdg kk
theorem p_X12_22 (C : Cx p s m meth c args cc nL own' D G) (hM : XI D ad G ids A H0 H locs σ) (hk : 100 ∈ ids) {idx : Nat} (hw : Cond.fieldLink own' idx "KindlingTreeModel" "pages" "I" ∈ WA) {z : Int} (hdg : decode cc pc = .ok (.putfield idx, 3)) (kk : ∀ (H1 : Heap) (locs1 : List Loc), XI D ad G ids A H0 H1 locs1 (upr σ 227 (ups (σ 227) 0 z)) → W p l e R s m args below meth c H1 locs1 cells slots Q (F0 m (pc + 3) ls rest)) : W p l e R s m args below meth c H locs cells slots Q (F0 m pc ls (.int (iI z) :: .ref (ad (100)) :: rest)) := x_put C hM hk (cx_100 ad G σ) (Rn := RX12) (T := TX12) (N := 26) rfl inWX12 tyX12 tyX12_ok nmX12 22 (by decide) hw rfl (ty := .int) (by decide +kernel) rfl rfl (Nat.le_of_ble_eq_true rfl) (upr σ 227 (ups (σ 227) 0 z)) rfl (oth_1 ad G σ _ rfl (by decide)) hdg kk
theorem g_X12_23 (C : Cx p s m meth c args cc nL own' D G) (hM : XI D ad G ids A H0 H locs σ) (hk : 100 ∈ ids) {idx : Nat} (hw : Cond.fieldLink own' idx "KindlingTreeModel" "pageKey" "[J" ∈ WA) (hdg : decode cc pc = .ok (.getfield idx, 3)) (kk : W p l e R s m args below meth c H locs cells slots Q (F0 m (pc + 3) ls (.ref (ad 201) :: rest))) : W p l e R s m args below meth c H locs cells slots Q (F0 m pc ls (.ref (ad (100)) :: rest)) := x_get C hM hk (cx_100 ad G σ) (Rn := RX12) (T := TX12) (N := 26) rfl inWX12 23 (by decide) hw rfl hdg kk
theorem g_X12_24 (C : Cx p s m meth c args cc nL own' D G) (hM : XI D ad G ids A H0 H locs σ) (hk : 100 ∈ ids) {idx : Nat} (hw : Cond.fieldLink own' idx "KindlingTreeModel" "page" "[[I" ∈ WA) (hdg : decode cc pc = .ok (.getfield idx, 3)) (kk : W p l e R s m args below meth c H locs cells slots Q (F0 m (pc + 3) ls (.ref (ad 202) :: rest))) : W p l e R s m args below meth c H locs cells slots Q (F0 m pc ls (.ref (ad (100)) :: rest)) := x_get C hM hk (cx_100 ad G σ) (Rn := RX12) (T := TX12) (N := 26) rfl inWX12 24 (by decide) hw rfl hdg kk
theorem g_X12_25 (C : Cx p s m meth c args cc nL own' D G) (hM : XI D ad G ids A H0 H locs σ) (hk : 100 ∈ ids) {idx : Nat} (hw : Cond.fieldLink own' idx "KindlingTreeModel" "sum" "J" ∈ WA) (hdg : decode cc pc = .ok (.getfield idx, 3)) (kk : W p l e R s m args below meth c H locs cells slots Q (F0 m (pc + 3) ls (.long (jI (σ 233 0)) :: rest))) : W p l e R s m args below meth c H locs cells slots Q (F0 m pc ls (.ref (ad (100)) :: rest)) := x_get C hM hk (cx_100 ad G σ) (Rn := RX12) (T := TX12) (N := 26) rfl inWX12 25 (by decide) hw rfl hdg kk
theorem p_X12_25 (C : Cx p s m meth c args cc nL own' D G) (hM : XI D ad G ids A H0 H locs σ) (hk : 100 ∈ ids) {idx : Nat} (hw : Cond.fieldLink own' idx "KindlingTreeModel" "sum" "J" ∈ WA) {z : Int} (hdg : decode cc pc = .ok (.putfield idx, 3)) (kk : ∀ (H1 : Heap) (locs1 : List Loc), XI D ad G ids A H0 H1 locs1 (upr σ 233 (ups (σ 233) 0 z)) → W p l e R s m args below meth c H1 locs1 cells slots Q (F0 m (pc + 3) ls rest)) : W p l e R s m args below meth c H locs cells slots Q (F0 m pc ls (.long (jI z) :: .ref (ad (100)) :: rest)) := x_put C hM hk (cx_100 ad G σ) (Rn := RX12) (T := TX12) (N := 26) rfl inWX12 tyX12 tyX12_ok nmX12 25 (by decide) hw rfl (ty := .long) (by decide +kernel) rfl rfl (Nat.le_of_ble_eq_true rfl) (upr σ 233 (ups (σ 233) 0 z)) rfl (oth_1 ad G σ _ rfl (by decide)) hdg kk
theorem al_2 (C : Cx p s m meth c args cc nL own' D G) (hM : XI D ad G ids A H0 H locs σ) (hk : 2 ∈ ids) {z : Int} (h0 : 0 ≤ z) (h1 : z < 25) (hdg : decode cc pc = .ok (.iaload, 1)) (kk : W p l e R s m args below meth c H locs cells slots Q (F0 m (pc + 1) ls (.int (iI (σ 1 z)) :: rest))) : W p l e R s m args below meth c H locs cells slots Q (F0 m pc ls (.int (iI z) :: .ref (ad (2)) :: rest)) := x_ald C hM hk (cx_2 ad G σ) h0 h1 (by decide) (fI_tn _ h0) hdg kk
theorem as_2 (C : Cx p s m meth c args cc nL own' D G) (hM : XI D ad G ids A H0 H locs σ) (hk : 2 ∈ ids) {z v : Int} (h0 : 0 ≤ z) (h1 : z < 25) (hdg : decode cc pc = .ok (.iastore, 1)) (kk : ∀ (H1 : Heap) (locs1 : List Loc), XI D ad G ids A H0 H1 locs1 (upr σ 1 (ups (σ 1) z v)) → W p l e R s m args below meth c H1 locs1 cells slots Q (F0 m (pc + 1) ls rest)) : W p l e R s m args below meth c H locs cells slots Q (F0 m pc ls (.int (iI v) :: .int (iI z) :: .ref (ad (2)) :: rest)) := x_ast C hM hk (cx_2 ad G σ) h0 h1 (by decide) (upr σ 1 (ups (σ 1) z v)) (by rw [cx_2 ad G _, upr_eq, fI_ups _ _ ⟨by omega, by omega⟩ h0]) (oth_1 ad G σ _ rfl (by decide)) hdg kk
theorem ln_2 (C : Cx p s m meth c args cc nL own' D G) (hM : XI D ad G ids A H0 H locs σ) (hk : 2 ∈ ids) (hdg : decode cc pc = .ok (.arraylength, 1)) (kk : W p l e R s m args below meth c H locs cells slots Q (F0 m (pc + 1) ls (.int (iI 25) :: rest))) : W p l e R s m args below meth c H locs cells slots Q (F0 m pc ls (.ref (ad (2)) :: rest)) := x_alen C hM hk (g := 0) (by decide) (cx_2 ad G σ) (n := 25) rfl hdg kk
theorem al_5 (C : Cx p s m meth c args cc nL own' D G) (hM : XI D ad G ids A H0 H locs σ) (hk : 5 ∈ ids) {z : Int} (h0 : 0 ≤ z) (h1 : z < 64) (hdg : decode cc pc = .ok (.laload, 1)) (kk : W p l e R s m args below meth c H locs cells slots Q (F0 m (pc + 1) ls (.long (jI (σ 10 z)) :: rest))) : W p l e R s m args below meth c H locs cells slots Q (F0 m pc ls (.int (iI z) :: .ref (ad (5)) :: rest)) := x_lald C hM hk (cx_5 ad G σ) h0 h1 (by decide) (fJ_tn _ h0) hdg kk
theorem as_5 (C : Cx p s m meth c args cc nL own' D G) (hM : XI D ad G ids A H0 H locs σ) (hk : 5 ∈ ids) {z v : Int} (h0 : 0 ≤ z) (h1 : z < 64) (hdg : decode cc pc = .ok (.lastore, 1)) (kk : ∀ (H1 : Heap) (locs1 : List Loc), XI D ad G ids A H0 H1 locs1 (upr σ 10 (ups (σ 10) z v)) → W p l e R s m args below meth c H1 locs1 cells slots Q (F0 m (pc + 1) ls rest)) : W p l e R s m args below meth c H locs cells slots Q (F0 m pc ls (.long (jI v) :: .int (iI z) :: .ref (ad (5)) :: rest)) := x_last C hM hk (cx_5 ad G σ) h0 h1 (by decide) (upr σ 10 (ups (σ 10) z v)) (by rw [cx_5 ad G _, upr_eq, fJ_ups _ _ ⟨by omega, by omega⟩ h0]) (oth_1 ad G σ _ rfl (by decide)) hdg kk
theorem ln_5 (C : Cx p s m meth c args cc nL own' D G) (hM : XI D ad G ids A H0 H locs σ) (hk : 5 ∈ ids) (hdg : decode cc pc = .ok (.arraylength, 1)) (kk : W p l e R s m args below meth c H locs cells slots Q (F0 m (pc + 1) ls (.int (iI 64) :: rest))) : W p l e R s m args below meth c H locs cells slots Q (F0 m pc ls (.ref (ad (5)) :: rest)) := x_alen C hM hk (g := 1) (by decide) (cx_5 ad G σ) (n := 64) rfl hdg kk
theorem al_6 (C : Cx p s m meth c args cc nL own' D G) (hM : XI D ad G ids A H0 H locs σ) (hk : 6 ∈ ids) {z : Int} (h0 : 0 ≤ z) (h1 : z < 64) (hdg : decode cc pc = .ok (.iaload, 1)) (kk : W p l e R s m args below meth c H locs cells slots Q (F0 m (pc + 1) ls (.int (iI (σ 11 z)) :: rest))) : W p l e R s m args below meth c H locs cells slots Q (F0 m pc ls (.int (iI z) :: .ref (ad (6)) :: rest)) := x_ald C hM hk (cx_6 ad G σ) h0 h1 (by decide) (fI_tn _ h0) hdg kk
theorem as_6 (C : Cx p s m meth c args cc nL own' D G) (hM : XI D ad G ids A H0 H locs σ) (hk : 6 ∈ ids) {z v : Int} (h0 : 0 ≤ z) (h1 : z < 64) (hdg : decode cc pc = .ok (.iastore, 1)) (kk : ∀ (H1 : Heap) (locs1 : List Loc), XI D ad G ids A H0 H1 locs1 (upr σ 11 (ups (σ 11) z v)) → W p l e R s m args below meth c H1 locs1 cells slots Q (F0 m (pc + 1) ls rest)) : W p l e R s m args below meth c H locs cells slots Q (F0 m pc ls (.int (iI v) :: .int (iI z) :: .ref (ad (6)) :: rest)) := x_ast C hM hk (cx_6 ad G σ) h0 h1 (by decide) (upr σ 11 (ups (σ 11) z v)) (by rw [cx_6 ad G _, upr_eq, fI_ups _ _ ⟨by omega, by omega⟩ h0]) (oth_1 ad G σ _ rfl (by decide)) hdg kk
theorem ln_6 (C : Cx p s m meth c args cc nL own' D G) (hM : XI D ad G ids A H0 H locs σ) (hk : 6 ∈ ids) (hdg : decode cc pc = .ok (.arraylength, 1)) (kk : W p l e R s m args below meth c H locs cells slots Q (F0 m (pc + 1) ls (.int (iI 64) :: rest))) : W p l e R s m args below meth c H locs cells slots Q (F0 m pc ls (.ref (ad (6)) :: rest)) := x_alen C hM hk (g := 0) (by decide) (cx_6 ad G σ) (n := 64) rfl hdg kk
theorem al_7 (C : Cx p s m meth c args cc nL own' D G) (hM : XI D ad G ids A H0 H locs σ) (hk : 7 ∈ ids) {z : Int} (h0 : 0 ≤ z) (h1 : z < 64) (hdg : decode cc pc = .ok (.iaload, 1)) (kk : W p l e R s m args below meth c H locs cells slots Q (F0 m (pc + 1) ls (.int (iI (σ 12 z)) :: rest))) : W p l e R s m args below meth c H locs cells slots Q (F0 m pc ls (.int (iI z) :: .ref (ad (7)) :: rest)) := x_ald C hM hk (cx_7 ad G σ) h0 h1 (by decide) (fI_tn _ h0) hdg kk
theorem as_7 (C : Cx p s m meth c args cc nL own' D G) (hM : XI D ad G ids A H0 H locs σ) (hk : 7 ∈ ids) {z v : Int} (h0 : 0 ≤ z) (h1 : z < 64) (hdg : decode cc pc = .ok (.iastore, 1)) (kk : ∀ (H1 : Heap) (locs1 : List Loc), XI D ad G ids A H0 H1 locs1 (upr σ 12 (ups (σ 12) z v)) → W p l e R s m args below meth c H1 locs1 cells slots Q (F0 m (pc + 1) ls rest)) : W p l e R s m args below meth c H locs cells slots Q (F0 m pc ls (.int (iI v) :: .int (iI z) :: .ref (ad (7)) :: rest)) := x_ast C hM hk (cx_7 ad G σ) h0 h1 (by decide) (upr σ 12 (ups (σ 12) z v)) (by rw [cx_7 ad G _, upr_eq, fI_ups _ _ ⟨by omega, by omega⟩ h0]) (oth_1 ad G σ _ rfl (by decide)) hdg kk
theorem ln_7 (C : Cx p s m meth c args cc nL own' D G) (hM : XI D ad G ids A H0 H locs σ) (hk : 7 ∈ ids) (hdg : decode cc pc = .ok (.arraylength, 1)) (kk : W p l e R s m args below meth c H locs cells slots Q (F0 m (pc + 1) ls (.int (iI 64) :: rest))) : W p l e R s m args below meth c H locs cells slots Q (F0 m pc ls (.ref (ad (7)) :: rest)) := x_alen C hM hk (g := 0) (by decide) (cx_7 ad G σ) (n := 64) rfl hdg kk
theorem al_8 (C : Cx p s m meth c args cc nL own' D G) (hM : XI D ad G ids A H0 H locs σ) (hk : 8 ∈ ids) {z : Int} (h0 : 0 ≤ z) (h1 : z < 64) (hdg : decode cc pc = .ok (.iaload, 1)) (kk : W p l e R s m args below meth c H locs cells slots Q (F0 m (pc + 1) ls (.int (iI (σ 13 z)) :: rest))) : W p l e R s m args below meth c H locs cells slots Q (F0 m pc ls (.int (iI z) :: .ref (ad (8)) :: rest)) := x_ald C hM hk (cx_8 ad G σ) h0 h1 (by decide) (fI_tn _ h0) hdg kk
theorem as_8 (C : Cx p s m meth c args cc nL own' D G) (hM : XI D ad G ids A H0 H locs σ) (hk : 8 ∈ ids) {z v : Int} (h0 : 0 ≤ z) (h1 : z < 64) (hdg : decode cc pc = .ok (.iastore, 1)) (kk : ∀ (H1 : Heap) (locs1 : List Loc), XI D ad G ids A H0 H1 locs1 (upr σ 13 (ups (σ 13) z v)) → W p l e R s m args below meth c H1 locs1 cells slots Q (F0 m (pc + 1) ls rest)) : W p l e R s m args below meth c H locs cells slots Q (F0 m pc ls (.int (iI v) :: .int (iI z) :: .ref (ad (8)) :: rest)) := x_ast C hM hk (cx_8 ad G σ) h0 h1 (by decide) (upr σ 13 (ups (σ 13) z v)) (by rw [cx_8 ad G _, upr_eq, fI_ups _ _ ⟨by omega, by omega⟩ h0]) (oth_1 ad G σ _ rfl (by decide)) hdg kk
theorem ln_8 (C : Cx p s m meth c args cc nL own' D G) (hM : XI D ad G ids A H0 H locs σ) (hk : 8 ∈ ids) (hdg : decode cc pc = .ok (.arraylength, 1)) (kk : W p l e R s m args below meth c H locs cells slots Q (F0 m (pc + 1) ls (.int (iI 64) :: rest))) : W p l e R s m args below meth c H locs cells slots Q (F0 m pc ls (.ref (ad (8)) :: rest)) := x_alen C hM hk (g := 0) (by decide) (cx_8 ad G σ) (n := 64) rfl hdg kk
theorem al_9 (C : Cx p s m meth c args cc nL own' D G) (hM : XI D ad G ids A H0 H locs σ) (hk : 9 ∈ ids) {z : Int} (h0 : 0 ≤ z) (h1 : z < 64) (hdg : decode cc pc = .ok (.iaload, 1)) (kk : W p l e R s m args below meth c H locs cells slots Q (F0 m (pc + 1) ls (.int (iI (σ 14 z)) :: rest))) : W p l e R s m args below meth c H locs cells slots Q (F0 m pc ls (.int (iI z) :: .ref (ad (9)) :: rest)) := x_ald C hM hk (cx_9 ad G σ) h0 h1 (by decide) (fI_tn _ h0) hdg kk
theorem as_9 (C : Cx p s m meth c args cc nL own' D G) (hM : XI D ad G ids A H0 H locs σ) (hk : 9 ∈ ids) {z v : Int} (h0 : 0 ≤ z) (h1 : z < 64) (hdg : decode cc pc = .ok (.iastore, 1)) (kk : ∀ (H1 : Heap) (locs1 : List Loc), XI D ad G ids A H0 H1 locs1 (upr σ 14 (ups (σ 14) z v)) → W p l e R s m args below meth c H1 locs1 cells slots Q (F0 m (pc + 1) ls rest)) : W p l e R s m args below meth c H locs cells slots Q (F0 m pc ls (.int (iI v) :: .int (iI z) :: .ref (ad (9)) :: rest)) := x_ast C hM hk (cx_9 ad G σ) h0 h1 (by decide) (upr σ 14 (ups (σ 14) z v)) (by rw [cx_9 ad G _, upr_eq, fI_ups _ _ ⟨by omega, by omega⟩ h0]) (oth_1 ad G σ _ rfl (by decide)) hdg kk
theorem ln_9 (C : Cx p s m meth c args cc nL own' D G) (hM : XI D ad G ids A H0 H locs σ) (hk : 9 ∈ ids) (hdg : decode cc pc = .ok (.arraylength, 1)) (kk : W p l e R s m args below meth c H locs cells slots Q (F0 m (pc + 1) ls (.int (iI 64) :: rest))) : W p l e R s m args below meth c H locs cells slots Q (F0 m pc ls (.ref (ad (9)) :: rest)) := x_alen C hM hk (g := 0) (by decide) (cx_9 ad G σ) (n := 64) rfl hdg kk
theorem al_15 (C : Cx p s m meth c args cc nL own' D G) (hM : XI D ad G ids A H0 H locs σ) (hk : 15 ∈ ids) {z : Int} (h0 : 0 ≤ z) (h1 : z < 5) (hdg : decode cc pc = .ok (.iaload, 1)) (kk : W p l e R s m args below meth c H locs cells slots Q (F0 m (pc + 1) ls (.int (iI (σ 17 z)) :: rest))) : W p l e R s m args below meth c H locs cells slots Q (F0 m pc ls (.int (iI z) :: .ref (ad (15)) :: rest)) := x_ald C hM hk (cx_15 ad G σ) h0 h1 (by decide) (fI_tn _ h0) hdg kk
theorem as_15 (C : Cx p s m meth c args cc nL own' D G) (hM : XI D ad G ids A H0 H locs σ) (hk : 15 ∈ ids) {z v : Int} (h0 : 0 ≤ z) (h1 : z < 5) (hdg : decode cc pc = .ok (.iastore, 1)) (kk : ∀ (H1 : Heap) (locs1 : List Loc), XI D ad G ids A H0 H1 locs1 (upr σ 17 (ups (σ 17) z v)) → W p l e R s m args below meth c H1 locs1 cells slots Q (F0 m (pc + 1) ls rest)) : W p l e R s m args below meth c H locs cells slots Q (F0 m pc ls (.int (iI v) :: .int (iI z) :: .ref (ad (15)) :: rest)) := x_ast C hM hk (cx_15 ad G σ) h0 h1 (by decide) (upr σ 17 (ups (σ 17) z v)) (by rw [cx_15 ad G _, upr_eq, fI_ups _ _ ⟨by omega, by omega⟩ h0]) (oth_1 ad G σ _ rfl (by decide)) hdg kk
theorem ln_15 (C : Cx p s m meth c args cc nL own' D G) (hM : XI D ad G ids A H0 H locs σ) (hk : 15 ∈ ids) (hdg : decode cc pc = .ok (.arraylength, 1)) (kk : W p l e R s m args below meth c H locs cells slots Q (F0 m (pc + 1) ls (.int (iI 5) :: rest))) : W p l e R s m args below meth c H locs cells slots Q (F0 m pc ls (.ref (ad (15)) :: rest)) := x_alen C hM hk (g := 0) (by decide) (cx_15 ad G σ) (n := 5) rfl hdg kk
theorem al_16 (C : Cx p s m meth c args cc nL own' D G) (hM : XI D ad G ids A H0 H locs σ) (hk : 16 ∈ ids) {z : Int} (h0 : 0 ≤ z) (h1 : z < 5) (hdg : decode cc pc = .ok (.iaload, 1)) (kk : W p l e R s m args below meth c H locs cells slots Q (F0 m (pc + 1) ls (.int (iI (σ 18 z)) :: rest))) : W p l e R s m args below meth c H locs cells slots Q (F0 m pc ls (.int (iI z) :: .ref (ad (16)) :: rest)) := x_ald C hM hk (cx_16 ad G σ) h0 h1 (by decide) (fI_tn _ h0) hdg kk
theorem as_16 (C : Cx p s m meth c args cc nL own' D G) (hM : XI D ad G ids A H0 H locs σ) (hk : 16 ∈ ids) {z v : Int} (h0 : 0 ≤ z) (h1 : z < 5) (hdg : decode cc pc = .ok (.iastore, 1)) (kk : ∀ (H1 : Heap) (locs1 : List Loc), XI D ad G ids A H0 H1 locs1 (upr σ 18 (ups (σ 18) z v)) → W p l e R s m args below meth c H1 locs1 cells slots Q (F0 m (pc + 1) ls rest)) : W p l e R s m args below meth c H locs cells slots Q (F0 m pc ls (.int (iI v) :: .int (iI z) :: .ref (ad (16)) :: rest)) := x_ast C hM hk (cx_16 ad G σ) h0 h1 (by decide) (upr σ 18 (ups (σ 18) z v)) (by rw [cx_16 ad G _, upr_eq, fI_ups _ _ ⟨by omega, by omega⟩ h0]) (oth_1 ad G σ _ rfl (by decide)) hdg kk
theorem ln_16 (C : Cx p s m meth c args cc nL own' D G) (hM : XI D ad G ids A H0 H locs σ) (hk : 16 ∈ ids) (hdg : decode cc pc = .ok (.arraylength, 1)) (kk : W p l e R s m args below meth c H locs cells slots Q (F0 m (pc + 1) ls (.int (iI 5) :: rest))) : W p l e R s m args below meth c H locs cells slots Q (F0 m pc ls (.ref (ad (16)) :: rest)) := x_alen C hM hk (g := 0) (by decide) (cx_16 ad G σ) (n := 5) rfl hdg kk
theorem al_18 (C : Cx p s m meth c args cc nL own' D G) (hM : XI D ad G ids A H0 H locs σ) (hk : 18 ∈ ids) {z : Int} (h0 : 0 ≤ z) (h1 : z < 30) (hdg : decode cc pc = .ok (.laload, 1)) (kk : W p l e R s m args below meth c H locs cells slots Q (F0 m (pc + 1) ls (.long (jI (σ 24 z)) :: rest))) : W p l e R s m args below meth c H locs cells slots Q (F0 m pc ls (.int (iI z) :: .ref (ad (18)) :: rest)) := x_lald C hM hk (cx_18 ad G σ) h0 h1 (by decide) (fJ_tn _ h0) hdg kk
theorem as_18 (C : Cx p s m meth c args cc nL own' D G) (hM : XI D ad G ids A H0 H locs σ) (hk : 18 ∈ ids) {z v : Int} (h0 : 0 ≤ z) (h1 : z < 30) (hdg : decode cc pc = .ok (.lastore, 1)) (kk : ∀ (H1 : Heap) (locs1 : List Loc), XI D ad G ids A H0 H1 locs1 (upr σ 24 (ups (σ 24) z v)) → W p l e R s m args below meth c H1 locs1 cells slots Q (F0 m (pc + 1) ls rest)) : W p l e R s m args below meth c H locs cells slots Q (F0 m pc ls (.long (jI v) :: .int (iI z) :: .ref (ad (18)) :: rest)) := x_last C hM hk (cx_18 ad G σ) h0 h1 (by decide) (upr σ 24 (ups (σ 24) z v)) (by rw [cx_18 ad G _, upr_eq, fJ_ups _ _ ⟨by omega, by omega⟩ h0]) (oth_1 ad G σ _ rfl (by decide)) hdg kk
theorem ln_18 (C : Cx p s m meth c args cc nL own' D G) (hM : XI D ad G ids A H0 H locs σ) (hk : 18 ∈ ids) (hdg : decode cc pc = .ok (.arraylength, 1)) (kk : W p l e R s m args below meth c H locs cells slots Q (F0 m (pc + 1) ls (.int (iI 30) :: rest))) : W p l e R s m args below meth c H locs cells slots Q (F0 m pc ls (.ref (ad (18)) :: rest)) := x_alen C hM hk (g := 1) (by decide) (cx_18 ad G σ) (n := 30) rfl hdg kk
theorem al_19 (C : Cx p s m meth c args cc nL own' D G) (hM : XI D ad G ids A H0 H locs σ) (hk : 19 ∈ ids) {z : Int} (h0 : 0 ≤ z) (h1 : z < 30) (hdg : decode cc pc = .ok (.iaload, 1)) (kk : W p l e R s m args below meth c H locs cells slots Q (F0 m (pc + 1) ls (.int (iI (σ 25 z)) :: rest))) : W p l e R s m args below meth c H locs cells slots Q (F0 m pc ls (.int (iI z) :: .ref (ad (19)) :: rest)) := x_ald C hM hk (cx_19 ad G σ) h0 h1 (by decide) (fI_tn _ h0) hdg kk
theorem as_19 (C : Cx p s m meth c args cc nL own' D G) (hM : XI D ad G ids A H0 H locs σ) (hk : 19 ∈ ids) {z v : Int} (h0 : 0 ≤ z) (h1 : z < 30) (hdg : decode cc pc = .ok (.iastore, 1)) (kk : ∀ (H1 : Heap) (locs1 : List Loc), XI D ad G ids A H0 H1 locs1 (upr σ 25 (ups (σ 25) z v)) → W p l e R s m args below meth c H1 locs1 cells slots Q (F0 m (pc + 1) ls rest)) : W p l e R s m args below meth c H locs cells slots Q (F0 m pc ls (.int (iI v) :: .int (iI z) :: .ref (ad (19)) :: rest)) := x_ast C hM hk (cx_19 ad G σ) h0 h1 (by decide) (upr σ 25 (ups (σ 25) z v)) (by rw [cx_19 ad G _, upr_eq, fI_ups _ _ ⟨by omega, by omega⟩ h0]) (oth_1 ad G σ _ rfl (by decide)) hdg kk
theorem ln_19 (C : Cx p s m meth c args cc nL own' D G) (hM : XI D ad G ids A H0 H locs σ) (hk : 19 ∈ ids) (hdg : decode cc pc = .ok (.arraylength, 1)) (kk : W p l e R s m args below meth c H locs cells slots Q (F0 m (pc + 1) ls (.int (iI 30) :: rest))) : W p l e R s m args below meth c H locs cells slots Q (F0 m pc ls (.ref (ad (19)) :: rest)) := x_alen C hM hk (g := 0) (by decide) (cx_19 ad G σ) (n := 30) rfl hdg kk
theorem al_20 (C : Cx p s m meth c args cc nL own' D G) (hM : XI D ad G ids A H0 H locs σ) (hk : 20 ∈ ids) {z : Int} (h0 : 0 ≤ z) (h1 : z < 30) (hdg : decode cc pc = .ok (.iaload, 1)) (kk : W p l e R s m args below meth c H locs cells slots Q (F0 m (pc + 1) ls (.int (iI (σ 26 z)) :: rest))) : W p l e R s m args below meth c H locs cells slots Q (F0 m pc ls (.int (iI z) :: .ref (ad (20)) :: rest)) := x_ald C hM hk (cx_20 ad G σ) h0 h1 (by decide) (fI_tn _ h0) hdg kk
theorem as_20 (C : Cx p s m meth c args cc nL own' D G) (hM : XI D ad G ids A H0 H locs σ) (hk : 20 ∈ ids) {z v : Int} (h0 : 0 ≤ z) (h1 : z < 30) (hdg : decode cc pc = .ok (.iastore, 1)) (kk : ∀ (H1 : Heap) (locs1 : List Loc), XI D ad G ids A H0 H1 locs1 (upr σ 26 (ups (σ 26) z v)) → W p l e R s m args below meth c H1 locs1 cells slots Q (F0 m (pc + 1) ls rest)) : W p l e R s m args below meth c H locs cells slots Q (F0 m pc ls (.int (iI v) :: .int (iI z) :: .ref (ad (20)) :: rest)) := x_ast C hM hk (cx_20 ad G σ) h0 h1 (by decide) (upr σ 26 (ups (σ 26) z v)) (by rw [cx_20 ad G _, upr_eq, fI_ups _ _ ⟨by omega, by omega⟩ h0]) (oth_1 ad G σ _ rfl (by decide)) hdg kk
theorem ln_20 (C : Cx p s m meth c args cc nL own' D G) (hM : XI D ad G ids A H0 H locs σ) (hk : 20 ∈ ids) (hdg : decode cc pc = .ok (.arraylength, 1)) (kk : W p l e R s m args below meth c H locs cells slots Q (F0 m (pc + 1) ls (.int (iI 30) :: rest))) : W p l e R s m args below meth c H locs cells slots Q (F0 m pc ls (.ref (ad (20)) :: rest)) := x_alen C hM hk (g := 0) (by decide) (cx_20 ad G σ) (n := 30) rfl hdg kk
theorem al_22 (C : Cx p s m meth c args cc nL own' D G) (hM : XI D ad G ids A H0 H locs σ) (hk : 22 ∈ ids) {z : Int} (h0 : 0 ≤ z) (h1 : z < 40) (hdg : decode cc pc = .ok (.iaload, 1)) (kk : W p l e R s m args below meth c H locs cells slots Q (F0 m (pc + 1) ls (.int (iI (σ 28 z)) :: rest))) : W p l e R s m args below meth c H locs cells slots Q (F0 m pc ls (.int (iI z) :: .ref (ad (22)) :: rest)) := x_ald C hM hk (cx_22 ad G σ) h0 h1 (by decide) (fI_tn _ h0) hdg kk
theorem as_22 (C : Cx p s m meth c args cc nL own' D G) (hM : XI D ad G ids A H0 H locs σ) (hk : 22 ∈ ids) {z v : Int} (h0 : 0 ≤ z) (h1 : z < 40) (hdg : decode cc pc = .ok (.iastore, 1)) (kk : ∀ (H1 : Heap) (locs1 : List Loc), XI D ad G ids A H0 H1 locs1 (upr σ 28 (ups (σ 28) z v)) → W p l e R s m args below meth c H1 locs1 cells slots Q (F0 m (pc + 1) ls rest)) : W p l e R s m args below meth c H locs cells slots Q (F0 m pc ls (.int (iI v) :: .int (iI z) :: .ref (ad (22)) :: rest)) := x_ast C hM hk (cx_22 ad G σ) h0 h1 (by decide) (upr σ 28 (ups (σ 28) z v)) (by rw [cx_22 ad G _, upr_eq, fI_ups _ _ ⟨by omega, by omega⟩ h0]) (oth_1 ad G σ _ rfl (by decide)) hdg kk
theorem ln_22 (C : Cx p s m meth c args cc nL own' D G) (hM : XI D ad G ids A H0 H locs σ) (hk : 22 ∈ ids) (hdg : decode cc pc = .ok (.arraylength, 1)) (kk : W p l e R s m args below meth c H locs cells slots Q (F0 m (pc + 1) ls (.int (iI 40) :: rest))) : W p l e R s m args below meth c H locs cells slots Q (F0 m pc ls (.ref (ad (22)) :: rest)) := x_alen C hM hk (g := 0) (by decide) (cx_22 ad G σ) (n := 40) rfl hdg kk
theorem al_23 (C : Cx p s m meth c args cc nL own' D G) (hM : XI D ad G ids A H0 H locs σ) (hk : 23 ∈ ids) {z : Int} (h0 : 0 ≤ z) (h1 : z < 40) (hdg : decode cc pc = .ok (.iaload, 1)) (kk : W p l e R s m args below meth c H locs cells slots Q (F0 m (pc + 1) ls (.int (iI (σ 29 z)) :: rest))) : W p l e R s m args below meth c H locs cells slots Q (F0 m pc ls (.int (iI z) :: .ref (ad (23)) :: rest)) := x_ald C hM hk (cx_23 ad G σ) h0 h1 (by decide) (fI_tn _ h0) hdg kk
theorem as_23 (C : Cx p s m meth c args cc nL own' D G) (hM : XI D ad G ids A H0 H locs σ) (hk : 23 ∈ ids) {z v : Int} (h0 : 0 ≤ z) (h1 : z < 40) (hdg : decode cc pc = .ok (.iastore, 1)) (kk : ∀ (H1 : Heap) (locs1 : List Loc), XI D ad G ids A H0 H1 locs1 (upr σ 29 (ups (σ 29) z v)) → W p l e R s m args below meth c H1 locs1 cells slots Q (F0 m (pc + 1) ls rest)) : W p l e R s m args below meth c H locs cells slots Q (F0 m pc ls (.int (iI v) :: .int (iI z) :: .ref (ad (23)) :: rest)) := x_ast C hM hk (cx_23 ad G σ) h0 h1 (by decide) (upr σ 29 (ups (σ 29) z v)) (by rw [cx_23 ad G _, upr_eq, fI_ups _ _ ⟨by omega, by omega⟩ h0]) (oth_1 ad G σ _ rfl (by decide)) hdg kk
theorem ln_23 (C : Cx p s m meth c args cc nL own' D G) (hM : XI D ad G ids A H0 H locs σ) (hk : 23 ∈ ids) (hdg : decode cc pc = .ok (.arraylength, 1)) (kk : W p l e R s m args below meth c H locs cells slots Q (F0 m (pc + 1) ls (.int (iI 40) :: rest))) : W p l e R s m args below meth c H locs cells slots Q (F0 m pc ls (.ref (ad (23)) :: rest)) := x_alen C hM hk (g := 0) (by decide) (cx_23 ad G σ) (n := 40) rfl hdg kk
theorem al_116 (C : Cx p s m meth c args cc nL own' D G) (hM : XI D ad G ids A H0 H locs σ) (hk : 116 ∈ ids) {z : Int} (h0 : 0 ≤ z) (h1 : z < 64) (hdg : decode cc pc = .ok (.laload, 1)) (kk : W p l e R s m args below meth c H locs cells slots Q (F0 m (pc + 1) ls (.long (jI (σ 210 z)) :: rest))) : W p l e R s m args below meth c H locs cells slots Q (F0 m pc ls (.int (iI z) :: .ref (ad (116)) :: rest)) := x_lald C hM hk (cx_116 ad G σ) h0 h1 (by decide) (fJ_tn _ h0) hdg kk
theorem as_116 (C : Cx p s m meth c args cc nL own' D G) (hM : XI D ad G ids A H0 H locs σ) (hk : 116 ∈ ids) {z v : Int} (h0 : 0 ≤ z) (h1 : z < 64) (hdg : decode cc pc = .ok (.lastore, 1)) (kk : ∀ (H1 : Heap) (locs1 : List Loc), XI D ad G ids A H0 H1 locs1 (upr σ 210 (ups (σ 210) z v)) → W p l e R s m args below meth c H1 locs1 cells slots Q (F0 m (pc + 1) ls rest)) : W p l e R s m args below meth c H locs cells slots Q (F0 m pc ls (.long (jI v) :: .int (iI z) :: .ref (ad (116)) :: rest)) := x_last C hM hk (cx_116 ad G σ) h0 h1 (by decide) (upr σ 210 (ups (σ 210) z v)) (by rw [cx_116 ad G _, upr_eq, fJ_ups _ _ ⟨by omega, by omega⟩ h0]) (oth_1 ad G σ _ rfl (by decide)) hdg kk
theorem ln_116 (C : Cx p s m meth c args cc nL own' D G) (hM : XI D ad G ids A H0 H locs σ) (hk : 116 ∈ ids) (hdg : decode cc pc = .ok (.arraylength, 1)) (kk : W p l e R s m args below meth c H locs cells slots Q (F0 m (pc + 1) ls (.int (iI 64) :: rest))) : W p l e R s m args below meth c H locs cells slots Q (F0 m pc ls (.ref (ad (116)) :: rest)) := x_alen C hM hk (g := 1) (by decide) (cx_116 ad G σ) (n := 64) rfl hdg kk
theorem al_201 (C : Cx p s m meth c args cc nL own' D G) (hM : XI D ad G ids A H0 H locs σ) (hk : 201 ∈ ids) {z : Int} (h0 : 0 ≤ z) (h1 : z < 30) (hdg : decode cc pc = .ok (.laload, 1)) (kk : W p l e R s m args below meth c H locs cells slots Q (F0 m (pc + 1) ls (.long (jI (σ 224 z)) :: rest))) : W p l e R s m args below meth c H locs cells slots Q (F0 m pc ls (.int (iI z) :: .ref (ad (201)) :: rest)) := x_lald C hM hk (cx_201 ad G σ) h0 h1 (by decide) (fJ_tn _ h0) hdg kk
theorem as_201 (C : Cx p s m meth c args cc nL own' D G) (hM : XI D ad G ids A H0 H locs σ) (hk : 201 ∈ ids) {z v : Int} (h0 : 0 ≤ z) (h1 : z < 30) (hdg : decode cc pc = .ok (.lastore, 1)) (kk : ∀ (H1 : Heap) (locs1 : List Loc), XI D ad G ids A H0 H1 locs1 (upr σ 224 (ups (σ 224) z v)) → W p l e R s m args below meth c H1 locs1 cells slots Q (F0 m (pc + 1) ls rest)) : W p l e R s m args below meth c H locs cells slots Q (F0 m pc ls (.long (jI v) :: .int (iI z) :: .ref (ad (201)) :: rest)) := x_last C hM hk (cx_201 ad G σ) h0 h1 (by decide) (upr σ 224 (ups (σ 224) z v)) (by rw [cx_201 ad G _, upr_eq, fJ_ups _ _ ⟨by omega, by omega⟩ h0]) (oth_1 ad G σ _ rfl (by decide)) hdg kk
theorem ln_201 (C : Cx p s m meth c args cc nL own' D G) (hM : XI D ad G ids A H0 H locs σ) (hk : 201 ∈ ids) (hdg : decode cc pc = .ok (.arraylength, 1)) (kk : W p l e R s m args below meth c H locs cells slots Q (F0 m (pc + 1) ls (.int (iI 30) :: rest))) : W p l e R s m args below meth c H locs cells slots Q (F0 m pc ls (.ref (ad (201)) :: rest)) := x_alen C hM hk (g := 1) (by decide) (cx_201 ad G σ) (n := 30) rfl hdg kk
theorem al_lm (C : Cx p s m meth c args cc nL own' D G) (hM : XI D ad G ids A H0 H locs σ) {j : Nat} (hj : j < 11) (hk : 26 + 5 * j + 1 ∈ ids) {z : Int} (h0 : 0 ≤ z) (h1 : z < 18) (hdg : decode cc pc = .ok (.iaload, 1)) (kk : W p l e R s m args below meth c H locs cells slots Q (F0 m (pc + 1) ls (.int (iI (σ (40 + 6 * j) z)) :: rest))) : W p l e R s m args below meth c H locs cells slots Q (F0 m pc ls (.int (iI z) :: .ref (ad (26 + 5 * j + 1)) :: rest)) := x_ald C hM hk (cx_lm ad G σ hj) h0 h1 (by decide) (fI_tn _ h0) hdg kk
theorem as_lm (C : Cx p s m meth c args cc nL own' D G) (hM : XI D ad G ids A H0 H locs σ) {j : Nat} (hj : j < 11) (hk : 26 + 5 * j + 1 ∈ ids) {z v : Int} (h0 : 0 ≤ z) (h1 : z < 18) (hdg : decode cc pc = .ok (.iastore, 1)) (kk : ∀ (H1 : Heap) (locs1 : List Loc), XI D ad G ids A H0 H1 locs1 (upr σ (40 + 6 * j) (ups (σ (40 + 6 * j)) z v)) → W p l e R s m args below meth c H1 locs1 cells slots Q (F0 m (pc + 1) ls rest)) : W p l e R s m args below meth c H locs cells slots Q (F0 m pc ls (.int (iI v) :: .int (iI z) :: .ref (ad (26 + 5 * j + 1)) :: rest)) := x_ast C hM hk (cx_lm ad G σ hj) h0 h1 (by decide) (upr σ (40 + 6 * j) (ups (σ (40 + 6 * j)) z v)) (by rw [cx_lm ad G _ hj, upr_eq, fI_ups _ _ ⟨by omega, by omega⟩ h0]) (oth_1 ad G σ _ (own_list hj (i := 0) (by decide)) (by omega)) hdg kk
theorem ln_lm (C : Cx p s m meth c args cc nL own' D G) (hM : XI D ad G ids A H0 H locs σ) {j : Nat} (hj : j < 11) (hk : 26 + 5 * j + 1 ∈ ids) (hdg : decode cc pc = .ok (.arraylength, 1)) (kk : W p l e R s m args below meth c H locs cells slots Q (F0 m (pc + 1) ls (.int (iI 18) :: rest))) : W p l e R s m args below meth c H locs cells slots Q (F0 m pc ls (.ref (ad (26 + 5 * j + 1)) :: rest)) := x_alen C hM hk (g := 0) (by decide) (cx_lm ad G σ hj) (n := 18) rfl hdg kk
theorem al_lt (C : Cx p s m meth c args cc nL own' D G) (hM : XI D ad G ids A H0 H locs σ) {j : Nat} (hj : j < 11) (hk : 26 + 5 * j + 2 ∈ ids) {z : Int} (h0 : 0 ≤ z) (h1 : z < 18) (hdg : decode cc pc = .ok (.baload, 1)) (kk : W p l e R s m args below meth c H locs cells slots Q (F0 m (pc + 1) ls (.int (iI (σ (40 + 6 * j + 1) z)) :: rest))) : W p l e R s m args below meth c H locs cells slots Q (F0 m pc ls (.int (iI z) :: .ref (ad (26 + 5 * j + 2)) :: rest)) := x_zald C hM hk (cx_lt ad G σ hj) h0 h1 (by decide) (fI_tn _ h0) hdg kk
theorem as_lt (C : Cx p s m meth c args cc nL own' D G) (hM : XI D ad G ids A H0 H locs σ) {j : Nat} (hj : j < 11) (hk : 26 + 5 * j + 2 ∈ ids) {z v : Int} (h0 : 0 ≤ z) (h1 : z < 18) (hz : v = 0 ∨ v = 1) (hdg : decode cc pc = .ok (.bastore, 1)) (kk : ∀ (H1 : Heap) (locs1 : List Loc), XI D ad G ids A H0 H1 locs1 (upr σ (40 + 6 * j + 1) (ups (σ (40 + 6 * j + 1)) z v)) → W p l e R s m args below meth c H1 locs1 cells slots Q (F0 m (pc + 1) ls rest)) : W p l e R s m args below meth c H locs cells slots Q (F0 m pc ls (.int (iI v) :: .int (iI z) :: .ref (ad (26 + 5 * j + 2)) :: rest)) := x_zast C hM hk (cx_lt ad G σ hj) h0 h1 (by decide) hz (upr σ (40 + 6 * j + 1) (ups (σ (40 + 6 * j + 1)) z v)) (by rw [cx_lt ad G _ hj, upr_eq, fI_ups _ _ ⟨by omega, by omega⟩ h0]) (oth_1 ad G σ _ (own_list hj (i := 1) (by decide)) (by omega)) hdg kk
theorem ln_lt (C : Cx p s m meth c args cc nL own' D G) (hM : XI D ad G ids A H0 H locs σ) {j : Nat} (hj : j < 11) (hk : 26 + 5 * j + 2 ∈ ids) (hdg : decode cc pc = .ok (.arraylength, 1)) (kk : W p l e R s m args below meth c H locs cells slots Q (F0 m (pc + 1) ls (.int (iI 18) :: rest))) : W p l e R s m args below meth c H locs cells slots Q (F0 m pc ls (.ref (ad (26 + 5 * j + 2)) :: rest)) := x_alen C hM hk (g := 2) (by decide) (cx_lt ad G σ hj) (n := 18) rfl hdg kk
theorem al_lr (C : Cx p s m meth c args cc nL own' D G) (hM : XI D ad G ids A H0 H locs σ) {j : Nat} (hj : j < 11) (hk : 26 + 5 * j + 3 ∈ ids) {z : Int} (h0 : 0 ≤ z) (h1 : z < 18) (hdg : decode cc pc = .ok (.iaload, 1)) (kk : W p l e R s m args below meth c H locs cells slots Q (F0 m (pc + 1) ls (.int (iI (σ (40 + 6 * j + 2) z)) :: rest))) : W p l e R s m args below meth c H locs cells slots Q (F0 m pc ls (.int (iI z) :: .ref (ad (26 + 5 * j + 3)) :: rest)) := x_ald C hM hk (cx_lr ad G σ hj) h0 h1 (by decide) (fI_tn _ h0) hdg kk
theorem as_lr (C : Cx p s m meth c args cc nL own' D G) (hM : XI D ad G ids A H0 H locs σ) {j : Nat} (hj : j < 11) (hk : 26 + 5 * j + 3 ∈ ids) {z v : Int} (h0 : 0 ≤ z) (h1 : z < 18) (hdg : decode cc pc = .ok (.iastore, 1)) (kk : ∀ (H1 : Heap) (locs1 : List Loc), XI D ad G ids A H0 H1 locs1 (upr σ (40 + 6 * j + 2) (ups (σ (40 + 6 * j + 2)) z v)) → W p l e R s m args below meth c H1 locs1 cells slots Q (F0 m (pc + 1) ls rest)) : W p l e R s m args below meth c H locs cells slots Q (F0 m pc ls (.int (iI v) :: .int (iI z) :: .ref (ad (26 + 5 * j + 3)) :: rest)) := x_ast C hM hk (cx_lr ad G σ hj) h0 h1 (by decide) (upr σ (40 + 6 * j + 2) (ups (σ (40 + 6 * j + 2)) z v)) (by rw [cx_lr ad G _ hj, upr_eq, fI_ups _ _ ⟨by omega, by omega⟩ h0]) (oth_1 ad G σ _ (own_list hj (i := 2) (by decide)) (by omega)) hdg kk
theorem ln_lr (C : Cx p s m meth c args cc nL own' D G) (hM : XI D ad G ids A H0 H locs σ) {j : Nat} (hj : j < 11) (hk : 26 + 5 * j + 3 ∈ ids) (hdg : decode cc pc = .ok (.arraylength, 1)) (kk : W p l e R s m args below meth c H locs cells slots Q (F0 m (pc + 1) ls (.int (iI 18) :: rest))) : W p l e R s m args below meth c H locs cells slots Q (F0 m pc ls (.ref (ad (26 + 5 * j + 3)) :: rest)) := x_alen C hM hk (g := 0) (by decide) (cx_lr ad G σ hj) (n := 18) rfl hdg kk
theorem al_lp (C : Cx p s m meth c args cc nL own' D G) (hM : XI D ad G ids A H0 H locs σ) {j : Nat} (hj : j < 11) (hk : 26 + 5 * j + 4 ∈ ids) {z : Int} (h0 : 0 ≤ z) (h1 : z < 18) (hdg : decode cc pc = .ok (.baload, 1)) (kk : W p l e R s m args below meth c H locs cells slots Q (F0 m (pc + 1) ls (.int (iI (σ (40 + 6 * j + 3) z)) :: rest))) : W p l e R s m args below meth c H locs cells slots Q (F0 m pc ls (.int (iI z) :: .ref (ad (26 + 5 * j + 4)) :: rest)) := x_zald C hM hk (cx_lp ad G σ hj) h0 h1 (by decide) (fI_tn _ h0) hdg kk
theorem as_lp (C : Cx p s m meth c args cc nL own' D G) (hM : XI D ad G ids A H0 H locs σ) {j : Nat} (hj : j < 11) (hk : 26 + 5 * j + 4 ∈ ids) {z v : Int} (h0 : 0 ≤ z) (h1 : z < 18) (hz : v = 0 ∨ v = 1) (hdg : decode cc pc = .ok (.bastore, 1)) (kk : ∀ (H1 : Heap) (locs1 : List Loc), XI D ad G ids A H0 H1 locs1 (upr σ (40 + 6 * j + 3) (ups (σ (40 + 6 * j + 3)) z v)) → W p l e R s m args below meth c H1 locs1 cells slots Q (F0 m (pc + 1) ls rest)) : W p l e R s m args below meth c H locs cells slots Q (F0 m pc ls (.int (iI v) :: .int (iI z) :: .ref (ad (26 + 5 * j + 4)) :: rest)) := x_zast C hM hk (cx_lp ad G σ hj) h0 h1 (by decide) hz (upr σ (40 + 6 * j + 3) (ups (σ (40 + 6 * j + 3)) z v)) (by rw [cx_lp ad G _ hj, upr_eq, fI_ups _ _ ⟨by omega, by omega⟩ h0]) (oth_1 ad G σ _ (own_list hj (i := 3) (by decide)) (by omega)) hdg kk
theorem ln_lp (C : Cx p s m meth c args cc nL own' D G) (hM : XI D ad G ids A H0 H locs σ) {j : Nat} (hj : j < 11) (hk : 26 + 5 * j + 4 ∈ ids) (hdg : decode cc pc = .ok (.arraylength, 1)) (kk : W p l e R s m args below meth c H locs cells slots Q (F0 m (pc + 1) ls (.int (iI 18) :: rest))) : W p l e R s m args below meth c H locs cells slots Q (F0 m pc ls (.ref (ad (26 + 5 * j + 4)) :: rest)) := x_alen C hM hk (g := 2) (by decide) (cx_lp ad G σ hj) (n := 18) rfl hdg kk
theorem al_li (C : Cx p s m meth c args cc nL own' D G) (hM : XI D ad G ids A H0 H locs σ) {i : Nat} (hi : i < 12) (hk : 104 + i ∈ ids) {z : Int} (h0 : 0 ≤ z) (h1 : z < 75) (hdg : decode cc pc = .ok (.iaload, 1)) (kk : W p l e R s m args below meth c H locs cells slots Q (F0 m (pc + 1) ls (.int (iI (σ (240 + i) z)) :: rest))) : W p l e R s m args below meth c H locs cells slots Q (F0 m pc ls (.int (iI z) :: .ref (ad (104 + i)) :: rest)) := x_ald C hM hk (cx_li ad G σ hi) h0 h1 (by decide) (fI_tn _ h0) hdg kk
theorem as_li (C : Cx p s m meth c args cc nL own' D G) (hM : XI D ad G ids A H0 H locs σ) {i : Nat} (hi : i < 12) (hk : 104 + i ∈ ids) {z v : Int} (h0 : 0 ≤ z) (h1 : z < 75) (hdg : decode cc pc = .ok (.iastore, 1)) (kk : ∀ (H1 : Heap) (locs1 : List Loc), XI D ad G ids A H0 H1 locs1 (upr σ (240 + i) (ups (σ (240 + i)) z v)) → W p l e R s m args below meth c H1 locs1 cells slots Q (F0 m (pc + 1) ls rest)) : W p l e R s m args below meth c H locs cells slots Q (F0 m pc ls (.int (iI v) :: .int (iI z) :: .ref (ad (104 + i)) :: rest)) := x_ast C hM hk (cx_li ad G σ hi) h0 h1 (by decide) (upr σ (240 + i) (ups (σ (240 + i)) z v)) (by rw [cx_li ad G _ hi, upr_eq, fI_ups _ _ ⟨by omega, by omega⟩ h0]) (oth_1 ad G σ _ (own_li hi) (by omega)) hdg kk
theorem ln_li (C : Cx p s m meth c args cc nL own' D G) (hM : XI D ad G ids A H0 H locs σ) {i : Nat} (hi : i < 12) (hk : 104 + i ∈ ids) (hdg : decode cc pc = .ok (.arraylength, 1)) (kk : W p l e R s m args below meth c H locs cells slots Q (F0 m (pc + 1) ls (.int (iI 75) :: rest))) : W p l e R s m args below meth c H locs cells slots Q (F0 m pc ls (.ref (ad (104 + i)) :: rest)) := x_alen C hM hk (g := 0) (by decide) (cx_li ad G σ hi) (n := 75) rfl hdg kk
theorem al_tr (C : Cx p s m meth c args cc nL own' D G) (hM : XI D ad G ids A H0 H locs σ) {i : Nat} (hi : i < 12) (hk : 183 + i ∈ ids) {z : Int} (h0 : 0 ≤ z) (h1 : z < 75) (hdg : decode cc pc = .ok (.iaload, 1)) (kk : W p l e R s m args below meth c H locs cells slots Q (F0 m (pc + 1) ls (.int (iI (σ (255 + i) z)) :: rest))) : W p l e R s m args below meth c H locs cells slots Q (F0 m pc ls (.int (iI z) :: .ref (ad (183 + i)) :: rest)) := x_ald C hM hk (cx_tr ad G σ hi) h0 h1 (by decide) (fI_tn _ h0) hdg kk
theorem as_tr (C : Cx p s m meth c args cc nL own' D G) (hM : XI D ad G ids A H0 H locs σ) {i : Nat} (hi : i < 12) (hk : 183 + i ∈ ids) {z v : Int} (h0 : 0 ≤ z) (h1 : z < 75) (hdg : decode cc pc = .ok (.iastore, 1)) (kk : ∀ (H1 : Heap) (locs1 : List Loc), XI D ad G ids A H0 H1 locs1 (upr σ (255 + i) (ups (σ (255 + i)) z v)) → W p l e R s m args below meth c H1 locs1 cells slots Q (F0 m (pc + 1) ls rest)) : W p l e R s m args below meth c H locs cells slots Q (F0 m pc ls (.int (iI v) :: .int (iI z) :: .ref (ad (183 + i)) :: rest)) := x_ast C hM hk (cx_tr ad G σ hi) h0 h1 (by decide) (upr σ (255 + i) (ups (σ (255 + i)) z v)) (by rw [cx_tr ad G _ hi, upr_eq, fI_ups _ _ ⟨by omega, by omega⟩ h0]) (oth_1 ad G σ _ (own_tr hi) (by omega)) hdg kk
theorem ln_tr (C : Cx p s m meth c args cc nL own' D G) (hM : XI D ad G ids A H0 H locs σ) {i : Nat} (hi : i < 12) (hk : 183 + i ∈ ids) (hdg : decode cc pc = .ok (.arraylength, 1)) (kk : W p l e R s m args below meth c H locs cells slots Q (F0 m (pc + 1) ls (.int (iI 75) :: rest))) : W p l e R s m args below meth c H locs cells slots Q (F0 m pc ls (.ref (ad (183 + i)) :: rest)) := x_alen C hM hk (g := 0) (by decide) (cx_tr ad G σ hi) (n := 75) rfl hdg kk
theorem aa_levels (C : Cx p s m meth c args cc nL own' D G) (hM : XI D ad G ids A H0 H locs σ) (hk : 25 ∈ ids) {i : Nat} (hi : i < 9) (hdg : decode cc pc = .ok (.aaload, 1)) (kk : W p l e R s m args below meth c H locs cells slots Q (F0 m (pc + 1) ls (.ref (ad (26 + 5 * (i + 1))) :: rest))) : W p l e R s m args below meth c H locs cells slots Q (F0 m pc ls (.int (iI (i : Int)) :: .ref (ad 25) :: rest)) := x_aald C hM hk (g := 3) (by decide) (cx_25 ad G σ) (by omega) (by omega) (by decide) (by rw [Int.toNat_natCast]) hdg kk
theorem ln_25 (C : Cx p s m meth c args cc nL own' D G) (hM : XI D ad G ids A H0 H locs σ) (hk : 25 ∈ ids) (hdg : decode cc pc = .ok (.arraylength, 1)) (kk : W p l e R s m args below meth c H locs cells slots Q (F0 m (pc + 1) ls (.int (iI 9) :: rest))) : W p l e R s m args below meth c H locs cells slots Q (F0 m pc ls (.ref (ad 25) :: rest)) := x_alen C hM hk (g := 3) (by decide) (cx_25 ad G σ) (n := 9) rfl hdg kk
theorem aa_listed (C : Cx p s m meth c args cc nL own' D G) (hM : XI D ad G ids A H0 H locs σ) (hk : 103 ∈ ids) {i : Nat} (hi : i < 12) (hdg : decode cc pc = .ok (.aaload, 1)) (kk : W p l e R s m args below meth c H locs cells slots Q (F0 m (pc + 1) ls (.ref (ad (104 + i)) :: rest))) : W p l e R s m args below meth c H locs cells slots Q (F0 m pc ls (.int (iI (i : Int)) :: .ref (ad 103) :: rest)) := x_aald C hM hk (g := 4) (by decide) (cx_103 ad G σ) (by omega) (by omega) (by decide) (by rw [Int.toNat_natCast]) hdg kk
theorem ln_103 (C : Cx p s m meth c args cc nL own' D G) (hM : XI D ad G ids A H0 H locs σ) (hk : 103 ∈ ids) (hdg : decode cc pc = .ok (.arraylength, 1)) (kk : W p l e R s m args below meth c H locs cells slots Q (F0 m (pc + 1) ls (.int (iI 12) :: rest))) : W p l e R s m args below meth c H locs cells slots Q (F0 m pc ls (.ref (ad 103) :: rest)) := x_alen C hM hk (g := 4) (by decide) (cx_103 ad G σ) (n := 12) rfl hdg kk
theorem aa_slot (C : Cx p s m meth c args cc nL own' D G) (hM : XI D ad G ids A H0 H locs σ) (hk : 117 ∈ ids) {i : Nat} (hi : i < 64) (hdg : decode cc pc = .ok (.aaload, 1)) (kk : W p l e R s m args below meth c H locs cells slots Q (F0 m (pc + 1) ls (.ref (ad (118 + i)) :: rest))) : W p l e R s m args below meth c H locs cells slots Q (F0 m pc ls (.int (iI (i : Int)) :: .ref (ad 117) :: rest)) := x_aald C hM hk (g := 4) (by decide) (cx_117 ad G σ) (by omega) (by omega) (by decide) (by rw [Int.toNat_natCast]) hdg kk
theorem ln_117 (C : Cx p s m meth c args cc nL own' D G) (hM : XI D ad G ids A H0 H locs σ) (hk : 117 ∈ ids) (hdg : decode cc pc = .ok (.arraylength, 1)) (kk : W p l e R s m args below meth c H locs cells slots Q (F0 m (pc + 1) ls (.int (iI 64) :: rest))) : W p l e R s m args below meth c H locs cells slots Q (F0 m pc ls (.ref (ad 117) :: rest)) := x_alen C hM hk (g := 4) (by decide) (cx_117 ad G σ) (n := 64) rfl hdg kk
theorem aa_tried (C : Cx p s m meth c args cc nL own' D G) (hM : XI D ad G ids A H0 H locs σ) (hk : 182 ∈ ids) {i : Nat} (hi : i < 12) (hdg : decode cc pc = .ok (.aaload, 1)) (kk : W p l e R s m args below meth c H locs cells slots Q (F0 m (pc + 1) ls (.ref (ad (183 + i)) :: rest))) : W p l e R s m args below meth c H locs cells slots Q (F0 m pc ls (.int (iI (i : Int)) :: .ref (ad 182) :: rest)) := x_aald C hM hk (g := 4) (by decide) (cx_182 ad G σ) (by omega) (by omega) (by decide) (by rw [Int.toNat_natCast]) hdg kk
theorem ln_182 (C : Cx p s m meth c args cc nL own' D G) (hM : XI D ad G ids A H0 H locs σ) (hk : 182 ∈ ids) (hdg : decode cc pc = .ok (.arraylength, 1)) (kk : W p l e R s m args below meth c H locs cells slots Q (F0 m (pc + 1) ls (.int (iI 12) :: rest))) : W p l e R s m args below meth c H locs cells slots Q (F0 m pc ls (.ref (ad 182) :: rest)) := x_alen C hM hk (g := 4) (by decide) (cx_182 ad G σ) (n := 12) rfl hdg kk
theorem aa_killer (C : Cx p s m meth c args cc nL own' D G) (hM : XI D ad G ids A H0 H locs σ) (hk : 195 ∈ ids) {i : Nat} (hi : i < 5) (hdg : decode cc pc = .ok (.aaload, 1)) (kk : W p l e R s m args below meth c H locs cells slots Q (F0 m (pc + 1) ls (.ref (ad (196 + i)) :: rest))) : W p l e R s m args below meth c H locs cells slots Q (F0 m pc ls (.int (iI (i : Int)) :: .ref (ad 195) :: rest)) := x_aald C hM hk (g := 4) (by decide) (cx_195 ad G σ) (by omega) (by omega) (by decide) (by rw [Int.toNat_natCast]) hdg kk
theorem ln_195 (C : Cx p s m meth c args cc nL own' D G) (hM : XI D ad G ids A H0 H locs σ) (hk : 195 ∈ ids) (hdg : decode cc pc = .ok (.arraylength, 1)) (kk : W p l e R s m args below meth c H locs cells slots Q (F0 m (pc + 1) ls (.int (iI 5) :: rest))) : W p l e R s m args below meth c H locs cells slots Q (F0 m pc ls (.ref (ad 195) :: rest)) := x_alen C hM hk (g := 4) (by decide) (cx_195 ad G σ) (n := 5) rfl hdg kk
theorem aa_page (C : Cx p s m meth c args cc nL own' D G) (hM : XI D ad G ids A H0 H locs σ) (hk : 202 ∈ ids) {i : Nat} (hi : i < 30) (hdg : decode cc pc = .ok (.aaload, 1)) (kk : W p l e R s m args below meth c H locs cells slots Q (F0 m (pc + 1) ls (.ref (ad (203 + i)) :: rest))) : W p l e R s m args below meth c H locs cells slots Q (F0 m pc ls (.int (iI (i : Int)) :: .ref (ad 202) :: rest)) := x_aald C hM hk (g := 4) (by decide) (cx_202 ad G σ) (by omega) (by omega) (by decide) (by rw [Int.toNat_natCast]) hdg kk
theorem ln_202 (C : Cx p s m meth c args cc nL own' D G) (hM : XI D ad G ids A H0 H locs σ) (hk : 202 ∈ ids) (hdg : decode cc pc = .ok (.arraylength, 1)) (kk : W p l e R s m args below meth c H locs cells slots Q (F0 m (pc + 1) ls (.int (iI 30) :: rest))) : W p l e R s m args below meth c H locs cells slots Q (F0 m pc ls (.ref (ad 202) :: rest)) := x_alen C hM hk (g := 4) (by decide) (cx_202 ad G σ) (n := 30) rfl hdg kk
theorem al_ts0 (C : Cx p s m meth c args cc nL own' D G) (hM : XI D ad G ids A H0 H locs σ) {i : Nat} (hi : i < 64) (hk : 118 + i ∈ ids) (hdg : decode cc pc = .ok (.iaload, 1)) (kk : W p l e R s m args below meth c H locs cells slots Q (F0 m (pc + 1) ls (.int (iI (σ 211 (i : Int))) :: rest))) : W p l e R s m args below meth c H locs cells slots Q (F0 m pc ls (.int (iI 0) :: .ref (ad (118 + i)) :: rest)) := x_ald C hM hk (cx_ts ad G σ hi) (z := 0) (by decide) (by decide) (by decide) (v := σ 211 (i : Int)) rfl hdg kk
theorem as_ts0 (C : Cx p s m meth c args cc nL own' D G) (hM : XI D ad G ids A H0 H locs σ) {i : Nat} (hi : i < 64) (hk : 118 + i ∈ ids) {v : Int} (hdg : decode cc pc = .ok (.iastore, 1)) (kk : ∀ (H1 : Heap) (locs1 : List Loc), XI D ad G ids A H0 H1 locs1 (upr σ 211 (ups (σ 211) (i : Int) v)) → W p l e R s m args below meth c H1 locs1 cells slots Q (F0 m (pc + 1) ls rest)) : W p l e R s m args below meth c H locs cells slots Q (F0 m pc ls (.int (iI v) :: .int (iI 0) :: .ref (ad (118 + i)) :: rest)) := x_ast C hM hk (cx_ts ad G σ hi) (z := 0) (by decide) (by decide) (by decide) (upr σ 211 (ups (σ 211) (i : Int) v)) (by rw [cx_ts ad G _ hi, rowF_up _ (by decide) (j := 0) rfl]; rfl) (oth_2 ad G σ v (by omega)) hdg kk
theorem al_ts1 (C : Cx p s m meth c args cc nL own' D G) (hM : XI D ad G ids A H0 H locs σ) {i : Nat} (hi : i < 64) (hk : 118 + i ∈ ids) (hdg : decode cc pc = .ok (.iaload, 1)) (kk : W p l e R s m args below meth c H locs cells slots Q (F0 m (pc + 1) ls (.int (iI (σ 212 (i : Int))) :: rest))) : W p l e R s m args below meth c H locs cells slots Q (F0 m pc ls (.int (iI 1) :: .ref (ad (118 + i)) :: rest)) := x_ald C hM hk (cx_ts ad G σ hi) (z := 1) (by decide) (by decide) (by decide) (v := σ 212 (i : Int)) rfl hdg kk
theorem as_ts1 (C : Cx p s m meth c args cc nL own' D G) (hM : XI D ad G ids A H0 H locs σ) {i : Nat} (hi : i < 64) (hk : 118 + i ∈ ids) {v : Int} (hdg : decode cc pc = .ok (.iastore, 1)) (kk : ∀ (H1 : Heap) (locs1 : List Loc), XI D ad G ids A H0 H1 locs1 (upr σ 212 (ups (σ 212) (i : Int) v)) → W p l e R s m args below meth c H1 locs1 cells slots Q (F0 m (pc + 1) ls rest)) : W p l e R s m args below meth c H locs cells slots Q (F0 m pc ls (.int (iI v) :: .int (iI 1) :: .ref (ad (118 + i)) :: rest)) := x_ast C hM hk (cx_ts ad G σ hi) (z := 1) (by decide) (by decide) (by decide) (upr σ 212 (ups (σ 212) (i : Int) v)) (by rw [cx_ts ad G _ hi, rowF_up _ (by decide) (j := 1) rfl]; rfl) (oth_2 ad G σ v (by omega)) hdg kk
theorem al_ts2 (C : Cx p s m meth c args cc nL own' D G) (hM : XI D ad G ids A H0 H locs σ) {i : Nat} (hi : i < 64) (hk : 118 + i ∈ ids) (hdg : decode cc pc = .ok (.iaload, 1)) (kk : W p l e R s m args below meth c H locs cells slots Q (F0 m (pc + 1) ls (.int (iI (σ 213 (i : Int))) :: rest))) : W p l e R s m args below meth c H locs cells slots Q (F0 m pc ls (.int (iI 2) :: .ref (ad (118 + i)) :: rest)) := x_ald C hM hk (cx_ts ad G σ hi) (z := 2) (by decide) (by decide) (by decide) (v := σ 213 (i : Int)) rfl hdg kk
theorem as_ts2 (C : Cx p s m meth c args cc nL own' D G) (hM : XI D ad G ids A H0 H locs σ) {i : Nat} (hi : i < 64) (hk : 118 + i ∈ ids) {v : Int} (hdg : decode cc pc = .ok (.iastore, 1)) (kk : ∀ (H1 : Heap) (locs1 : List Loc), XI D ad G ids A H0 H1 locs1 (upr σ 213 (ups (σ 213) (i : Int) v)) → W p l e R s m args below meth c H1 locs1 cells slots Q (F0 m (pc + 1) ls rest)) : W p l e R s m args below meth c H locs cells slots Q (F0 m pc ls (.int (iI v) :: .int (iI 2) :: .ref (ad (118 + i)) :: rest)) := x_ast C hM hk (cx_ts ad G σ hi) (z := 2) (by decide) (by decide) (by decide) (upr σ 213 (ups (σ 213) (i : Int) v)) (by rw [cx_ts ad G _ hi, rowF_up _ (by decide) (j := 2) rfl]; rfl) (oth_2 ad G σ v (by omega)) hdg kk
theorem al_ts3 (C : Cx p s m meth c args cc nL own' D G) (hM : XI D ad G ids A H0 H locs σ) {i : Nat} (hi : i < 64) (hk : 118 + i ∈ ids) (hdg : decode cc pc = .ok (.iaload, 1)) (kk : W p l e R s m args below meth c H locs cells slots Q (F0 m (pc + 1) ls (.int (iI (σ 214 (i : Int))) :: rest))) : W p l e R s m args below meth c H locs cells slots Q (F0 m pc ls (.int (iI 3) :: .ref (ad (118 + i)) :: rest)) := x_ald C hM hk (cx_ts ad G σ hi) (z := 3) (by decide) (by decide) (by decide) (v := σ 214 (i : Int)) rfl hdg kk
theorem as_ts3 (C : Cx p s m meth c args cc nL own' D G) (hM : XI D ad G ids A H0 H locs σ) {i : Nat} (hi : i < 64) (hk : 118 + i ∈ ids) {v : Int} (hdg : decode cc pc = .ok (.iastore, 1)) (kk : ∀ (H1 : Heap) (locs1 : List Loc), XI D ad G ids A H0 H1 locs1 (upr σ 214 (ups (σ 214) (i : Int) v)) → W p l e R s m args below meth c H1 locs1 cells slots Q (F0 m (pc + 1) ls rest)) : W p l e R s m args below meth c H locs cells slots Q (F0 m pc ls (.int (iI v) :: .int (iI 3) :: .ref (ad (118 + i)) :: rest)) := x_ast C hM hk (cx_ts ad G σ hi) (z := 3) (by decide) (by decide) (by decide) (upr σ 214 (ups (σ 214) (i : Int) v)) (by rw [cx_ts ad G _ hi, rowF_up _ (by decide) (j := 3) rfl]; rfl) (oth_2 ad G σ v (by omega)) hdg kk
theorem al_ts (C : Cx p s m meth c args cc nL own' D G) (hM : XI D ad G ids A H0 H locs σ) {i : Nat} (hi : i < 64) (hk : 118 + i ∈ ids) {j : Nat} (hj : j < 4) (hdg : decode cc pc = .ok (.iaload, 1)) (kk : W p l e R s m args below meth c H locs cells slots Q (F0 m (pc + 1) ls (.int (iI (σ (211 + j) (i : Int))) :: rest))) : W p l e R s m args below meth c H locs cells slots Q (F0 m pc ls (.int (iI (j : Int)) :: .ref (ad (118 + i)) :: rest)) := x_ald C hM hk (cx_ts ad G σ hi) (z := (j : Int)) (by omega) (by omega) (by decide) (v := σ (211 + j) (i : Int)) (by rw [Int.toNat_natCast]; unfold rowF; rw [if_pos hj]) hdg kk
theorem al_ki0 (C : Cx p s m meth c args cc nL own' D G) (hM : XI D ad G ids A H0 H locs σ) {i : Nat} (hi : i < 5) (hk : 196 + i ∈ ids) (hdg : decode cc pc = .ok (.iaload, 1)) (kk : W p l e R s m args below meth c H locs cells slots Q (F0 m (pc + 1) ls (.int (iI (σ 217 (i : Int))) :: rest))) : W p l e R s m args below meth c H locs cells slots Q (F0 m pc ls (.int (iI 0) :: .ref (ad (196 + i)) :: rest)) := x_ald C hM hk (cx_ki ad G σ hi) (z := 0) (by decide) (by decide) (by decide) (v := σ 217 (i : Int)) rfl hdg kk
theorem as_ki0 (C : Cx p s m meth c args cc nL own' D G) (hM : XI D ad G ids A H0 H locs σ) {i : Nat} (hi : i < 5) (hk : 196 + i ∈ ids) {v : Int} (hdg : decode cc pc = .ok (.iastore, 1)) (kk : ∀ (H1 : Heap) (locs1 : List Loc), XI D ad G ids A H0 H1 locs1 (upr σ 217 (ups (σ 217) (i : Int) v)) → W p l e R s m args below meth c H1 locs1 cells slots Q (F0 m (pc + 1) ls rest)) : W p l e R s m args below meth c H locs cells slots Q (F0 m pc ls (.int (iI v) :: .int (iI 0) :: .ref (ad (196 + i)) :: rest)) := x_ast C hM hk (cx_ki ad G σ hi) (z := 0) (by decide) (by decide) (by decide) (upr σ 217 (ups (σ 217) (i : Int) v)) (by rw [cx_ki ad G _ hi, rowF_up _ (by decide) (j := 0) rfl]; rfl) (oth_2 ad G σ v (by omega)) hdg kk
theorem al_ki1 (C : Cx p s m meth c args cc nL own' D G) (hM : XI D ad G ids A H0 H locs σ) {i : Nat} (hi : i < 5) (hk : 196 + i ∈ ids) (hdg : decode cc pc = .ok (.iaload, 1)) (kk : W p l e R s m args below meth c H locs cells slots Q (F0 m (pc + 1) ls (.int (iI (σ 218 (i : Int))) :: rest))) : W p l e R s m args below meth c H locs cells slots Q (F0 m pc ls (.int (iI 1) :: .ref (ad (196 + i)) :: rest)) := x_ald C hM hk (cx_ki ad G σ hi) (z := 1) (by decide) (by decide) (by decide) (v := σ 218 (i : Int)) rfl hdg kk
theorem as_ki1 (C : Cx p s m meth c args cc nL own' D G) (hM : XI D ad G ids A H0 H locs σ) {i : Nat} (hi : i < 5) (hk : 196 + i ∈ ids) {v : Int} (hdg : decode cc pc = .ok (.iastore, 1)) (kk : ∀ (H1 : Heap) (locs1 : List Loc), XI D ad G ids A H0 H1 locs1 (upr σ 218 (ups (σ 218) (i : Int) v)) → W p l e R s m args below meth c H1 locs1 cells slots Q (F0 m (pc + 1) ls rest)) : W p l e R s m args below meth c H locs cells slots Q (F0 m pc ls (.int (iI v) :: .int (iI 1) :: .ref (ad (196 + i)) :: rest)) := x_ast C hM hk (cx_ki ad G σ hi) (z := 1) (by decide) (by decide) (by decide) (upr σ 218 (ups (σ 218) (i : Int) v)) (by rw [cx_ki ad G _ hi, rowF_up _ (by decide) (j := 1) rfl]; rfl) (oth_2 ad G σ v (by omega)) hdg kk
theorem al_ki (C : Cx p s m meth c args cc nL own' D G) (hM : XI D ad G ids A H0 H locs σ) {i : Nat} (hi : i < 5) (hk : 196 + i ∈ ids) {j : Nat} (hj : j < 2) (hdg : decode cc pc = .ok (.iaload, 1)) (kk : W p l e R s m args below meth c H locs cells slots Q (F0 m (pc + 1) ls (.int (iI (σ (217 + j) (i : Int))) :: rest))) : W p l e R s m args below meth c H locs cells slots Q (F0 m pc ls (.int (iI (j : Int)) :: .ref (ad (196 + i)) :: rest)) := x_ald C hM hk (cx_ki ad G σ hi) (z := (j : Int)) (by omega) (by omega) (by decide) (v := σ (217 + j) (i : Int)) (by rw [Int.toNat_natCast]; unfold rowF; rw [if_pos hj]) hdg kk
theorem al_pg0 (C : Cx p s m meth c args cc nL own' D G) (hM : XI D ad G ids A H0 H locs σ) {i : Nat} (hi : i < 30) (hk : 203 + i ∈ ids) (hdg : decode cc pc = .ok (.iaload, 1)) (kk : W p l e R s m args below meth c H locs cells slots Q (F0 m (pc + 1) ls (.int (iI (σ 225 (i : Int))) :: rest))) : W p l e R s m args below meth c H locs cells slots Q (F0 m pc ls (.int (iI 0) :: .ref (ad (203 + i)) :: rest)) := x_ald C hM hk (cx_pg ad G σ hi) (z := 0) (by decide) (by decide) (by decide) (v := σ 225 (i : Int)) rfl hdg kk
theorem as_pg0 (C : Cx p s m meth c args cc nL own' D G) (hM : XI D ad G ids A H0 H locs σ) {i : Nat} (hi : i < 30) (hk : 203 + i ∈ ids) {v : Int} (hdg : decode cc pc = .ok (.iastore, 1)) (kk : ∀ (H1 : Heap) (locs1 : List Loc), XI D ad G ids A H0 H1 locs1 (upr σ 225 (ups (σ 225) (i : Int) v)) → W p l e R s m args below meth c H1 locs1 cells slots Q (F0 m (pc + 1) ls rest)) : W p l e R s m args below meth c H locs cells slots Q (F0 m pc ls (.int (iI v) :: .int (iI 0) :: .ref (ad (203 + i)) :: rest)) := x_ast C hM hk (cx_pg ad G σ hi) (z := 0) (by decide) (by decide) (by decide) (upr σ 225 (ups (σ 225) (i : Int) v)) (by rw [cx_pg ad G _ hi, rowF_up _ (by decide) (j := 0) rfl]; rfl) (oth_2 ad G σ v (by omega)) hdg kk
theorem al_pg1 (C : Cx p s m meth c args cc nL own' D G) (hM : XI D ad G ids A H0 H locs σ) {i : Nat} (hi : i < 30) (hk : 203 + i ∈ ids) (hdg : decode cc pc = .ok (.iaload, 1)) (kk : W p l e R s m args below meth c H locs cells slots Q (F0 m (pc + 1) ls (.int (iI (σ 226 (i : Int))) :: rest))) : W p l e R s m args below meth c H locs cells slots Q (F0 m pc ls (.int (iI 1) :: .ref (ad (203 + i)) :: rest)) := x_ald C hM hk (cx_pg ad G σ hi) (z := 1) (by decide) (by decide) (by decide) (v := σ 226 (i : Int)) rfl hdg kk
theorem as_pg1 (C : Cx p s m meth c args cc nL own' D G) (hM : XI D ad G ids A H0 H locs σ) {i : Nat} (hi : i < 30) (hk : 203 + i ∈ ids) {v : Int} (hdg : decode cc pc = .ok (.iastore, 1)) (kk : ∀ (H1 : Heap) (locs1 : List Loc), XI D ad G ids A H0 H1 locs1 (upr σ 226 (ups (σ 226) (i : Int) v)) → W p l e R s m args below meth c H1 locs1 cells slots Q (F0 m (pc + 1) ls rest)) : W p l e R s m args below meth c H locs cells slots Q (F0 m pc ls (.int (iI v) :: .int (iI 1) :: .ref (ad (203 + i)) :: rest)) := x_ast C hM hk (cx_pg ad G σ hi) (z := 1) (by decide) (by decide) (by decide) (upr σ 226 (ups (σ 226) (i : Int) v)) (by rw [cx_pg ad G _ hi, rowF_up _ (by decide) (j := 1) rfl]; rfl) (oth_2 ad G σ v (by omega)) hdg kk
theorem al_pg (C : Cx p s m meth c args cc nL own' D G) (hM : XI D ad G ids A H0 H locs σ) {i : Nat} (hi : i < 30) (hk : 203 + i ∈ ids) {j : Nat} (hj : j < 2) (hdg : decode cc pc = .ok (.iaload, 1)) (kk : W p l e R s m args below meth c H locs cells slots Q (F0 m (pc + 1) ls (.int (iI (σ (225 + j) (i : Int))) :: rest))) : W p l e R s m args below meth c H locs cells slots Q (F0 m pc ls (.int (iI (j : Int)) :: .ref (ad (203 + i)) :: rest)) := x_ald C hM hk (cx_pg ad G σ hi) (z := (j : Int)) (by omega) (by omega) (by decide) (v := σ (225 + j) (i : Int)) (by rw [Int.toNat_natCast]; unfold rowF; rw [if_pos hj]) hdg kk
theorem x_idiv2 (C : Cx p s m meth c args cc nL own' D G) {a b : Int} (ha : 0 ≤ a ∧ IR a) (hb0 : b ≠ 0 ∧ IR b) (hdg : decode cc pc = .ok (.idiv, 1)) (kk : W p l e R s m args below meth c H locs cells slots Q (F0 m (pc + 1) ls (.int (iI (a / b)) :: rest))) : W p l e R s m args below meth c H locs cells slots Q (F0 m pc ls (.int (iI b) :: .int (iI a) :: rest)) := x_idiv C ha hb0 hdg (by rw [Int.tdiv_eq_ediv_of_nonneg ha.1]; exact kk)
theorem x_irem2 (C : Cx p s m meth c args cc nL own' D G) {a b : Int} (ha : 0 ≤ a ∧ IR a) (hb0 : b ≠ 0 ∧ IR b) (hdg : decode cc pc = .ok (.irem, 1)) (kk : W p l e R s m args below meth c H locs cells slots Q (F0 m (pc + 1) ls (.int (iI (a % b)) :: rest))) : W p l e R s m args below meth c H locs cells slots Q (F0 m pc ls (.int (iI b) :: .int (iI a) :: rest)) := x_irem C ha hb0 hdg (by rw [Int.tmod_eq_emod_of_nonneg ha.1]; exact kk)
theorem x_lrem2 (C : Cx p s m meth c args cc nL own' D G) {a b : Int} (ha : 0 ≤ a ∧ JR a) (hb0 : b ≠ 0 ∧ JR b) (hdg : decode cc pc = .ok (.lrem, 1)) (kk : W p l e R s m args below meth c H locs cells slots Q (F0 m (pc + 1) ls (.long (jI (a % b)) :: rest))) : W p l e R s m args below meth c H locs cells slots Q (F0 m pc ls (.long (jI b) :: .long (jI a) :: rest)) := x_lrem C ha hb0 hdg (by rw [Int.tmod_eq_emod_of_nonneg ha.1]; exact kk)
end XT
end
section
theorem zz_probe : (1 : Nat) = 1 := rfl
end
