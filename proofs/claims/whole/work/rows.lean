section
-- ===== PART A: goes FIRST, ahead of the names: the tables' words, and 'selects' of the private methods out of them =====
/-- a private method of a class that the tables say can be made, by its rows of tables_1 -/
def lw_okq (q : MethodName × Nat) : Prop := (q.1.cls ≠ "java/lang/invoke/MethodHandle" ∧ q.1.cls ≠ "java/lang/invoke/VarHandle") ∧ Cond.instantiable q.1.cls q.2 ∈ tables_1 ∧ Cond.privateMethod q.1 ∈ tables_1 ∧ Cond.instanceMethod q.1 ∈ tables_1
theorem lw_p0 : lw_okq (⟨"KindlingTree$Board", "isOtherThrough", "()Z"⟩, 4) := ⟨⟨by decide +kernel, by decide +kernel⟩, List.mem_of_getElem? (i := 73) (by decide +kernel), List.mem_of_getElem? (i := 275) (by decide +kernel), List.mem_of_getElem? (i := 276) (by decide +kernel)⟩
theorem lw_p1 : lw_okq (⟨"KindlingTree$Board", "listSteps", "(LKindlingTree$MoveList;II)V"⟩, 4) := ⟨⟨by decide +kernel, by decide +kernel⟩, List.mem_of_getElem? (i := 73) (by decide +kernel), List.mem_of_getElem? (i := 283) (by decide +kernel), List.mem_of_getElem? (i := 284) (by decide +kernel)⟩
theorem lw_p2 : lw_okq (⟨"KindlingTree", "isOver", "()Z"⟩, 8) := ⟨⟨by decide +kernel, by decide +kernel⟩, List.mem_of_getElem? (i := 24) (by decide +kernel), List.mem_of_getElem? (i := 388) (by decide +kernel), List.mem_of_getElem? (i := 389) (by decide +kernel)⟩
theorem lw_p3 : lw_okq (⟨"KindlingTree$Judge", "weighPawn", "(LKindlingTree$Board;III)I"⟩, 4) := ⟨⟨by decide +kernel, by decide +kernel⟩, List.mem_of_getElem? (i := 114) (by decide +kernel), List.mem_of_getElem? (i := 414) (by decide +kernel), List.mem_of_getElem? (i := 415) (by decide +kernel)⟩
theorem lw_p4 : lw_okq (⟨"KindlingTree$Table", "slotOf", "(J)I"⟩, 6) := ⟨⟨by decide +kernel, by decide +kernel⟩, List.mem_of_getElem? (i := 133) (by decide +kernel), List.mem_of_getElem? (i := 509) (by decide +kernel), List.mem_of_getElem? (i := 510) (by decide +kernel)⟩
theorem lw_p5 : lw_okq (⟨"KindlingTree$Table", "keyAt", "(I)J"⟩, 6) := ⟨⟨by decide +kernel, by decide +kernel⟩, List.mem_of_getElem? (i := 133) (by decide +kernel), List.mem_of_getElem? (i := 517) (by decide +kernel), List.mem_of_getElem? (i := 518) (by decide +kernel)⟩
theorem lw_p6 : lw_okq (⟨"KindlingTree$Book", "weightAt", "(I)I"⟩, 4) := ⟨⟨by decide +kernel, by decide +kernel⟩, List.mem_of_getElem? (i := 248) (by decide +kernel), List.mem_of_getElem? (i := 540) (by decide +kernel), List.mem_of_getElem? (i := 541) (by decide +kernel)⟩
theorem lw_p7 : lw_okq (⟨"KindlingTree", "addBoard", "(J)J"⟩, 8) := ⟨⟨by decide +kernel, by decide +kernel⟩, List.mem_of_getElem? (i := 24) (by decide +kernel), List.mem_of_getElem? (i := 561) (by decide +kernel), List.mem_of_getElem? (i := 562) (by decide +kernel)⟩
theorem lw_p8 : lw_okq (⟨"KindlingTree", "addMoves", "(J)J"⟩, 8) := ⟨⟨by decide +kernel, by decide +kernel⟩, List.mem_of_getElem? (i := 24) (by decide +kernel), List.mem_of_getElem? (i := 574) (by decide +kernel), List.mem_of_getElem? (i := 575) (by decide +kernel)⟩
theorem lw_p9 : lw_okq (⟨"KindlingTree$Valuer", "countWays", "(I)I"⟩, 3) := ⟨⟨by decide +kernel, by decide +kernel⟩, List.mem_of_getElem? (i := 159) (by decide +kernel), List.mem_of_getElem? (i := 579) (by decide +kernel), List.mem_of_getElem? (i := 580) (by decide +kernel)⟩
theorem lw_p10 : lw_okq (⟨"KindlingTree$Valuer", "countBehind", "(II)I"⟩, 3) := ⟨⟨by decide +kernel, by decide +kernel⟩, List.mem_of_getElem? (i := 159) (by decide +kernel), List.mem_of_getElem? (i := 594) (by decide +kernel), List.mem_of_getElem? (i := 595) (by decide +kernel)⟩
theorem lw_p11 : lw_okq (⟨"KindlingTree$Valuer", "worth", "(III)I"⟩, 3) := ⟨⟨by decide +kernel, by decide +kernel⟩, List.mem_of_getElem? (i := 159) (by decide +kernel), List.mem_of_getElem? (i := 613) (by decide +kernel), List.mem_of_getElem? (i := 614) (by decide +kernel)⟩
theorem lw_p12 : lw_okq (⟨"KindlingTree$Quiet", "lookOn", "(III)I"⟩, 4) := ⟨⟨by decide +kernel, by decide +kernel⟩, List.mem_of_getElem? (i := 161) (by decide +kernel), List.mem_of_getElem? (i := 617) (by decide +kernel), List.mem_of_getElem? (i := 618) (by decide +kernel)⟩
theorem lw_p13 : lw_okq (⟨"KindlingTree$Quiet", "behind", "(IIII)I"⟩, 4) := ⟨⟨by decide +kernel, by decide +kernel⟩, List.mem_of_getElem? (i := 161) (by decide +kernel), List.mem_of_getElem? (i := 634) (by decide +kernel), List.mem_of_getElem? (i := 635) (by decide +kernel)⟩
theorem lw_p14 : lw_okq (⟨"KindlingTree$Valuer", "worthBehind", "(IIII)I"⟩, 3) := ⟨⟨by decide +kernel, by decide +kernel⟩, List.mem_of_getElem? (i := 159) (by decide +kernel), List.mem_of_getElem? (i := 641) (by decide +kernel), List.mem_of_getElem? (i := 642) (by decide +kernel)⟩
theorem lw_p15 : lw_okq (⟨"KindlingTree", "addSearch", "(J)J"⟩, 8) := ⟨⟨by decide +kernel, by decide +kernel⟩, List.mem_of_getElem? (i := 24) (by decide +kernel), List.mem_of_getElem? (i := 647) (by decide +kernel), List.mem_of_getElem? (i := 648) (by decide +kernel)⟩
def lw_privs_1 : List (MethodName × Nat) := [(⟨"KindlingTree$Board", "isOtherThrough", "()Z"⟩, 4), (⟨"KindlingTree$Board", "listSteps", "(LKindlingTree$MoveList;II)V"⟩, 4), (⟨"KindlingTree", "isOver", "()Z"⟩, 8), (⟨"KindlingTree$Judge", "weighPawn", "(LKindlingTree$Board;III)I"⟩, 4), (⟨"KindlingTree$Table", "slotOf", "(J)I"⟩, 6), (⟨"KindlingTree$Table", "keyAt", "(I)J"⟩, 6), (⟨"KindlingTree$Book", "weightAt", "(I)I"⟩, 4), (⟨"KindlingTree", "addBoard", "(J)J"⟩, 8), (⟨"KindlingTree", "addMoves", "(J)J"⟩, 8), (⟨"KindlingTree$Valuer", "countWays", "(I)I"⟩, 3), (⟨"KindlingTree$Valuer", "countBehind", "(II)I"⟩, 3), (⟨"KindlingTree$Valuer", "worth", "(III)I"⟩, 3), (⟨"KindlingTree$Quiet", "lookOn", "(III)I"⟩, 4), (⟨"KindlingTree$Quiet", "behind", "(IIII)I"⟩, 4), (⟨"KindlingTree$Valuer", "worthBehind", "(IIII)I"⟩, 3), (⟨"KindlingTree", "addSearch", "(J)J"⟩, 8)]
theorem lw_r1 : ∀ q ∈ lw_privs_1, lw_okq q := List.forall_mem_cons.mpr ⟨lw_p0, List.forall_mem_cons.mpr ⟨lw_p1, List.forall_mem_cons.mpr ⟨lw_p2, List.forall_mem_cons.mpr ⟨lw_p3, List.forall_mem_cons.mpr ⟨lw_p4, List.forall_mem_cons.mpr ⟨lw_p5, List.forall_mem_cons.mpr ⟨lw_p6, List.forall_mem_cons.mpr ⟨lw_p7, List.forall_mem_cons.mpr ⟨lw_p8, List.forall_mem_cons.mpr ⟨lw_p9, List.forall_mem_cons.mpr ⟨lw_p10, List.forall_mem_cons.mpr ⟨lw_p11, List.forall_mem_cons.mpr ⟨lw_p12, List.forall_mem_cons.mpr ⟨lw_p13, List.forall_mem_cons.mpr ⟨lw_p14, List.forall_mem_cons.mpr ⟨lw_p15, fun _ h => absurd h List.not_mem_nil⟩⟩⟩⟩⟩⟩⟩⟩⟩⟩⟩⟩⟩⟩⟩⟩
theorem lw_p16 : lw_okq (⟨"KindlingTree", "addTable", "(J)J"⟩, 8) := ⟨⟨by decide +kernel, by decide +kernel⟩, List.mem_of_getElem? (i := 24) (by decide +kernel), List.mem_of_getElem? (i := 651) (by decide +kernel), List.mem_of_getElem? (i := 652) (by decide +kernel)⟩
theorem lw_p17 : lw_okq (⟨"KindlingTree$Table", "kindAt", "(I)I"⟩, 6) := ⟨⟨by decide +kernel, by decide +kernel⟩, List.mem_of_getElem? (i := 133) (by decide +kernel), List.mem_of_getElem? (i := 663) (by decide +kernel), List.mem_of_getElem? (i := 664) (by decide +kernel)⟩
theorem lw_p18 : lw_okq (⟨"java/lang/Throwable", "fillInStackTrace", "(I)Ljava/lang/Throwable;"⟩, 6) := ⟨⟨by decide +kernel, by decide +kernel⟩, List.mem_of_getElem? (i := 722) (by decide +kernel), List.mem_of_getElem? (i := 720) (by decide +kernel), List.mem_of_getElem? (i := 721) (by decide +kernel)⟩
theorem lw_p19 : lw_okq (⟨"KindlingTree", "startAnew", "()V"⟩, 8) := ⟨⟨by decide +kernel, by decide +kernel⟩, List.mem_of_getElem? (i := 24) (by decide +kernel), List.mem_of_getElem? (i := 756) (by decide +kernel), List.mem_of_getElem? (i := 757) (by decide +kernel)⟩
theorem lw_p20 : lw_okq (⟨"KindlingTree", "playHere", "(I)I"⟩, 8) := ⟨⟨by decide +kernel, by decide +kernel⟩, List.mem_of_getElem? (i := 24) (by decide +kernel), List.mem_of_getElem? (i := 839) (by decide +kernel), List.mem_of_getElem? (i := 840) (by decide +kernel)⟩
theorem lw_p21 : lw_okq (⟨"KindlingTree$Trail", "forgetOldest", "()V"⟩, 3) := ⟨⟨by decide +kernel, by decide +kernel⟩, List.mem_of_getElem? (i := 98) (by decide +kernel), List.mem_of_getElem? (i := 848) (by decide +kernel), List.mem_of_getElem? (i := 849) (by decide +kernel)⟩
theorem lw_p22 : lw_okq (⟨"KindlingTree$Seeker", "explore", "(III)I"⟩, 10) := ⟨⟨by decide +kernel, by decide +kernel⟩, List.mem_of_getElem? (i := 194) (by decide +kernel), List.mem_of_getElem? (i := 970) (by decide +kernel), List.mem_of_getElem? (i := 971) (by decide +kernel)⟩
theorem lw_p23 : lw_okq (⟨"KindlingTree$MoveList", "place", "(I)V"⟩, 6) := ⟨⟨by decide +kernel, by decide +kernel⟩, List.mem_of_getElem? (i := 39) (by decide +kernel), List.mem_of_getElem? (i := 994) (by decide +kernel), List.mem_of_getElem? (i := 995) (by decide +kernel)⟩
theorem lw_p24 : lw_okq (⟨"KindlingTree$Seeker", "tryMoves", "(LKindlingTree$MoveList;JIII)I"⟩, 10) := ⟨⟨by decide +kernel, by decide +kernel⟩, List.mem_of_getElem? (i := 194) (by decide +kernel), List.mem_of_getElem? (i := 999) (by decide +kernel), List.mem_of_getElem? (i := 1000) (by decide +kernel)⟩
theorem lw_p25 : lw_okq (⟨"KindlingTree$Seeker", "behind", "(IIII)I"⟩, 10) := ⟨⟨by decide +kernel, by decide +kernel⟩, List.mem_of_getElem? (i := 194) (by decide +kernel), List.mem_of_getElem? (i := 1008) (by decide +kernel), List.mem_of_getElem? (i := 1009) (by decide +kernel)⟩
theorem lw_p26 : lw_okq (⟨"KindlingTree$Seeker", "noteCut", "(LKindlingTree$MoveList;II)V"⟩, 10) := ⟨⟨by decide +kernel, by decide +kernel⟩, List.mem_of_getElem? (i := 194) (by decide +kernel), List.mem_of_getElem? (i := 1015) (by decide +kernel), List.mem_of_getElem? (i := 1016) (by decide +kernel)⟩
theorem lw_p27 : lw_okq (⟨"KindlingTree", "goOn", "(I)I"⟩, 8) := ⟨⟨by decide +kernel, by decide +kernel⟩, List.mem_of_getElem? (i := 24) (by decide +kernel), List.mem_of_getElem? (i := 1069) (by decide +kernel), List.mem_of_getElem? (i := 1070) (by decide +kernel)⟩
theorem lw_p28 : lw_okq (⟨"KindlingTreeModel", "lay", "(III)V"⟩, 26) := ⟨⟨by decide +kernel, by decide +kernel⟩, List.mem_of_getElem? (i := 1082) (by decide +kernel), List.mem_of_getElem? (i := 1090) (by decide +kernel), List.mem_of_getElem? (i := 1091) (by decide +kernel)⟩
theorem lw_p29 : lw_okq (⟨"KindlingTreeModel", "clear", "(I)I"⟩, 26) := ⟨⟨by decide +kernel, by decide +kernel⟩, List.mem_of_getElem? (i := 1082) (by decide +kernel), List.mem_of_getElem? (i := 1094) (by decide +kernel), List.mem_of_getElem? (i := 1095) (by decide +kernel)⟩
theorem lw_p30 : lw_okq (⟨"KindlingTreeModel", "entriesNow", "()I"⟩, 26) := ⟨⟨by decide +kernel, by decide +kernel⟩, List.mem_of_getElem? (i := 1082) (by decide +kernel), List.mem_of_getElem? (i := 1098) (by decide +kernel), List.mem_of_getElem? (i := 1099) (by decide +kernel)⟩
theorem lw_p31 : lw_okq (⟨"KindlingTreeModel", "refuse", "(I)I"⟩, 26) := ⟨⟨by decide +kernel, by decide +kernel⟩, List.mem_of_getElem? (i := 1082) (by decide +kernel), List.mem_of_getElem? (i := 1192) (by decide +kernel), List.mem_of_getElem? (i := 1193) (by decide +kernel)⟩
def lw_privs_2 : List (MethodName × Nat) := [(⟨"KindlingTree", "addTable", "(J)J"⟩, 8), (⟨"KindlingTree$Table", "kindAt", "(I)I"⟩, 6), (⟨"java/lang/Throwable", "fillInStackTrace", "(I)Ljava/lang/Throwable;"⟩, 6), (⟨"KindlingTree", "startAnew", "()V"⟩, 8), (⟨"KindlingTree", "playHere", "(I)I"⟩, 8), (⟨"KindlingTree$Trail", "forgetOldest", "()V"⟩, 3), (⟨"KindlingTree$Seeker", "explore", "(III)I"⟩, 10), (⟨"KindlingTree$MoveList", "place", "(I)V"⟩, 6), (⟨"KindlingTree$Seeker", "tryMoves", "(LKindlingTree$MoveList;JIII)I"⟩, 10), (⟨"KindlingTree$Seeker", "behind", "(IIII)I"⟩, 10), (⟨"KindlingTree$Seeker", "noteCut", "(LKindlingTree$MoveList;II)V"⟩, 10), (⟨"KindlingTree", "goOn", "(I)I"⟩, 8), (⟨"KindlingTreeModel", "lay", "(III)V"⟩, 26), (⟨"KindlingTreeModel", "clear", "(I)I"⟩, 26), (⟨"KindlingTreeModel", "entriesNow", "()I"⟩, 26), (⟨"KindlingTreeModel", "refuse", "(I)I"⟩, 26)]
theorem lw_r2 : ∀ q ∈ lw_privs_2, lw_okq q := List.forall_mem_cons.mpr ⟨lw_p16, List.forall_mem_cons.mpr ⟨lw_p17, List.forall_mem_cons.mpr ⟨lw_p18, List.forall_mem_cons.mpr ⟨lw_p19, List.forall_mem_cons.mpr ⟨lw_p20, List.forall_mem_cons.mpr ⟨lw_p21, List.forall_mem_cons.mpr ⟨lw_p22, List.forall_mem_cons.mpr ⟨lw_p23, List.forall_mem_cons.mpr ⟨lw_p24, List.forall_mem_cons.mpr ⟨lw_p25, List.forall_mem_cons.mpr ⟨lw_p26, List.forall_mem_cons.mpr ⟨lw_p27, List.forall_mem_cons.mpr ⟨lw_p28, List.forall_mem_cons.mpr ⟨lw_p29, List.forall_mem_cons.mpr ⟨lw_p30, List.forall_mem_cons.mpr ⟨lw_p31, fun _ h => absurd h List.not_mem_nil⟩⟩⟩⟩⟩⟩⟩⟩⟩⟩⟩⟩⟩⟩⟩⟩
theorem lw_p32 : lw_okq (⟨"KindlingTreeModel", "isField", "(I)Z"⟩, 26) := ⟨⟨by decide +kernel, by decide +kernel⟩, List.mem_of_getElem? (i := 1082) (by decide +kernel), List.mem_of_getElem? (i := 1200) (by decide +kernel), List.mem_of_getElem? (i := 1201) (by decide +kernel)⟩
theorem lw_p33 : lw_okq (⟨"KindlingTreeModel", "pawns", "(I)I"⟩, 26) := ⟨⟨by decide +kernel, by decide +kernel⟩, List.mem_of_getElem? (i := 1082) (by decide +kernel), List.mem_of_getElem? (i := 1204) (by decide +kernel), List.mem_of_getElem? (i := 1205) (by decide +kernel)⟩
theorem lw_p34 : lw_okq (⟨"KindlingTreeModel", "sideNow", "()I"⟩, 26) := ⟨⟨by decide +kernel, by decide +kernel⟩, List.mem_of_getElem? (i := 1082) (by decide +kernel), List.mem_of_getElem? (i := 1212) (by decide +kernel), List.mem_of_getElem? (i := 1213) (by decide +kernel)⟩
theorem lw_p35 : lw_okq (⟨"KindlingTreeModel", "isMove", "(I)Z"⟩, 26) := ⟨⟨by decide +kernel, by decide +kernel⟩, List.mem_of_getElem? (i := 1082) (by decide +kernel), List.mem_of_getElem? (i := 1220) (by decide +kernel), List.mem_of_getElem? (i := 1221) (by decide +kernel)⟩
theorem lw_p36 : lw_okq (⟨"KindlingTreeModel", "list", "(I)I"⟩, 26) := ⟨⟨by decide +kernel, by decide +kernel⟩, List.mem_of_getElem? (i := 1082) (by decide +kernel), List.mem_of_getElem? (i := 1224) (by decide +kernel), List.mem_of_getElem? (i := 1225) (by decide +kernel)⟩
theorem lw_p37 : lw_okq (⟨"KindlingTreeModel", "isLostNow", "()Z"⟩, 26) := ⟨⟨by decide +kernel, by decide +kernel⟩, List.mem_of_getElem? (i := 1082) (by decide +kernel), List.mem_of_getElem? (i := 1228) (by decide +kernel), List.mem_of_getElem? (i := 1229) (by decide +kernel)⟩
theorem lw_p38 : lw_okq (⟨"KindlingTreeModel", "goal", "(I)I"⟩, 26) := ⟨⟨by decide +kernel, by decide +kernel⟩, List.mem_of_getElem? (i := 1082) (by decide +kernel), List.mem_of_getElem? (i := 1232) (by decide +kernel), List.mem_of_getElem? (i := 1233) (by decide +kernel)⟩
theorem lw_p39 : lw_okq (⟨"KindlingTreeModel", "countSteps", "(I)I"⟩, 26) := ⟨⟨by decide +kernel, by decide +kernel⟩, List.mem_of_getElem? (i := 1082) (by decide +kernel), List.mem_of_getElem? (i := 1236) (by decide +kernel), List.mem_of_getElem? (i := 1237) (by decide +kernel)⟩
theorem lw_p40 : lw_okq (⟨"KindlingTreeModel", "isStep", "(III)Z"⟩, 26) := ⟨⟨by decide +kernel, by decide +kernel⟩, List.mem_of_getElem? (i := 1082) (by decide +kernel), List.mem_of_getElem? (i := 1240) (by decide +kernel), List.mem_of_getElem? (i := 1241) (by decide +kernel)⟩
theorem lw_p41 : lw_okq (⟨"KindlingTreeModel", "target", "(III)I"⟩, 26) := ⟨⟨by decide +kernel, by decide +kernel⟩, List.mem_of_getElem? (i := 1082) (by decide +kernel), List.mem_of_getElem? (i := 1244) (by decide +kernel), List.mem_of_getElem? (i := 1245) (by decide +kernel)⟩
theorem lw_p42 : lw_okq (⟨"KindlingTreeModel", "playNow", "(I)I"⟩, 26) := ⟨⟨by decide +kernel, by decide +kernel⟩, List.mem_of_getElem? (i := 1082) (by decide +kernel), List.mem_of_getElem? (i := 1248) (by decide +kernel), List.mem_of_getElem? (i := 1249) (by decide +kernel)⟩
theorem lw_p43 : lw_okq (⟨"KindlingTreeModel", "make", "(I)I"⟩, 26) := ⟨⟨by decide +kernel, by decide +kernel⟩, List.mem_of_getElem? (i := 1082) (by decide +kernel), List.mem_of_getElem? (i := 1255) (by decide +kernel), List.mem_of_getElem? (i := 1256) (by decide +kernel)⟩
theorem lw_p44 : lw_okq (⟨"KindlingTreeModel", "unmake", "(II)V"⟩, 26) := ⟨⟨by decide +kernel, by decide +kernel⟩, List.mem_of_getElem? (i := 1082) (by decide +kernel), List.mem_of_getElem? (i := 1263) (by decide +kernel), List.mem_of_getElem? (i := 1264) (by decide +kernel)⟩
theorem lw_p45 : lw_okq (⟨"KindlingTreeModel", "evaluated", "()I"⟩, 26) := ⟨⟨by decide +kernel, by decide +kernel⟩, List.mem_of_getElem? (i := 1082) (by decide +kernel), List.mem_of_getElem? (i := 1271) (by decide +kernel), List.mem_of_getElem? (i := 1272) (by decide +kernel)⟩
theorem lw_p46 : lw_okq (⟨"KindlingTreeModel", "worth", "(I)I"⟩, 26) := ⟨⟨by decide +kernel, by decide +kernel⟩, List.mem_of_getElem? (i := 1082) (by decide +kernel), List.mem_of_getElem? (i := 1275) (by decide +kernel), List.mem_of_getElem? (i := 1276) (by decide +kernel)⟩
theorem lw_p47 : lw_okq (⟨"KindlingTreeModel", "isTaking", "(I)Z"⟩, 26) := ⟨⟨by decide +kernel, by decide +kernel⟩, List.mem_of_getElem? (i := 1082) (by decide +kernel), List.mem_of_getElem? (i := 1330) (by decide +kernel), List.mem_of_getElem? (i := 1331) (by decide +kernel)⟩
def lw_privs_3 : List (MethodName × Nat) := [(⟨"KindlingTreeModel", "isField", "(I)Z"⟩, 26), (⟨"KindlingTreeModel", "pawns", "(I)I"⟩, 26), (⟨"KindlingTreeModel", "sideNow", "()I"⟩, 26), (⟨"KindlingTreeModel", "isMove", "(I)Z"⟩, 26), (⟨"KindlingTreeModel", "list", "(I)I"⟩, 26), (⟨"KindlingTreeModel", "isLostNow", "()Z"⟩, 26), (⟨"KindlingTreeModel", "goal", "(I)I"⟩, 26), (⟨"KindlingTreeModel", "countSteps", "(I)I"⟩, 26), (⟨"KindlingTreeModel", "isStep", "(III)Z"⟩, 26), (⟨"KindlingTreeModel", "target", "(III)I"⟩, 26), (⟨"KindlingTreeModel", "playNow", "(I)I"⟩, 26), (⟨"KindlingTreeModel", "make", "(I)I"⟩, 26), (⟨"KindlingTreeModel", "unmake", "(II)V"⟩, 26), (⟨"KindlingTreeModel", "evaluated", "()I"⟩, 26), (⟨"KindlingTreeModel", "worth", "(I)I"⟩, 26), (⟨"KindlingTreeModel", "isTaking", "(I)Z"⟩, 26)]
theorem lw_r3 : ∀ q ∈ lw_privs_3, lw_okq q := List.forall_mem_cons.mpr ⟨lw_p32, List.forall_mem_cons.mpr ⟨lw_p33, List.forall_mem_cons.mpr ⟨lw_p34, List.forall_mem_cons.mpr ⟨lw_p35, List.forall_mem_cons.mpr ⟨lw_p36, List.forall_mem_cons.mpr ⟨lw_p37, List.forall_mem_cons.mpr ⟨lw_p38, List.forall_mem_cons.mpr ⟨lw_p39, List.forall_mem_cons.mpr ⟨lw_p40, List.forall_mem_cons.mpr ⟨lw_p41, List.forall_mem_cons.mpr ⟨lw_p42, List.forall_mem_cons.mpr ⟨lw_p43, List.forall_mem_cons.mpr ⟨lw_p44, List.forall_mem_cons.mpr ⟨lw_p45, List.forall_mem_cons.mpr ⟨lw_p46, List.forall_mem_cons.mpr ⟨lw_p47, fun _ h => absurd h List.not_mem_nil⟩⟩⟩⟩⟩⟩⟩⟩⟩⟩⟩⟩⟩⟩⟩⟩
theorem lw_p48 : lw_okq (⟨"KindlingTreeModel", "keyNow", "()J"⟩, 26) := ⟨⟨by decide +kernel, by decide +kernel⟩, List.mem_of_getElem? (i := 1082) (by decide +kernel), List.mem_of_getElem? (i := 1342) (by decide +kernel), List.mem_of_getElem? (i := 1343) (by decide +kernel)⟩
theorem lw_p49 : lw_okq (⟨"KindlingTreeModel", "waysNow", "(II)I"⟩, 26) := ⟨⟨by decide +kernel, by decide +kernel⟩, List.mem_of_getElem? (i := 1082) (by decide +kernel), List.mem_of_getElem? (i := 1356) (by decide +kernel), List.mem_of_getElem? (i := 1357) (by decide +kernel)⟩
theorem lw_p50 : lw_okq (⟨"KindlingTreeModel", "valueNow", "(II)I"⟩, 26) := ⟨⟨by decide +kernel, by decide +kernel⟩, List.mem_of_getElem? (i := 1082) (by decide +kernel), List.mem_of_getElem? (i := 1364) (by decide +kernel), List.mem_of_getElem? (i := 1365) (by decide +kernel)⟩
theorem lw_p51 : lw_okq (⟨"KindlingTreeModel", "quietValue", "(II)I"⟩, 26) := ⟨⟨by decide +kernel, by decide +kernel⟩, List.mem_of_getElem? (i := 1082) (by decide +kernel), List.mem_of_getElem? (i := 1368) (by decide +kernel), List.mem_of_getElem? (i := 1369) (by decide +kernel)⟩
theorem lw_p52 : lw_okq (⟨"KindlingTreeModel", "valueBehind", "(III)I"⟩, 26) := ⟨⟨by decide +kernel, by decide +kernel⟩, List.mem_of_getElem? (i := 1082) (by decide +kernel), List.mem_of_getElem? (i := 1374) (by decide +kernel), List.mem_of_getElem? (i := 1375) (by decide +kernel)⟩
theorem lw_p53 : lw_okq (⟨"KindlingTreeModel", "searchNow", "(I)I"⟩, 26) := ⟨⟨by decide +kernel, by decide +kernel⟩, List.mem_of_getElem? (i := 1082) (by decide +kernel), List.mem_of_getElem? (i := 1386) (by decide +kernel), List.mem_of_getElem? (i := 1387) (by decide +kernel)⟩
theorem lw_p54 : lw_okq (⟨"KindlingTreeModel", "searched", "(IIII)I"⟩, 26) := ⟨⟨by decide +kernel, by decide +kernel⟩, List.mem_of_getElem? (i := 1082) (by decide +kernel), List.mem_of_getElem? (i := 1393) (by decide +kernel), List.mem_of_getElem? (i := 1394) (by decide +kernel)⟩
theorem lw_p55 : lw_okq (⟨"KindlingTreeModel", "quietly", "(IIII)I"⟩, 26) := ⟨⟨by decide +kernel, by decide +kernel⟩, List.mem_of_getElem? (i := 1082) (by decide +kernel), List.mem_of_getElem? (i := 1397) (by decide +kernel), List.mem_of_getElem? (i := 1398) (by decide +kernel)⟩
theorem lw_p56 : lw_okq (⟨"KindlingTreeModel", "slotOf", "(J)I"⟩, 26) := ⟨⟨by decide +kernel, by decide +kernel⟩, List.mem_of_getElem? (i := 1082) (by decide +kernel), List.mem_of_getElem? (i := 1401) (by decide +kernel), List.mem_of_getElem? (i := 1402) (by decide +kernel)⟩
theorem lw_p57 : lw_okq (⟨"KindlingTreeModel", "order", "(III)I"⟩, 26) := ⟨⟨by decide +kernel, by decide +kernel⟩, List.mem_of_getElem? (i := 1082) (by decide +kernel), List.mem_of_getElem? (i := 1408) (by decide +kernel), List.mem_of_getElem? (i := 1409) (by decide +kernel)⟩
theorem lw_p58 : lw_okq (⟨"KindlingTreeModel", "want", "(IIII)I"⟩, 26) := ⟨⟨by decide +kernel, by decide +kernel⟩, List.mem_of_getElem? (i := 1082) (by decide +kernel), List.mem_of_getElem? (i := 1412) (by decide +kernel), List.mem_of_getElem? (i := 1413) (by decide +kernel)⟩
theorem lw_p59 : lw_okq (⟨"KindlingTreeModel", "cut", "(II)V"⟩, 26) := ⟨⟨by decide +kernel, by decide +kernel⟩, List.mem_of_getElem? (i := 1082) (by decide +kernel), List.mem_of_getElem? (i := 1419) (by decide +kernel), List.mem_of_getElem? (i := 1420) (by decide +kernel)⟩
theorem lw_p60 : lw_okq (⟨"KindlingTreeModel", "keep", "(IIII)V"⟩, 26) := ⟨⟨by decide +kernel, by decide +kernel⟩, List.mem_of_getElem? (i := 1082) (by decide +kernel), List.mem_of_getElem? (i := 1423) (by decide +kernel), List.mem_of_getElem? (i := 1424) (by decide +kernel)⟩
theorem lw_p61 : lw_okq (⟨"KindlingTreeModel", "killerAt", "(II)I"⟩, 26) := ⟨⟨by decide +kernel, by decide +kernel⟩, List.mem_of_getElem? (i := 1082) (by decide +kernel), List.mem_of_getElem? (i := 1455) (by decide +kernel), List.mem_of_getElem? (i := 1456) (by decide +kernel)⟩
theorem lw_p62 : lw_okq (⟨"KindlingTreeModel", "toldOf", "(II)I"⟩, 26) := ⟨⟨by decide +kernel, by decide +kernel⟩, List.mem_of_getElem? (i := 1082) (by decide +kernel), List.mem_of_getElem? (i := 1471) (by decide +kernel), List.mem_of_getElem? (i := 1472) (by decide +kernel)⟩
theorem lw_p63 : lw_okq (⟨"KindlingTreeModel", "knownNow", "()I"⟩, 26) := ⟨⟨by decide +kernel, by decide +kernel⟩, List.mem_of_getElem? (i := 1082) (by decide +kernel), List.mem_of_getElem? (i := 1479) (by decide +kernel), List.mem_of_getElem? (i := 1480) (by decide +kernel)⟩
def lw_privs_4 : List (MethodName × Nat) := [(⟨"KindlingTreeModel", "keyNow", "()J"⟩, 26), (⟨"KindlingTreeModel", "waysNow", "(II)I"⟩, 26), (⟨"KindlingTreeModel", "valueNow", "(II)I"⟩, 26), (⟨"KindlingTreeModel", "quietValue", "(II)I"⟩, 26), (⟨"KindlingTreeModel", "valueBehind", "(III)I"⟩, 26), (⟨"KindlingTreeModel", "searchNow", "(I)I"⟩, 26), (⟨"KindlingTreeModel", "searched", "(IIII)I"⟩, 26), (⟨"KindlingTreeModel", "quietly", "(IIII)I"⟩, 26), (⟨"KindlingTreeModel", "slotOf", "(J)I"⟩, 26), (⟨"KindlingTreeModel", "order", "(III)I"⟩, 26), (⟨"KindlingTreeModel", "want", "(IIII)I"⟩, 26), (⟨"KindlingTreeModel", "cut", "(II)V"⟩, 26), (⟨"KindlingTreeModel", "keep", "(IIII)V"⟩, 26), (⟨"KindlingTreeModel", "killerAt", "(II)I"⟩, 26), (⟨"KindlingTreeModel", "toldOf", "(II)I"⟩, 26), (⟨"KindlingTreeModel", "knownNow", "()I"⟩, 26)]
theorem lw_r4 : ∀ q ∈ lw_privs_4, lw_okq q := List.forall_mem_cons.mpr ⟨lw_p48, List.forall_mem_cons.mpr ⟨lw_p49, List.forall_mem_cons.mpr ⟨lw_p50, List.forall_mem_cons.mpr ⟨lw_p51, List.forall_mem_cons.mpr ⟨lw_p52, List.forall_mem_cons.mpr ⟨lw_p53, List.forall_mem_cons.mpr ⟨lw_p54, List.forall_mem_cons.mpr ⟨lw_p55, List.forall_mem_cons.mpr ⟨lw_p56, List.forall_mem_cons.mpr ⟨lw_p57, List.forall_mem_cons.mpr ⟨lw_p58, List.forall_mem_cons.mpr ⟨lw_p59, List.forall_mem_cons.mpr ⟨lw_p60, List.forall_mem_cons.mpr ⟨lw_p61, List.forall_mem_cons.mpr ⟨lw_p62, List.forall_mem_cons.mpr ⟨lw_p63, fun _ h => absurd h List.not_mem_nil⟩⟩⟩⟩⟩⟩⟩⟩⟩⟩⟩⟩⟩⟩⟩⟩
theorem lw_p64 : lw_okq (⟨"KindlingTreeModel", "pageOf", "(JI)I"⟩, 26) := ⟨⟨by decide +kernel, by decide +kernel⟩, List.mem_of_getElem? (i := 1082) (by decide +kernel), List.mem_of_getElem? (i := 1487) (by decide +kernel), List.mem_of_getElem? (i := 1488) (by decide +kernel)⟩
theorem lw_p65 : lw_okq (⟨"KindlingTreeModel", "toldNow", "()I"⟩, 26) := ⟨⟨by decide +kernel, by decide +kernel⟩, List.mem_of_getElem? (i := 1082) (by decide +kernel), List.mem_of_getElem? (i := 1495) (by decide +kernel), List.mem_of_getElem? (i := 1496) (by decide +kernel)⟩
theorem lw_p66 : lw_okq (⟨"KindlingTreeModel", "goNow", "(I)I"⟩, 26) := ⟨⟨by decide +kernel, by decide +kernel⟩, List.mem_of_getElem? (i := 1082) (by decide +kernel), List.mem_of_getElem? (i := 1503) (by decide +kernel), List.mem_of_getElem? (i := 1504) (by decide +kernel)⟩
theorem lw_p67 : lw_okq (⟨"KindlingTreeModel", "add", "(J)V"⟩, 26) := ⟨⟨by decide +kernel, by decide +kernel⟩, List.mem_of_getElem? (i := 1082) (by decide +kernel), List.mem_of_getElem? (i := 1524) (by decide +kernel), List.mem_of_getElem? (i := 1525) (by decide +kernel)⟩
def lw_privs_5 : List (MethodName × Nat) := [(⟨"KindlingTreeModel", "pageOf", "(JI)I"⟩, 26), (⟨"KindlingTreeModel", "toldNow", "()I"⟩, 26), (⟨"KindlingTreeModel", "goNow", "(I)I"⟩, 26), (⟨"KindlingTreeModel", "add", "(J)V"⟩, 26)]
theorem lw_r5 : ∀ q ∈ lw_privs_5, lw_okq q := List.forall_mem_cons.mpr ⟨lw_p64, List.forall_mem_cons.mpr ⟨lw_p65, List.forall_mem_cons.mpr ⟨lw_p66, List.forall_mem_cons.mpr ⟨lw_p67, fun _ h => absurd h List.not_mem_nil⟩⟩⟩⟩
def lw_privs : List (MethodName × Nat) := lw_privs_1 ++ (lw_privs_2 ++ (lw_privs_3 ++ (lw_privs_4 ++ (lw_privs_5))))
def lw_tbl : List Cond := k2_sels lw_privs ++ tables_1
theorem lw_privs_ok : ∀ q ∈ lw_privs, lw_okq q := by
  show ∀ q ∈ lw_privs_1 ++ (lw_privs_2 ++ (lw_privs_3 ++ (lw_privs_4 ++ (lw_privs_5)))), lw_okq q
  exact List.forall_mem_append.mpr ⟨lw_r1, List.forall_mem_append.mpr ⟨lw_r2, List.forall_mem_append.mpr ⟨lw_r3, List.forall_mem_append.mpr ⟨lw_r4, lw_r5⟩⟩⟩⟩
/-- the streams that the claim lets the run draw from -/
abbrev lw_cs : List Choice := [Jvm.Choice.named "NaN.bits"]
theorem lw_bits : nanBits ∈ lw_cs := by first | decide | exact List.mem_cons_self | simp [lw_cs, nanBits]
-- ===== end of PART A; then your names; then what follows =====
end
section
/-- what the names' rows lack: an array class over arrays, as a word of the tables -/
def va_AOA (t : FieldType) (U : State) : Prop := (Cond.arrayOver (.array t)).before #[] U = true
theorem va_AOA.use {t : FieldType} {A : Array Value} {U : State} (h : va_AOA t U) : (Cond.arrayOver (.array t)).before A U = true := h
end
section
/-! ===== BEGIN words of one list among another's, by their places ===== -/
theorem goodIn_r {big : List Cond} (ws : List Cond) (ps : List Nat) (hp : ws = ps.filterMap (fun i => big[i]?)) (h : ws.all goodWord = true) : GoodIn big ws := by
  intro w hw
  have h1 := List.all_eq_true.mp h w hw
  rw [hp] at hw
  obtain ⟨i, -, hi⟩ := List.mem_filterMap.mp hw
  have hm : w ∈ big := by first | exact List.mem_of_getElem? hi | exact List.getElem?_mem hi
  exact ⟨hm, good_of_word h1⟩
theorem goodIn_app {big a b : List Cond} (ha : GoodIn big a) (hb : GoodIn big b) : GoodIn big (a ++ b) := fun w h => (List.mem_append.mp h).elim (ha w) (hb w)
theorem goodIn_ca {big a b : List Cond} {c : Cond} (ha : GoodIn big (c :: a)) (hb : GoodIn big b) : GoodIn big (c :: (a ++ b)) := fun w h => (List.mem_cons.mp h).elim (fun e => ha w (List.mem_cons.mpr (Or.inl e))) (fun h => (List.mem_append.mp h).elim (fun h => ha w (List.mem_cons.mpr (Or.inr h))) (hb w))
theorem goodIn_sub {big ws : List Cond} (hm : ∀ w ∈ ws, w ∈ big) (h : ws.all goodWord = true) : GoodIn big ws := fun w hw => ⟨hm w hw, good_of_word (List.all_eq_true.mp h w hw)⟩
/-! ===== END ===== -/

/-! ===== BEGIN new T[n][m]: the outer array a place, the inner ones among the pooled ===== -/
/-- f, but v at every address of l -/
def vr_up {α : Type} (f : Nat → α) (l : List Nat) (v : α) : Nat → α := fun a => if a ∈ l then v else f a
theorem vr_up_in {α : Type} {f : Nat → α} {l : List Nat} {v : α} {a : Nat} (h : a ∈ l) : vr_up f l v a = v := if_pos h
theorem vr_up_ne {α : Type} {f : Nat → α} {l : List Nat} {v : α} {a : Nat} (h : a ∉ l) : vr_up f l v a = f a := if_neg h
theorem vr_rows {L l : List Nat} {f : Nat → va_E} {e : va_E} (h : ∀ a, a ∈ l → a ∉ L) : va_pl L f ++ l.map (fun a => (a, e)) = va_pl (L ++ l) (vr_up f l e) := by
  unfold va_pl
  rw [List.map_append]
  congr 1
  · apply List.map_congr_left
    intro a ha
    rw [vr_up_ne (fun q => h a q ha)]
  · apply List.map_congr_left
    intro a ha
    rw [vr_up_in ha]
theorem vr_lay {X rows : va_W} {x : Nat × va_E} {pl : va_W} {D : va_G} {cl : List vw_C} {H : Heap} (hP : va_P D cl (((X ++ pl) ++ [x]) ++ rows) H) : va_P D cl ((X ++ [x]) ++ (pl ++ rows)) H := by
  rw [List.append_assoc (X ++ pl)] at hP
  have h := va_P.swap hP
  rw [← List.append_assoc X] at h
  have h2 := va_P.swap h
  rw [List.append_assoc (X ++ [x])] at h2
  exact h2
theorem vr_layD {X rows : va_W} {x : Nat × va_E} {pl : va_W} {A : Nat → Prop} (hD : va_D A (((X ++ pl) ++ [x]) ++ rows)) : va_D A ((X ++ [x]) ++ (pl ++ rows)) := by
  rw [List.append_assoc (X ++ pl)] at hD
  have h := va_D.swap hD
  rw [← List.append_assoc X] at h
  have h2 := va_D.swap h
  rw [List.append_assoc (X ++ [x])] at h2
  exact h2
theorem vr_outer (c : ClassId) (N h0 : Nat) : ∀ i : Nat, Jvm.Free.Multi.outerC c N h0 i = arrV c N (fun j => va_rf (if j < i then some (h0 + 1 + j) else none))
  | 0 => by
    show ({ cls := c, slots := Array.replicate N .null, vm := .none } : Cell) = _
    rw [arrV_new]
    refine congrArg (arrV c N) (funext fun j => ?_)
    simp [va_rf]
  | i + 1 => by
    show (Jvm.Free.Multi.outerC c N h0 i).setSlot i (.ref (h0 + 1 + i)) = _
    rw [vr_outer c N h0 i, arrV_store]
    refine congrArg (arrV c N) (funext fun j => ?_)
    by_cases e : j = i
    · subst e
      simp [updV, va_rf]
    · by_cases h : j < i
      · simp [updV, e, h, Nat.lt_succ_of_lt h]
      · simp [updV, e, h, show ¬ j < i + 1 by omega]
section VGM
variable {p : Program} {l : Launch} {e : Env} {R : Room} {s : State} {m : MethodId} {args : Array Value} {below : List Frame} {meth : Method} {c : Code} {H : Heap} {locs : List Loc} {cells slots : Nat} {Q : State → Prop}
variable {cc : ByteArray} {pc : Nat} {ls : Array Slot} {rest : List Value} {D : va_G} {cl : List vw_C} {A : Nat → Prop} {a : Nat} {tys : List (ClassId × FieldType)} {ws : va_W} {H0 : Heap}
theorem va_mna {X : va_W} {L : List Nat} {f : Nat → va_E} {cc : ByteArray} (hexec : p.tables.exec = Jvm.exec) (hb : c.code = cc) {own : String} {index : Nat} {ty : FieldType} {cy : ClassId} (hown : s.vm.findClass own = some m.cls) (hclink : (Cond.classLink own index ("[" ++ (FieldType.array ty).toString)).before args s = true) (hover : va_AOA ty s) (harr : (Cond.arrayClass ty).before args s = true) (hcy : s.vm.findClass (FieldType.array ty).toString = some cy)
    (hK : va_K D cl tys s) (hP : va_P D cl (X ++ va_pl L f) H) (hD : va_D A (X ++ va_pl L f)) (hS : va_S A H0 H locs) (hA : ∀ q, H0.size ≤ q → A q) {n k : Int32} {N' K' : Nat} {z : vp_A} (hn : ¬ n < 0) (hk : ¬ k < 0) (hN : n.toNatClampNeg = N') (hM : k.toNatClampNeg = K')
    (hb1 : N' * 4 ≤ 536870912) (hb2 : K' * componentBytes ty ≤ 536870912) (hb3 : K' ≤ 536870912) (hdf : fits ty (defaultValue ty) = true) (hdd : (defaultValue ty).isDefault = true) (hcells : cells + (1 + N') ≤ R.cells) (hslots : slots + (N' + N' * K') ≤ R.slots) (hz : ∀ c : ClassId, Jvm.Free.Multi.innerC c K' (defaultValue ty) = vp_cell c z) (hdg : decode cc pc = .ok (.multianewarray index 2, 4))
    (kk : ∀ (q : Nat) (r : Nat → Nat) (cA : ClassId) (H1 : Heap), (∀ i j : Nat, i < N' → j < N' → r i = r j → i = j) → (∀ i : Nat, i < N' → r i ∉ L) → va_K D cl (tys ++ [(cA, .array ty)]) s →
      va_P D cl ((X ++ [(q, .inl (cA, N', .inr (.inr (.inr (.inr (fun i => if i < N' then some (r i) else none))))))]) ++ va_pl (L ++ (List.range N').map r) (vr_up f ((List.range N').map r) (.inl (cy, z)))) H1 → va_D A ((X ++ [(q, .inl (cA, N', .inr (.inr (.inr (.inr (fun i => if i < N' then some (r i) else none))))))]) ++ va_pl (L ++ (List.range N').map r) (vr_up f ((List.range N').map r) (.inl (cy, z)))) → va_S A H0 H1 locs →
      W p l e R s m args below meth c H1 locs (cells + 1 + N') (slots + N' + N' * K') Q (F0 m (pc + 4) ls (.ref q :: rest))) : W p l e R s m args below meth c H locs cells slots Q (F0 m pc ls (.int k :: .int n :: rest)) := by
  subst hN
  subst hM
  intro T hT Xs
  obtain ⟨vm₁, cA, comp, -, fA, fC, hO, -, X', step⟩ := Xs.multianewarray2F hexec hown hclink (va_AOA.use hover) harr (g := F0 m pc ls (.int k :: .int n :: rest)) rfl (by rw [hb]; exact hdg) rfl hn hk hb1 hb2 hb3 hdf hdd hcells hslots
  have ec : some cy = some comp := hcy.symm.trans fC
  cases ec
  generalize hF : Jvm.Free.Multi.fill (T.setVm vm₁) cA cy n.toNatClampNeg k.toNatClampNeg (defaultValue ty) n.toNatClampNeg = F at X' step
  have hTh : (T.setVm vm₁).heap = H := hT
  obtain ⟨f1, f2, -, -⟩ := Jvm.Free.Multi.fill_facts (T.setVm vm₁) cA cy n.toNatClampNeg k.toNatClampNeg (defaultValue ty) n.toNatClampNeg
  rw [hF, hTh] at f1 f2
  have hold : ∀ x : Nat, x < H.size → F.heap[x]? = H[x]? := fun x hx => by
    have := Jvm.Free.Multi.fill_old (T.setVm vm₁) cA cy n.toNatClampNeg k.toNatClampNeg (defaultValue ty) (a := x) (by rw [hTh]; exact hx) n.toNatClampNeg
    rw [hF, hTh] at this
    exact this
  have hrow : ∀ j : Nat, j < n.toNatClampNeg → F.heap[H.size + 1 + j]? = some (vp_cell cy z) := fun j hj => by
    have := Jvm.Free.Multi.fill_inner (T.setVm vm₁) cA cy n.toNatClampNeg k.toNatClampNeg (defaultValue ty) n.toNatClampNeg j hj
    rw [hF, hTh, hz] at this
    exact this
  have hout : Jvm.Free.Multi.outerC cA n.toNatClampNeg H.size n.toNatClampNeg = vp_cell cA (n.toNatClampNeg, .inr (.inr (.inr (.inr (fun i => if i < n.toNatClampNeg then some (H.size + 1 + i) else none))))) := by
    rw [vp_cell_q]
    exact vr_outer cA n.toNatClampNeg H.size n.toNatClampNeg
  rw [hout] at f2
  have hlt : ∀ a, a ∈ L → a < H.size := fun a ha => by
    obtain ⟨k9, hk9⟩ := va_pl_get (X := X) (f := f) ha
    exact (hP k9 _ hk9).lt
  have hnl : ∀ i : Nat, i < n.toNatClampNeg → H.size + 1 + i ∉ L := fun i _ h => by
    have := hlt _ h
    omega
  have hnm : ∀ a, a ∈ (List.range n.toNatClampNeg).map (fun i => H.size + 1 + i) → a ∉ L := fun a ha h => by
    obtain ⟨i, -, rfl⟩ := List.mem_map.mp ha
    have := hlt _ h
    omega
  have hP0 : va_P D cl (X ++ va_pl L f) F.heap := hP.kept (fun k9 x hx => hold x.1 ((hP k9 x hx).lt))
  have hP1 : va_P D cl ((X ++ va_pl L f) ++ [(H.size, .inl (cA, n.toNatClampNeg, .inr (.inr (.inr (.inr (fun i => if i < n.toNatClampNeg then some (H.size + 1 + i) else none))))))]) F.heap := hP0.app (fun k9 x hx => by
    have h0 : k9 < 1 := (List.getElem?_eq_some_iff.mp hx).1
    rw [show k9 = 0 by omega] at hx
    cases hx
    exact f2)
  have hP2 : va_P D cl (((X ++ va_pl L f) ++ [(H.size, .inl (cA, n.toNatClampNeg, .inr (.inr (.inr (.inr (fun i => if i < n.toNatClampNeg then some (H.size + 1 + i) else none))))))]) ++ ((List.range n.toNatClampNeg).map (fun i => H.size + 1 + i)).map (fun a => (a, .inl (cy, z)))) F.heap := hP1.app (fun k9 x hx => by
    obtain ⟨a, ha, rfl⟩ := List.mem_map.mp (List.mem_of_getElem? hx)
    obtain ⟨i, hi, rfl⟩ := List.mem_map.mp ha
    exact hrow i (List.mem_range.mp hi))
  have hD2 : va_D A (((X ++ va_pl L f) ++ [(H.size, .inl (cA, n.toNatClampNeg, .inr (.inr (.inr (.inr (fun i => if i < n.toNatClampNeg then some (H.size + 1 + i) else none))))))]) ++ ((List.range n.toNatClampNeg).map (fun i => H.size + 1 + i)).map (fun a => (a, .inl (cy, z)))) := by
    have hD1 := hD.push (e := .inl (cA, n.toNatClampNeg, .inr (.inr (.inr (.inr (fun i => if i < n.toNatClampNeg then some (H.size + 1 + i) else none)))))) hP rfl (hA _ hS.1)
    generalize hW1 : (X ++ va_pl L f) ++ [(H.size, .inl (cA, n.toNatClampNeg, .inr (.inr (.inr (.inr (fun i => if i < n.toNatClampNeg then some (H.size + 1 + i) else none))))))] = W1 at hD1 hP1 ⊢
    have hle : ∀ (k9 : Nat) (x : Nat × va_E), W1[k9]? = some x → x.1 ≤ H.size := fun k9 x hx => by
      rw [← hW1] at hx
      by_cases hl : k9 < (X ++ va_pl L f).length
      · rw [List.getElem?_append_left hl] at hx
        exact Nat.le_of_lt ((hP k9 x hx).lt)
      · rw [List.getElem?_append_right (by omega)] at hx
        have h0 : k9 - (X ++ va_pl L f).length < 1 := (List.getElem?_eq_some_iff.mp hx).1
        rw [show k9 - (X ++ va_pl L f).length = 0 by omega] at hx
        cases hx
        exact Nat.le_refl _
    have hr : ∀ (k9 : Nat) (x : Nat × va_E), (((List.range n.toNatClampNeg).map (fun i => H.size + 1 + i)).map (fun a => ((a, .inl (cy, z)) : Nat × va_E)))[k9]? = some x → x.1 = H.size + 1 + k9 := fun k9 x hx => by
      rw [List.getElem?_map, List.getElem?_map] at hx
      by_cases h9 : k9 < n.toNatClampNeg
      · rw [List.getElem?_range h9] at hx
        cases hx
        rfl
      · have hn0 : (List.range n.toNatClampNeg)[k9]? = none := List.getElem?_eq_none (by rw [List.length_range]; omega)
        rw [hn0] at hx
        cases hx
    refine ⟨fun i j x y hi hj hxy => ?_, fun k9 x hx => ?_⟩
    · by_cases h1 : i < W1.length <;> by_cases h2 : j < W1.length
      · rw [List.getElem?_append_left h1] at hi
        rw [List.getElem?_append_left h2] at hj
        exact hD1.1 i j x y hi hj hxy
      · rw [List.getElem?_append_left h1] at hi
        rw [List.getElem?_append_right (by omega)] at hj
        have := hle _ _ hi
        have := hr _ _ hj
        omega
      · rw [List.getElem?_append_right (by omega)] at hi
        rw [List.getElem?_append_left h2] at hj
        have := hle _ _ hj
        have := hr _ _ hi
        omega
      · rw [List.getElem?_append_right (by omega)] at hi hj
        have := hr _ _ hi
        have := hr _ _ hj
        omega
    · by_cases h1 : k9 < W1.length
      · rw [List.getElem?_append_left h1] at hx
        exact hD1.2 k9 x hx
      · rw [List.getElem?_append_right (by omega)] at hx
        have := hr _ _ hx
        exact hA _ (by have := hS.1; omega)
  have hAr : ArrOfT s cA (.array ty) := fun N9 z9 => by
    obtain ⟨-, k9, hk9, cm9, hkk9⟩ := (hO 0 0 0).1
    exact ⟨(fun q hq => by cases hq), k9, hk9, cm9, hkk9⟩
  have hK2 : va_K D cl (tys ++ [(cA, .array ty)]) s := ⟨hK.1, fun k9 x hx => by
    by_cases hl : k9 < tys.length
    · rw [List.getElem?_append_left hl] at hx
      exact hK.2 k9 x hx
    · rw [List.getElem?_append_right (by omega)] at hx
      have h0 : k9 - tys.length < 1 := (List.getElem?_eq_some_iff.mp hx).1
      rw [show k9 - tys.length = 0 by omega] at hx
      cases hx
      exact ⟨hAr, fA⟩⟩
  obtain ⟨t, a1, b1⟩ := kk H.size (fun i => H.size + 1 + i) cA F.heap (fun i j _ _ h => by have h9 : H.size + 1 + i = H.size + 1 + j := h; omega) hnl hK2 (by rw [← vr_rows hnm]; exact vr_lay hP2) (by rw [← vr_rows hnm]; exact vr_layD hD2) ⟨by rw [f1]; have := hS.1; omega, fun x h1 h2 => (hold x (Nat.lt_of_lt_of_le h1 hS.1)).trans (hS.2.1 x h1 h2), hS.2.2⟩ F rfl X'
  refine ⟨t, step t ?_, b1⟩
  have e : T.heap.size = H.size := by rw [hT]
  rw [e]
  exact a1
end VGM
/-! ===== END ===== -/

/-! ===== BEGIN exceptions that leave a method, and their catching by the caller (launches without stack traces) ===== -/
section VXA
/-! The laws vx_back, vx_callV, vx_callS, vx_callSW, vx_throw0, vx_throwS follow proofs of the library, with one case more: JvmDerived/Free/Laws.lean (Back.of_free), Shelf42/LK1.lean (callV, callS), Shelf/KitTraced.lean (throwNew0V, throwNewS). -/
/-- where a method has thrown q: the class by its name, the cell, what was written, the world -/
def vx_T (XC : String → State → State → Prop) (st : State) (q : Addr) (t : State) (mc ms : Nat) (free : Addr → Prop) : Prop :=
  ∃ (E : String) (ce : Cell) (L : List Loc), XC E st t ∧ t.heap[q]? = some ce ∧ ce.vm = .none ∧ st.vm.findClass E = some ce.cls ∧ st.WarmedH t.vm ∧ st.sameButNew ({ t with vm := st.vm } : State) L mc ms ∧ ∀ z ∈ L, free z.base
def vx_Q (Qc : Array Value → State → Outcome → State → Prop) (XC : String → State → State → Prop) (mc ms : Nat) (free : Addr → Prop) : Array Value → State → Outcome → State → Prop := fun a st o t =>
  (Qc a st o t ∧ ∃ L, FrameEnd st o t L mc ms ∧ ∀ q ∈ L, free q.base) ∨ ∃ q, o = .threw q ∧ vx_T XC st q t mc ms free
/-- a callee that returns or throws -/
def vx_Met (l : Launch) (y : MethodName) (ws : List Cond) (rm : Room) (Pc : Array Value → State → Prop) (Qc : Array Value → State → Outcome → State → Prop) (XC : String → State → State → Prop) (mc ms : Nat) (free : Addr → Prop) : Prop :=
  MetFree l y (headSpec ws rm) Pc (fun _ _ _ _ _ => True) (vx_Q Qc XC mc ms free)
def vx_Post (XC : String → State → State → Prop) (mc ms : Nat) (free : Addr → Prop) : Pt → Array Value → Addr → Pt → Prop := fun A a q B =>
  ∃ (g : JFrame) (mk : MethodId) (t : State) (L : List Loc) (E : String) (ce : Cell), B.U.heap = t.heap ∧ B.U.vm = t.vm ∧ XC E (A.U.calling g mk a) t ∧ t.heap[q]? = some ce ∧ ce.vm = .none ∧ A.U.vm.findClass E = some ce.cls ∧ B.locs = A.locs ++ L ∧ (∀ z ∈ L, free z.base) ∧ B.cells = A.cells + mc ∧ B.slots = A.slots + ms
def vx_Back (l : Launch) (R : Room) (p : Program) (e : Env) (below : List Frame) (s : State) (sargs : Array Value) (y : MethodName) (len W9 : Nat)
    (Pre : Pt → Array Value → Prop) (Post : Pt → Array Value → Option Value → Pt → Prop) (PostX : Pt → Array Value → Addr → Pt → Prop) : Prop :=
  ∀ (m : MethodId) (meth : Method) (c : Code) (A : Pt) (g : JFrame) (ig : Instr) (mk : MethodId) (a : Array Value),
    Stand p l e R s m sargs below meth c A.U A.locs A.cells A.slots → g.method = m → g.locals.size = c.maxLocals → decode c.code g.pc = .ok (ig, len) →
    2 * g.monitorRoom + (g.stack.map fun v => v.category).sum ≤ W9 → A.U.methodNamed? y = some mk → Pre A a →
    (∃ (v : Option Value) (B : Pt), Stand p l e R s m sargs below meth c B.U B.locs B.cells B.slots ∧ Post A a v B ∧
      Steps p.tables e below (doInvoke e (A.U.setTop g) [] mk a).1 (B.U.setTop { g with pc := g.pc + len, stack := v.toList ++ g.stack })) ∨
    (∃ (q : Addr) (B : Pt), Stand p l e R s m sargs below meth c B.U B.locs B.cells B.slots ∧ PostX A a q B ∧
      Steps p.tables e below (doInvoke e (A.U.setTop g) [] mk a).1 ((B.U.setTop g).pushFrame (.throwing q)))
section Payer
variable {l : Launch} {R : Room} {p : Program} {e : Env} {below : List Frame} {s : State} {sargs : Array Value} {y : MethodName} {len W9 : Nat}
theorem vx_back {ws : List Cond} {rm : Room} {Pc : Array Value → State → Prop} {Qc : Array Value → State → Outcome → State → Prop} {XC : String → State → State → Prop} {mc ms : Nat} {free : Addr → Prop} {bytes : ByteArray} {maxL : Nat} {ret : Option FieldType}
    (hM : vx_Met l y ws rm Pc Qc XC mc ms free) (hblind : FrameBlind Pc) (hrc : rm.cells = mc) (hrs : rm.slots = ms)
    (hframes : rm.frames + 1 ≤ R.frames) (hlocals : W9 + (maxL + 11) + rm.locals ≤ R.locals)
    (hws : ∀ w ∈ ws, ∀ a' U, s.WarmedH U.vm → w.before a' U = true) (hcode : Cond.code y bytes maxL ret ∈ ws) (hinit : ∀ a' U, s.WarmedH U.vm → (Cond.initialized y.cls).before a' U = true) :
    vx_Back l R p e below s sargs y len W9 (PreOf R mc ms Pc) (PostOf Qc mc ms free) (vx_Post XC mc ms free) := by
  intro m meth c A g ig mk a X hg hsize hdg hW hn hp
  have h1 : (headSpec ws rm).pre.before a A.U = true := atoms_intro fun w hw => hws w hw _ _ X.warmed
  have h2 : (Cond.code y bytes maxL ret).before a A.U = true := hws _ hcode _ _ X.warmed
  have h3 : (Cond.initialized y.cls).before a A.U = true := hinit _ _ X.warmed
  have h4 : A.cells + (headSpec ws rm).room.cells ≤ R.cells := by rw [show (headSpec ws rm).room.cells = mc from hrc]; exact hp.1
  have h5 : A.slots + (headSpec ws rm).room.slots ≤ R.slots := by rw [show (headSpec ws rm).room.slots = ms from hrs]; exact hp.2.1
  have hPc : Pc a (A.U.calling g mk a) := hblind _ _ _ _ hp.2.2
  obtain ⟨U, Ls, c0, s0⟩ := A
  dsimp only [Pt.U, Pt.locs, Pt.cells, Pt.slots] at h1 h2 h3 h4 h5 X hn hPc ⊢
  obtain ⟨methY, cY, hmY, hcY, -, hlY, -, -, -, -⟩ := Cond.code_spec hn h2
  obtain ⟨kY, hkY, -⟩ := className_of_methodNamed hn
  have hinitY : kY.init = .initialized := Cond.initialized_spec (findClass_of_methodNamed hn) hkY h3
  have h : At U g.method c below := by rw [hg]; exact X.here
  have hlocals9 : W9 + (maxL + 11) + (headSpec ws rm).room.locals ≤ R.locals := hlocals
  have happ : (headSpec ws rm).appliesLoose y e.platform (U.calling g mk a) = true :=
    Spec.appliesLoose_calling (g := g) h hdg hn hkY hinitY
      (X.room_calling (g := g) (R' := (headSpec ws rm).room) hsize hmY hcY hframes (by rw [hlY]; omega) h4 h5) h1
  obtain ⟨mid, hmid⟩ := h.above
  have hfr : (U.setTop g).frames = (.java g :: mid) ++ below := by rw [State.frames_setTop' g h.top, hmid]; rfl
  obtain ⟨o, s₂, hsteps, -, hend, hq⟩ := Steps.callFree hM p X.admits X.cas X.clock (acts := []) hfr happ hPc trivial
  have hq' : vx_Q Qc XC mc ms free a (U.calling g mk a) o s₂ := hq
  rw [State.frames_setTop' g h.top] at hend
  obtain ⟨g₀, hg0⟩ := Option.isSome_iff_exists.mp h.top
  obtain ⟨r, hr⟩ := State.topJava?_eq_some.mp hg0
  have hr' : (({ U with heap := s₂.heap, slotsUsed := s₂.slotsUsed } : State).setVm s₂.vm).frames = .java g₀ :: r := hr
  rcases hq' with ⟨hqc, L, hfe, hL⟩ | ⟨q, rfl, E, ce, L, hx, hce, hcv, hcl, hW₂, hsm, hL⟩
  · obtain ⟨⟨v, rfl⟩, hW₂, e2, q2, q3, q4, q5, q6⟩ := id hfe
    have e3 : s₂ = ({ (U.calling g mk a).setFrames s₂.frames with heap := s₂.heap, slotsUsed := s₂.slotsUsed } : State).setVm s₂.vm := by
      have : s₂ = ({ s₂ with vm := (U.calling g mk a).vm } : State).setVm s₂.vm := rfl
      rw [e2] at this
      exact this
    obtain ⟨c₂, i₂, len₂, hc₂, hd₂, hf₂⟩ := hend
    have hW' : U.WarmedH s₂.vm := hW₂
    have hcc : c₂ = c := by
      have h1 : s₂.code? g.method = U.code? g.method := by
        rw [State.code?_eq, State.code?_eq, hW'.alike.method?]
      exact Option.some.inj (hc₂.symm.trans (h1.trans h.code))
    subst hcc
    have hlen : len₂ = len := by rw [hdg] at hd₂; cases hd₂; rfl
    subst hlen
    have hs₂ : s₂ = (({ U with heap := s₂.heap, slotsUsed := s₂.slotsUsed } : State).setVm s₂.vm).setTop { g with pc := g.pc + len₂, stack := v.toList ++ g.stack } := by
      refine e3.trans ?_
      rw [hf₂, State.calling_eq h.top, State.setFrames_setFrames, State.setTop_of_frames _ hr', hr]
      rfl
    have hsame : U.sameButNew ({ U with heap := s₂.heap, slotsUsed := s₂.slotsUsed } : State) L mc ms := by
      refine ⟨?_, q2, q3, q4, q5, q6⟩
      obtain ⟨t, ht, -⟩ := State.frames_cons hr
      show ({ U with heap := s₂.heap, slotsUsed := s₂.slotsUsed } : State) = { U.setFrames U.frames with heap := s₂.heap, slotsUsed := s₂.slotsUsed }
      rw [State.setFrames_self ht]
    subst hg
    refine Or.inl ⟨v, ⟨(({ U with heap := s₂.heap, slotsUsed := s₂.slotsUsed } : State).setVm s₂.vm), Ls ++ L, c0 + mc, s0 + ms⟩,
      ⟨X.admits, X.cas, X.clock, X.frames, X.room, X.hears, X.method, X.code, (X.here.setHeapUsed s₂.heap s₂.slotsUsed).setVm hW'.alike, X.tail, State.WarmedH.trans X.warmed hW', X.limits, X.bytes, X.same.trans (hsame.setVm s.vm)⟩,
      ⟨g, mk, s₂, L, rfl, rfl, hqc, rfl, hL, rfl, rfl⟩, ?_⟩
    show Steps p.tables e below _ ((({ U with heap := s₂.heap, slotsUsed := s₂.slotsUsed } : State).setVm s₂.vm).setTop { g with pc := g.pc + len₂, stack := v.toList ++ g.stack })
    rw [← hs₂]
    exact hsteps
  · obtain ⟨e2, q2, q3, q4, q5, q6⟩ := id hsm
    have e3 : s₂ = ({ (U.calling g mk a).setFrames s₂.frames with heap := s₂.heap, slotsUsed := s₂.slotsUsed } : State).setVm s₂.vm := by
      have : s₂ = ({ s₂ with vm := (U.calling g mk a).vm } : State).setVm s₂.vm := rfl
      rw [e2] at this
      exact this
    have hf₂ : s₂.frames = .throwing q :: .java g :: U.frames.tail := hend
    have hW' : U.WarmedH s₂.vm := hW₂
    have hs₂ : s₂ = ((({ U with heap := s₂.heap, slotsUsed := s₂.slotsUsed } : State).setVm s₂.vm).setTop g).pushFrame (.throwing q) := by
      refine e3.trans ?_
      rw [hf₂, State.calling_eq h.top, State.setFrames_setFrames, State.pushFrame, State.frames_setTop _ hr', State.setTop_of_frames _ hr', State.setFrames_setFrames, hr]
      rfl
    have hsame : U.sameButNew ({ U with heap := s₂.heap, slotsUsed := s₂.slotsUsed } : State) L mc ms := by
      refine ⟨?_, q2, q3, q4, q5, q6⟩
      obtain ⟨t, ht, -⟩ := State.frames_cons hr
      show ({ U with heap := s₂.heap, slotsUsed := s₂.slotsUsed } : State) = { U.setFrames U.frames with heap := s₂.heap, slotsUsed := s₂.slotsUsed }
      rw [State.setFrames_self ht]
    subst hg
    refine Or.inr ⟨q, ⟨(({ U with heap := s₂.heap, slotsUsed := s₂.slotsUsed } : State).setVm s₂.vm), Ls ++ L, c0 + mc, s0 + ms⟩,
      ⟨X.admits, X.cas, X.clock, X.frames, X.room, X.hears, X.method, X.code, (X.here.setHeapUsed s₂.heap s₂.slotsUsed).setVm hW'.alike, X.tail, State.WarmedH.trans X.warmed hW', X.limits, X.bytes, X.same.trans (hsame.setVm s.vm)⟩,
      ⟨g, mk, s₂, L, E, ce, rfl, rfl, hx, hce, hcv, hcl, rfl, hL, rfl, rfl⟩, ?_⟩
    show Steps p.tables e below _ (((({ U with heap := s₂.heap, slotsUsed := s₂.slotsUsed } : State).setVm s₂.vm).setTop g).pushFrame (.throwing q))
    rw [← hs₂]
    exact hsteps
end Payer
section Calls
variable {p : Program} {l : Launch} {e : Env} {R : Room} {s : State} {m : MethodId} {args : Array Value} {below : List Frame} {meth : Method} {c : Code} {T : State} {locs : List Loc} {cells slots : Nat}
theorem vx_callV (X : Stand p l e R s m args below meth c T locs cells slots) (hexec : p.tables.exec = Jvm.exec) {own C : String} {index : Nat} {y : MethodName} {bytes : ByteArray} {maxL : Nat} {ret : Option FieldType}
    (hown : s.vm.findClass own = some m.cls) (hlink : (Cond.methodLink own index y).before args s = true) (hinst : (Cond.instanceMethod y).before args s = true) (hsel : (Cond.selects C y y).before args s = true)
    (hcode : (Cond.code y bytes maxL ret).before args s = true) (hy : y.cls ≠ "java/lang/invoke/MethodHandle" ∧ y.cls ≠ "java/lang/invoke/VarHandle")
    {W9 : Nat} {Pre : Pt → Array Value → Prop} {Post : Pt → Array Value → Option Value → Pt → Prop} {PostX : Pt → Array Value → Addr → Pt → Prop} (hK : vx_Back l R p e below s args y 3 W9 Pre Post PostX)
    {b : Addr} {cellB : Cell} (hcell : T.heap[b]? = some cellB) (hobj : cellB.vm.isStatics = false) (hcls : s.vm.findClass C = some cellB.cls)
    {g : JFrame} (hg : g.method = m) (hsize : g.locals.size = c.maxLocals) {argsL rest : List Value} (hlen : ∀ sig, parseMethodDescriptor y.desc = some sig → argsL.length = sig.parameters.length)
    (hstack : g.stack = argsL.reverse ++ .ref b :: rest) (hW : 2 * g.monitorRoom + (rest.map fun v => v.category).sum ≤ W9) (hdg : decode c.code g.pc = .ok (.invokevirtual index, 3))
    (hpre : ∀ vm₁, s.WarmedH vm₁ → Pre ⟨T.setVm vm₁, locs, cells, slots⟩ (Value.ref b :: argsL).toArray) :
    (∃ (v : Option Value) (vm₁ : Vm) (B : Pt), s.WarmedH vm₁ ∧ Stand p l e R s m args below meth c B.U B.locs B.cells B.slots ∧ Post ⟨T.setVm vm₁, locs, cells, slots⟩ (Value.ref b :: argsL).toArray v B ∧
      ∀ target, Steps p.tables e below (B.U.setTop { g with pc := g.pc + 3, stack := v.toList ++ rest }) target → Steps p.tables e below (T.setTop g) target) ∨
    (∃ (q : Addr) (vm₁ : Vm) (B : Pt), s.WarmedH vm₁ ∧ Stand p l e R s m args below meth c B.U B.locs B.cells B.slots ∧ PostX ⟨T.setVm vm₁, locs, cells, slots⟩ (Value.ref b :: argsL).toArray q B ∧
      Steps p.tables e below (T.setTop g) ((B.U.setTop { g with stack := rest }).pushFrame (.throwing q))) := by
  obtain ⟨mk, methM, hnamed, hmethM, hstM, habM⟩ := Cond.instanceMethod_spec hinst
  obtain ⟨methM', cM, hmethM', -, -, -, -, -, -, hsigM⟩ := Cond.code_spec hnamed hcode
  cases hmethM.symm.trans hmethM'
  obtain ⟨c2, r2, m2, q1, q2, q3, q4, kP, hkP, hkPi⟩ := Cond.selects_spec hsel
  cases hcls.symm.trans q1
  cases (State.methodFound?_of_named hnamed hy).symm.trans q2
  cases hnamed.symm.trans q3
  have hselP : selectMethod e.platform s.vm cellB.cls mk = .method mk := by rw [Launch.admits_selectMethod X.admits]; exact q4
  obtain ⟨vm₁, X₁, hstep₁⟩ := X.invokevirtual hexec hown hlink hnamed hmethM hstM hkP hkPi hy (a := b) (cell := cellB) hcell
    (fun z h => by rw [h] at hobj; cases hobj) hselP hmethM habM hkP hkPi (g := g) hg (argsL := argsL) (rest := rest) (hlen _ hsigM) hstack hdg
  rcases hK m meth c ⟨T.setVm vm₁, locs, cells, slots⟩ { g with stack := rest } (.invokevirtual index) mk (Value.ref b :: argsL).toArray X₁ hg hsize hdg hW (X₁.named hnamed) (hpre vm₁ X₁.warmed) with ⟨v, B, X', hpost, hsteps⟩ | ⟨q, B, X', hpost, hsteps⟩
  · exact Or.inl ⟨v, vm₁, B, X₁.warmed, X', hpost, fun target h => hstep₁ _ fun acts => by rw [doInvoke_state]; exact hsteps.trans h⟩
  · exact Or.inr ⟨q, vm₁, B, X₁.warmed, X', hpost, hstep₁ _ fun acts => by rw [doInvoke_state]; exact hsteps⟩
theorem vx_callS (X : Stand p l e R s m args below meth c T locs cells slots) (hexec : p.tables.exec = Jvm.exec) {own : String} {index : Nat} {y : MethodName} {bytes : ByteArray} {maxL : Nat} {ret : Option FieldType}
    (hown : s.vm.findClass own = some m.cls) (hlink : (Cond.methodLink own index y).before args s = true) (hstat : (Cond.static y).before args s = true) (hinit : (Cond.initialized y.cls).before args s = true)
    (hcode : (Cond.code y bytes maxL ret).before args s = true) (hy : y.cls ≠ "java/lang/invoke/MethodHandle" ∧ y.cls ≠ "java/lang/invoke/VarHandle")
    {W9 : Nat} {Pre : Pt → Array Value → Prop} {Post : Pt → Array Value → Option Value → Pt → Prop} {PostX : Pt → Array Value → Addr → Pt → Prop} (hK : vx_Back l R p e below s args y 3 W9 Pre Post PostX)
    {g : JFrame} (hg : g.method = m) (hsize : g.locals.size = c.maxLocals) {argsL rest : List Value} (hlen : ∀ sig, parseMethodDescriptor y.desc = some sig → argsL.length = sig.parameters.length)
    (hstack : g.stack = argsL.reverse ++ rest) (hW : 2 * g.monitorRoom + (rest.map fun v => v.category).sum ≤ W9) (hdg : decode c.code g.pc = .ok (.invokestatic index, 3))
    (hpre : ∀ vm₁, s.WarmedH vm₁ → Pre ⟨T.setVm vm₁, locs, cells, slots⟩ argsL.toArray) :
    (∃ (v : Option Value) (vm₁ : Vm) (B : Pt), s.WarmedH vm₁ ∧ Stand p l e R s m args below meth c B.U B.locs B.cells B.slots ∧ Post ⟨T.setVm vm₁, locs, cells, slots⟩ argsL.toArray v B ∧
      ∀ target, Steps p.tables e below (B.U.setTop { g with pc := g.pc + 3, stack := v.toList ++ rest }) target → Steps p.tables e below (T.setTop g) target) ∨
    (∃ (q : Addr) (vm₁ : Vm) (B : Pt), s.WarmedH vm₁ ∧ Stand p l e R s m args below meth c B.U B.locs B.cells B.slots ∧ PostX ⟨T.setVm vm₁, locs, cells, slots⟩ argsL.toArray q B ∧
      Steps p.tables e below (T.setTop g) ((B.U.setTop { g with stack := rest }).pushFrame (.throwing q))) := by
  obtain ⟨mk, hnamed⟩ := Cond.code_named hcode
  obtain ⟨methM, cM, hmethM, -, -, -, -, -, -, hsigM⟩ := Cond.code_spec hnamed hcode
  have hstatic : methM.isStatic = true := Cond.static_spec hnamed hmethM hstat
  obtain ⟨kP, hkP, -⟩ := className_of_methodNamed hnamed
  have hinitP : kP.init = .initialized := Cond.initialized_spec (findClass_of_methodNamed hnamed) hkP hinit
  obtain ⟨vm₁, X₁, hstep₁⟩ := X.invokestatic hexec hown hlink hnamed hmethM hstatic hkP hinitP hy (g := g) hg (argsL := argsL) (rest := rest) (hlen _ hsigM) hstack hdg
  rcases hK m meth c ⟨T.setVm vm₁, locs, cells, slots⟩ { g with stack := rest } (.invokestatic index) mk argsL.toArray X₁ hg hsize hdg hW (X₁.named hnamed) (hpre vm₁ X₁.warmed) with ⟨v, B, X', hpost, hsteps⟩ | ⟨q, B, X', hpost, hsteps⟩
  · exact Or.inl ⟨v, vm₁, B, X₁.warmed, X', hpost, fun target h => hstep₁ _ fun acts => by rw [doInvoke_state]; exact hsteps.trans h⟩
  · exact Or.inr ⟨q, vm₁, B, X₁.warmed, X', hpost, hstep₁ _ fun acts => by rw [doInvoke_state]; exact hsteps⟩
end Calls
theorem vx_cls {s : State} {T : State} {vm₁ : Vm} {E : String} {k : ClassId} (hW : s.WarmedH vm₁) (h : (T.setVm vm₁).vm.findClass E = some k) : s.vm.findClass E = some k := by
  have h1 : vm₁.findClass E = some k := h
  rw [hW.alike.findClass] at h1
  exact h1
/-- the method's frame g, with q thrown over it -/
def vx_W (p : Program) (l : Launch) (e : Env) (R : Room) (s : State) (m : MethodId) (args : Array Value) (below : List Frame) (meth : Method) (c : Code) (H : Heap) (locs : List Loc) (cells slots : Nat) (Q : State → Prop) (g : JFrame) (q : Addr) : Prop :=
  ∀ T : State, T.heap = H → Stand p l e R s m args below meth c T locs cells slots → ∃ t, Steps p.tables e below ((T.setTop g).pushFrame (.throwing q)) t ∧ Q t
def vx_Run (p : Program) (l : Launch) (e : Env) (R : Room) (s : State) (m : MethodId) (args : Array Value) (below : List Frame) (meth : Method) (c : Code) (H : Heap) (locs : List Loc) (cells slots mc ms : Nat) (g : JFrame) (rest : List Value) (Qa : State → Outcome → State → Prop) (XC : String → State → State → Prop) (free : Addr → Prop) : Prop :=
  ∀ T : State, T.heap = H → Stand p l e R s m args below meth c T locs cells slots →
    (∃ (v : Option Value) (st₀ t T' : State) (L : List Loc), st₀.heap = H ∧ Stand p l e R s m args below meth c T' (locs ++ L) (cells + mc) (slots + ms) ∧ (∀ q ∈ L, free q.base) ∧ T'.heap = t.heap ∧ T'.vm = t.vm ∧ Qa st₀ (.returned v) t ∧
      Goes p e below T g T' { g with pc := g.pc + 3, stack := v.toList ++ rest }) ∨
    (∃ (q : Addr) (st₀ t T' : State) (L : List Loc) (E : String) (ce : Cell), st₀.heap = H ∧ Stand p l e R s m args below meth c T' (locs ++ L) (cells + mc) (slots + ms) ∧ (∀ z ∈ L, free z.base) ∧ T'.heap = t.heap ∧ T'.vm = t.vm ∧ XC E st₀ t ∧ t.heap[q]? = some ce ∧ ce.vm = .none ∧ s.vm.findClass E = some ce.cls ∧
      Steps p.tables e below (T.setTop g) ((T'.setTop { g with stack := rest }).pushFrame (.throwing q)))
def vx_X {S : Type} (px : S → Prop) (B : String → S → State → Prop) (A : Nat → Prop) : String → State → State → Prop := fun E st t => ∃ u : S, px u ∧ B E u t ∧ va_F A st t
section Runs
variable {p : Program} {l : Launch} {e : Env} {R : Room} {s : State} {m : MethodId} {args : Array Value} {below : List Frame} {meth : Method} {c : Code} {H : Heap} {locs : List Loc} {cells slots : Nat}
variable {y : MethodName} {bytes cc : ByteArray} {maxL nL mc ms n index : Nat} {ret : Option FieldType} {ws : List Cond} {rm : Room} {Pc : Array Value → State → Prop} {Qc : Array Value → State → Outcome → State → Prop} {XC : String → State → State → Prop} {free : Addr → Prop} {Ts : List Cond} {own C : String} {b : Addr} {As rest : List Value} {g : JFrame}
theorem vx_callBack (cb : CallB R s args own index y bytes maxL ret ws rm mc ms n) (hM : vx_Met l y ws rm Pc Qc XC mc ms free) (hbl : FrameBlind Pc) : vx_Back l R p e below s args y 3 8 (PreOf R mc ms Pc) (PostOf Qc mc ms free) (vx_Post XC mc ms free) := by
  obtain ⟨hrc, hrs, hfr, hlo, hws, hcw, -, hini, -⟩ := cb
  exact vx_back (bytes := bytes) (maxL := maxL) (ret := ret) hM hbl hrc hrs hfr hlo hws hcw (fun a' U hW => word_at hW (Or.inl (by first | rfl | simp [Cond.onTables, Cond.keeps, Cond.steady])) hini)
theorem vx_runV (S : CallFix p m c cc nL s args Ts own) (hM : vx_Met l y ws rm Pc Qc XC mc ms free) (cw : CallW R s args own C index y bytes maxL ret ws rm mc ms n) (hp : PreV s H C b Pc As)
    (hg : g.method = m) (hn : As.length = n) (hsize : g.locals.size = nL) (hstack : g.stack = As.reverse ++ .ref b :: rest) (hW : 2 * g.monitorRoom + (rest.map fun v => v.category).sum ≤ 8) (hdg : decode cc g.pc = .ok (.invokevirtual index, 3)) (hf : cells + mc ≤ R.cells ∧ slots + ms ≤ R.slots) :
    vx_Run p l e R s m args below meth c H locs cells slots mc ms g rest (Qc (Value.ref b :: As).toArray) XC free := by
  have hK : vx_Back l R p e below s args y 3 8 (PreOf R mc ms Pc) (PostOf Qc mc ms free) (vx_Post XC mc ms free) := vx_callBack cw.1 hM hp.1
  obtain ⟨⟨-, -, -, -, -, -, hcode, -, hy, hlen, hl⟩, hin, hse⟩ := cw
  obtain ⟨hx, hb, hml, ho, -⟩ := S
  obtain ⟨-, ⟨cellB, hcB, hoB, hclB⟩, hPc⟩ := hp
  intro T hT X
  rcases vx_callV X hx (C := C) (bytes := bytes) (maxL := maxL) (ret := ret) ho hl hin hse hcode hy hK (by rw [hT]; exact hcB) hoB hclB hg (hsize.trans hml.symm) (argsL := As) (rest := rest) (fun sig h => hn.trans (hlen sig h)) hstack hW (by rw [hb]; exact hdg)
    (fun vm₁ hW₁ => ⟨hf.1, hf.2, hPc (T.setVm vm₁) hT hW₁⟩) with ⟨v, vm₁, ⟨U', l2, c2, s2⟩, hW₁, X', ⟨g', mk, t, L, e1, e2, hq, h1, hL, h2, h3⟩, st⟩ | ⟨q, vm₁, ⟨U', l2, c2, s2⟩, hW₁, X', ⟨g', mk, t, L, E, ce, e1, e2, hq, hce, hcv, hcl, h1, hL, h2, h3⟩, st⟩
  · dsimp only [Pt.U, Pt.locs, Pt.cells, Pt.slots] at X' e1 e2 h1 h2 h3 st
    subst h1; subst h2; subst h3
    exact Or.inl ⟨v, (T.setVm vm₁).calling g' mk (Value.ref b :: As).toArray, t, U', L, hT, X', hL, e1, e2, hq, st⟩
  · dsimp only [Pt.U, Pt.locs, Pt.cells, Pt.slots] at X' e1 e2 h1 h2 h3 st hcl
    subst h1; subst h2; subst h3
    exact Or.inr ⟨q, (T.setVm vm₁).calling g' mk (Value.ref b :: As).toArray, t, U', L, E, ce, hT, X', hL, e1, e2, hq, hce, hcv, vx_cls hW₁ hcl, st⟩
theorem vx_runS (S : CallFix p m c cc nL s args Ts own) (hM : vx_Met l y ws rm Pc Qc XC mc ms free) (cw : CallB R s args own index y bytes maxL ret ws rm mc ms n ∧ (Cond.static y).before args s = true) (hp : PreS s H Pc As)
    (hg : g.method = m) (hn : As.length = n) (hsize : g.locals.size = nL) (hstack : g.stack = As.reverse ++ rest) (hW : 2 * g.monitorRoom + (rest.map fun v => v.category).sum ≤ 8) (hdg : decode cc g.pc = .ok (.invokestatic index, 3)) (hf : cells + mc ≤ R.cells ∧ slots + ms ≤ R.slots) :
    vx_Run p l e R s m args below meth c H locs cells slots mc ms g rest (Qc As.toArray) XC free := by
  have hK : vx_Back l R p e below s args y 3 8 (PreOf R mc ms Pc) (PostOf Qc mc ms free) (vx_Post XC mc ms free) := vx_callBack cw.1 hM hp.1
  obtain ⟨⟨-, -, -, -, -, -, hcode, hini, hy, hlen, hl⟩, hstt⟩ := cw
  obtain ⟨hx, hb, hml, ho, -⟩ := S
  intro T hT X
  rcases vx_callS X hx (bytes := bytes) (maxL := maxL) (ret := ret) ho hl hstt hini hcode hy hK hg (hsize.trans hml.symm) (argsL := As) (rest := rest) (fun sig h => hn.trans (hlen sig h)) hstack hW (by rw [hb]; exact hdg)
    (fun vm₁ hW₁ => ⟨hf.1, hf.2, hp.2 (T.setVm vm₁) hT hW₁⟩) with ⟨v, vm₁, ⟨U', l2, c2, s2⟩, hW₁, X', ⟨g', mk, t, L, e1, e2, hq, h1, hL, h2, h3⟩, st⟩ | ⟨q, vm₁, ⟨U', l2, c2, s2⟩, hW₁, X', ⟨g', mk, t, L, E, ce, e1, e2, hq, hce, hcv, hcl, h1, hL, h2, h3⟩, st⟩
  · dsimp only [Pt.U, Pt.locs, Pt.cells, Pt.slots] at X' e1 e2 h1 h2 h3 st
    subst h1; subst h2; subst h3
    exact Or.inl ⟨v, (T.setVm vm₁).calling g' mk As.toArray, t, U', L, hT, X', hL, e1, e2, hq, st⟩
  · dsimp only [Pt.U, Pt.locs, Pt.cells, Pt.slots] at X' e1 e2 h1 h2 h3 st hcl
    subst h1; subst h2; subst h3
    exact Or.inr ⟨q, (T.setVm vm₁).calling g' mk As.toArray, t, U', L, E, ce, hT, X', hL, e1, e2, hq, hce, hcv, vx_cls hW₁ hcl, st⟩
end Runs
section Rows
variable {p : Program} {l : Launch} {e : Env} {R : Room} {s : State} {m : MethodId} {args : Array Value} {below : List Frame} {meth : Method} {c : Code} {H : Heap} {locs : List Loc} {cells slots : Nat} {Q : State → Prop}
variable {mc ms : Nat} {free : Addr → Prop} {A0 A1 : Nat → Prop} {H0 : Heap} {a : Array Value} {pc : Nat} {ls : Array Slot} {st0 rest : List Value}
theorem vx_keep {st₀ t T' : State} {L : List Loc} (h0 : st₀.heap = H) (e1 : T'.heap = t.heap) (hS : va_S A0 H0 H locs) (hA : ∀ q, q < H.size → A1 q → A0 q) (hf : ∀ q, free q → A0 q) (hL : ∀ q ∈ L, free q.base) (hF : va_F A1 st₀ t) :
    H.size ≤ T'.heap.size ∧ (∀ q : Nat, q < H.size → ¬ A1 q → T'.heap[q]? = H[q]?) ∧ va_S A0 H0 T'.heap (locs ++ L) := by
  obtain ⟨hz, hk⟩ := hF
  rw [h0] at hz hk
  exact ⟨by rw [e1]; exact hz, fun q h1 h2 => by rw [e1]; exact hk q h1 h2,
    ⟨Nat.le_trans hS.1 (by rw [e1]; exact hz), fun q h1 h2 => by rw [e1, hk q (Nat.lt_of_lt_of_le h1 hS.1) (fun z => h2 (hA q (Nat.lt_of_lt_of_le h1 hS.1) z))]; exact hS.2.1 q h1 h2, fun q hq => by
      rcases List.mem_append.mp hq with h | h
      · exact hS.2.2 q h
      · exact hf _ (hL q h)⟩⟩
theorem vx_calli {S SX : Type} {post : Int32 → S → Prop} {px : SX → Prop} {B : S → State → Prop} {BX : String → SX → State → Prop} {AX : Nat → Prop} (hr : vx_Run p l e R s m args below meth c H locs cells slots mc ms (F0 m pc ls st0) rest (va_Qi post B A1 a) (vx_X px BX AX) free) (hS : va_S A0 H0 H locs) (hA : ∀ q, q < H.size → A1 q → A0 q) (hf : ∀ q, free q → A0 q) (hAX : ∀ q, q < H.size → AX q → A0 q)
    (kx : ∀ (E : String) (ce : Cell) (q9 : Addr) (u : SX) (t : State) (H1 : Heap) (locs1 : List Loc), t.heap = H1 → s.vm.Alike t.vm → px u → BX E u t → H.size ≤ H1.size → (∀ q : Nat, q < H.size → ¬ AX q → H1[q]? = H[q]?) → va_S A0 H0 H1 locs1 → H1[q9]? = some ce → ce.vm = .none → s.vm.findClass E = some ce.cls → vx_W p l e R s m args below meth c H1 locs1 (cells + mc) (slots + ms) Q (F0 m pc ls rest) q9)
    (kk : ∀ (r : Int32) (u : S) (t : State) (H1 : Heap) (locs1 : List Loc), t.heap = H1 → s.vm.Alike t.vm → post r u → B u t → H.size ≤ H1.size → (∀ q : Nat, q < H.size → ¬ A1 q → H1[q]? = H[q]?) → va_S A0 H0 H1 locs1 → W p l e R s m args below meth c H1 locs1 (cells + mc) (slots + ms) Q (F0 m (pc + 3) ls (.int r :: rest))) : W p l e R s m args below meth c H locs cells slots Q (F0 m pc ls st0) := by
  intro T hT X
  rcases hr T hT X with ⟨v, st₀, t, T', L, h0, X', hL, e1, e2, ⟨⟨r, u, hv, hp, hb⟩, hF⟩, st⟩ | ⟨q, st₀, t, T', L, E, ce, h0, X', hL, e1, e2, ⟨u, hp, hb, hF⟩, hce, hcv, hcl, st⟩
  · cases hv
    obtain ⟨k1, k2, k3⟩ := vx_keep h0 e1 hS hA hf hL hF
    obtain ⟨t2, a1, b1⟩ := kk r u t T'.heap (locs ++ L) e1.symm (by rw [← e2]; exact X'.warmed.alike) hp hb k1 k2 k3 T' rfl X'
    exact ⟨t2, st t2 a1, b1⟩
  · obtain ⟨k1, k2, k3⟩ := vx_keep h0 e1 hS hAX hf hL hF
    obtain ⟨t2, a1, b1⟩ := kx E ce q u t T'.heap (locs ++ L) e1.symm (by rw [← e2]; exact X'.warmed.alike) hp hb k1 k2 k3 (by rw [e1]; exact hce) hcv hcl T' rfl X'
    exact ⟨t2, st.trans a1, b1⟩
theorem vx_calll {S SX : Type} {post : Int64 → S → Prop} {px : SX → Prop} {B : S → State → Prop} {BX : String → SX → State → Prop} {AX : Nat → Prop} (hr : vx_Run p l e R s m args below meth c H locs cells slots mc ms (F0 m pc ls st0) rest (va_Ql post B A1 a) (vx_X px BX AX) free) (hS : va_S A0 H0 H locs) (hA : ∀ q, q < H.size → A1 q → A0 q) (hf : ∀ q, free q → A0 q) (hAX : ∀ q, q < H.size → AX q → A0 q)
    (kx : ∀ (E : String) (ce : Cell) (q9 : Addr) (u : SX) (t : State) (H1 : Heap) (locs1 : List Loc), t.heap = H1 → s.vm.Alike t.vm → px u → BX E u t → H.size ≤ H1.size → (∀ q : Nat, q < H.size → ¬ AX q → H1[q]? = H[q]?) → va_S A0 H0 H1 locs1 → H1[q9]? = some ce → ce.vm = .none → s.vm.findClass E = some ce.cls → vx_W p l e R s m args below meth c H1 locs1 (cells + mc) (slots + ms) Q (F0 m pc ls rest) q9)
    (kk : ∀ (r : Int64) (u : S) (t : State) (H1 : Heap) (locs1 : List Loc), t.heap = H1 → s.vm.Alike t.vm → post r u → B u t → H.size ≤ H1.size → (∀ q : Nat, q < H.size → ¬ A1 q → H1[q]? = H[q]?) → va_S A0 H0 H1 locs1 → W p l e R s m args below meth c H1 locs1 (cells + mc) (slots + ms) Q (F0 m (pc + 3) ls (.long r :: rest))) : W p l e R s m args below meth c H locs cells slots Q (F0 m pc ls st0) := by
  intro T hT X
  rcases hr T hT X with ⟨v, st₀, t, T', L, h0, X', hL, e1, e2, ⟨⟨r, u, hv, hp, hb⟩, hF⟩, st⟩ | ⟨q, st₀, t, T', L, E, ce, h0, X', hL, e1, e2, ⟨u, hp, hb, hF⟩, hce, hcv, hcl, st⟩
  · cases hv
    obtain ⟨k1, k2, k3⟩ := vx_keep h0 e1 hS hA hf hL hF
    obtain ⟨t2, a1, b1⟩ := kk r u t T'.heap (locs ++ L) e1.symm (by rw [← e2]; exact X'.warmed.alike) hp hb k1 k2 k3 T' rfl X'
    exact ⟨t2, st t2 a1, b1⟩
  · obtain ⟨k1, k2, k3⟩ := vx_keep h0 e1 hS hAX hf hL hF
    obtain ⟨t2, a1, b1⟩ := kx E ce q u t T'.heap (locs ++ L) e1.symm (by rw [← e2]; exact X'.warmed.alike) hp hb k1 k2 k3 (by rw [e1]; exact hce) hcv hcl T' rfl X'
    exact ⟨t2, st.trans a1, b1⟩
theorem vx_callf {S SX : Type} {post : UInt32 → S → Prop} {px : SX → Prop} {B : S → State → Prop} {BX : String → SX → State → Prop} {AX : Nat → Prop} (hr : vx_Run p l e R s m args below meth c H locs cells slots mc ms (F0 m pc ls st0) rest (va_Qf post B A1 a) (vx_X px BX AX) free) (hS : va_S A0 H0 H locs) (hA : ∀ q, q < H.size → A1 q → A0 q) (hf : ∀ q, free q → A0 q) (hAX : ∀ q, q < H.size → AX q → A0 q)
    (kx : ∀ (E : String) (ce : Cell) (q9 : Addr) (u : SX) (t : State) (H1 : Heap) (locs1 : List Loc), t.heap = H1 → s.vm.Alike t.vm → px u → BX E u t → H.size ≤ H1.size → (∀ q : Nat, q < H.size → ¬ AX q → H1[q]? = H[q]?) → va_S A0 H0 H1 locs1 → H1[q9]? = some ce → ce.vm = .none → s.vm.findClass E = some ce.cls → vx_W p l e R s m args below meth c H1 locs1 (cells + mc) (slots + ms) Q (F0 m pc ls rest) q9)
    (kk : ∀ (r : UInt32) (u : S) (t : State) (H1 : Heap) (locs1 : List Loc), t.heap = H1 → s.vm.Alike t.vm → post r u → B u t → H.size ≤ H1.size → (∀ q : Nat, q < H.size → ¬ A1 q → H1[q]? = H[q]?) → va_S A0 H0 H1 locs1 → W p l e R s m args below meth c H1 locs1 (cells + mc) (slots + ms) Q (F0 m (pc + 3) ls (.float r :: rest))) : W p l e R s m args below meth c H locs cells slots Q (F0 m pc ls st0) := by
  intro T hT X
  rcases hr T hT X with ⟨v, st₀, t, T', L, h0, X', hL, e1, e2, ⟨⟨r, u, hv, hp, hb⟩, hF⟩, st⟩ | ⟨q, st₀, t, T', L, E, ce, h0, X', hL, e1, e2, ⟨u, hp, hb, hF⟩, hce, hcv, hcl, st⟩
  · cases hv
    obtain ⟨k1, k2, k3⟩ := vx_keep h0 e1 hS hA hf hL hF
    obtain ⟨t2, a1, b1⟩ := kk r u t T'.heap (locs ++ L) e1.symm (by rw [← e2]; exact X'.warmed.alike) hp hb k1 k2 k3 T' rfl X'
    exact ⟨t2, st t2 a1, b1⟩
  · obtain ⟨k1, k2, k3⟩ := vx_keep h0 e1 hS hAX hf hL hF
    obtain ⟨t2, a1, b1⟩ := kx E ce q u t T'.heap (locs ++ L) e1.symm (by rw [← e2]; exact X'.warmed.alike) hp hb k1 k2 k3 (by rw [e1]; exact hce) hcv hcl T' rfl X'
    exact ⟨t2, st.trans a1, b1⟩
theorem vx_calld {S SX : Type} {post : UInt64 → S → Prop} {px : SX → Prop} {B : S → State → Prop} {BX : String → SX → State → Prop} {AX : Nat → Prop} (hr : vx_Run p l e R s m args below meth c H locs cells slots mc ms (F0 m pc ls st0) rest (va_Qd post B A1 a) (vx_X px BX AX) free) (hS : va_S A0 H0 H locs) (hA : ∀ q, q < H.size → A1 q → A0 q) (hf : ∀ q, free q → A0 q) (hAX : ∀ q, q < H.size → AX q → A0 q)
    (kx : ∀ (E : String) (ce : Cell) (q9 : Addr) (u : SX) (t : State) (H1 : Heap) (locs1 : List Loc), t.heap = H1 → s.vm.Alike t.vm → px u → BX E u t → H.size ≤ H1.size → (∀ q : Nat, q < H.size → ¬ AX q → H1[q]? = H[q]?) → va_S A0 H0 H1 locs1 → H1[q9]? = some ce → ce.vm = .none → s.vm.findClass E = some ce.cls → vx_W p l e R s m args below meth c H1 locs1 (cells + mc) (slots + ms) Q (F0 m pc ls rest) q9)
    (kk : ∀ (r : UInt64) (u : S) (t : State) (H1 : Heap) (locs1 : List Loc), t.heap = H1 → s.vm.Alike t.vm → post r u → B u t → H.size ≤ H1.size → (∀ q : Nat, q < H.size → ¬ A1 q → H1[q]? = H[q]?) → va_S A0 H0 H1 locs1 → W p l e R s m args below meth c H1 locs1 (cells + mc) (slots + ms) Q (F0 m (pc + 3) ls (.double r :: rest))) : W p l e R s m args below meth c H locs cells slots Q (F0 m pc ls st0) := by
  intro T hT X
  rcases hr T hT X with ⟨v, st₀, t, T', L, h0, X', hL, e1, e2, ⟨⟨r, u, hv, hp, hb⟩, hF⟩, st⟩ | ⟨q, st₀, t, T', L, E, ce, h0, X', hL, e1, e2, ⟨u, hp, hb, hF⟩, hce, hcv, hcl, st⟩
  · cases hv
    obtain ⟨k1, k2, k3⟩ := vx_keep h0 e1 hS hA hf hL hF
    obtain ⟨t2, a1, b1⟩ := kk r u t T'.heap (locs ++ L) e1.symm (by rw [← e2]; exact X'.warmed.alike) hp hb k1 k2 k3 T' rfl X'
    exact ⟨t2, st t2 a1, b1⟩
  · obtain ⟨k1, k2, k3⟩ := vx_keep h0 e1 hS hAX hf hL hF
    obtain ⟨t2, a1, b1⟩ := kx E ce q u t T'.heap (locs ++ L) e1.symm (by rw [← e2]; exact X'.warmed.alike) hp hb k1 k2 k3 (by rw [e1]; exact hce) hcv hcl T' rfl X'
    exact ⟨t2, st.trans a1, b1⟩
theorem vx_callv {S SX : Type} {post : S → Prop} {px : SX → Prop} {B : S → State → Prop} {BX : String → SX → State → Prop} {AX : Nat → Prop} (hr : vx_Run p l e R s m args below meth c H locs cells slots mc ms (F0 m pc ls st0) rest (va_Qv post B A1 a) (vx_X px BX AX) free) (hS : va_S A0 H0 H locs) (hA : ∀ q, q < H.size → A1 q → A0 q) (hf : ∀ q, free q → A0 q) (hAX : ∀ q, q < H.size → AX q → A0 q)
    (kx : ∀ (E : String) (ce : Cell) (q9 : Addr) (u : SX) (t : State) (H1 : Heap) (locs1 : List Loc), t.heap = H1 → s.vm.Alike t.vm → px u → BX E u t → H.size ≤ H1.size → (∀ q : Nat, q < H.size → ¬ AX q → H1[q]? = H[q]?) → va_S A0 H0 H1 locs1 → H1[q9]? = some ce → ce.vm = .none → s.vm.findClass E = some ce.cls → vx_W p l e R s m args below meth c H1 locs1 (cells + mc) (slots + ms) Q (F0 m pc ls rest) q9)
    (kk : ∀ (u : S) (t : State) (H1 : Heap) (locs1 : List Loc), t.heap = H1 → s.vm.Alike t.vm → post u → B u t → H.size ≤ H1.size → (∀ q : Nat, q < H.size → ¬ A1 q → H1[q]? = H[q]?) → va_S A0 H0 H1 locs1 → W p l e R s m args below meth c H1 locs1 (cells + mc) (slots + ms) Q (F0 m (pc + 3) ls (rest))) : W p l e R s m args below meth c H locs cells slots Q (F0 m pc ls st0) := by
  intro T hT X
  rcases hr T hT X with ⟨v, st₀, t, T', L, h0, X', hL, e1, e2, ⟨⟨u, hv, hp, hb⟩, hF⟩, st⟩ | ⟨q, st₀, t, T', L, E, ce, h0, X', hL, e1, e2, ⟨u, hp, hb, hF⟩, hce, hcv, hcl, st⟩
  · cases hv
    obtain ⟨k1, k2, k3⟩ := vx_keep h0 e1 hS hA hf hL hF
    obtain ⟨t2, a1, b1⟩ := kk u t T'.heap (locs ++ L) e1.symm (by rw [← e2]; exact X'.warmed.alike) hp hb k1 k2 k3 T' rfl X'
    exact ⟨t2, st t2 a1, b1⟩
  · obtain ⟨k1, k2, k3⟩ := vx_keep h0 e1 hS hAX hf hL hF
    obtain ⟨t2, a1, b1⟩ := kx E ce q u t T'.heap (locs ++ L) e1.symm (by rw [← e2]; exact X'.warmed.alike) hp hb k1 k2 k3 (by rw [e1]; exact hce) hcv hcl T' rfl X'
    exact ⟨t2, st.trans a1, b1⟩
/-- caught by the row x of this method's table; the rows ahead don't take it -/
theorem vx_catch {own name : String} {E : String} {ce : Cell} {q : Addr} (hown : s.vm.findClass own = some m.cls) (pre : List ExceptionTableEntry) (x : ExceptionTableEntry) (suf : List ExceptionTableEntry) (hsplit : c.exceptionTable.toList = pre ++ x :: suf)
    (hpass : ∀ z ∈ pre, covers z pc = false ∨ (z.catchType ≠ 0 ∧ ∃ nm : String, (Cond.classLink own z.catchType nm).before args s = true ∧ va_Nc E nm s)) (hx : covers x pc = true) (h0 : x.catchType ≠ 0)
    (hlink : (Cond.classLink own x.catchType name).before args s = true) (hcast : (Cond.castable E name).before args s = true) (hcell : H[q]? = some ce) (hv : ce.vm = .none) (hcl : s.vm.findClass E = some ce.cls)
    (kk : W p l e R s m args below meth c H locs cells slots Q (F0 m x.handlerPc ls [.ref q])) : vx_W p l e R s m args below meth c H locs cells slots Q (F0 m pc ls rest) q := by
  intro T hT X
  have hpl : e.platform.magicAccessors = ({} : Platform).magicAccessors := by rw [X.admits.platform]
  obtain ⟨c3, c4, hc3, hc4, hasg⟩ := Cond.castable_spec hcast
  cases Option.some.inj (hc3.symm.trans hcl)
  obtain ⟨c5, hc5, hcl5⟩ := Cond.classLink_spec hown hlink e.platform hpl
  cases Option.some.inj (hc4.symm.trans hc5)
  obtain ⟨vm', X', st⟩ := X.thenCaughtThrough q (g := F0 m pc ls rest) rfl (Steps.refl _) (by rw [hT]; exact hcell) (by rw [hv]; rfl) (by obtain ⟨k9, h9, -⟩ := Vm.findClass_spec hcl; exact ⟨k9, h9⟩) pre x suf hsplit
    (fun z hz => by
      rcases hpass z hz with h | ⟨hz0, nm, hl1, hn1⟩
      · exact Or.inl h
      · obtain ⟨c6, hc6, hcl6⟩ := Cond.classLink_spec hown hl1 e.platform hpl
        obtain ⟨a8, b8, h1, h2, h3⟩ := hn1
        cases Option.some.inj (h1.symm.trans hcl)
        cases Option.some.inj (h2.symm.trans hc6)
        exact Or.inr ⟨hz0, _, hcl6, h3⟩) hx (Or.inr ⟨h0, c4, hcl5, hasg⟩)
  obtain ⟨t, a1, b1⟩ := kk (T.setVm vm') hT X'
  exact ⟨t, st.trans a1, b1⟩
end Rows
section Ends
variable {p : Program} {l : Launch} {e : Env} {R : Room} {s : State} {m : MethodId} {args : Array Value} {below : List Frame} {meth : Method} {c : Code} {H : Heap} {locs : List Loc} {cells slots : Nat} {Q : State → Prop}
variable {mc ms : Nat} {free : Addr → Prop} {A0 A1 : Nat → Prop} {H0 : Heap} {a : Array Value} {ls : Array Slot} {st0 rest : List Value}
variable {Qc : Array Value → State → Outcome → State → Prop} {XC : String → State → State → Prop}
/-- what a body that may throw owes at its end -/
def vx_MQ (below : List Frame) (Qc : Array Value → State → Outcome → State → Prop) (XC : String → State → State → Prop) (a : Array Value) (s : State) (mc ms : Nat) (free : Addr → Prop) : State → Prop := fun t =>
  ∃ o, t.status = .running ∧ Ended t below o ∧ vx_Q Qc XC mc ms free a s o t
theorem vx_ret {g : JFrame} {mc ms : Nat} (k : W p l e R s m args below meth c H locs cells slots (MQ below Qc args s mc ms free) g) : W p l e R s m args below meth c H locs cells slots (vx_MQ below Qc XC args s mc ms free) g := by
  intro T hT X
  obtain ⟨t, a1, o, b1, b2, b3, b4⟩ := k T hT X
  exact ⟨t, a1, o, b1, b2, Or.inl ⟨b3, b4⟩⟩
/-- not caught here: it goes on to the caller -/
theorem vx_widen {g : JFrame} {q : Addr} {k n : Nat} (h1 : cells ≤ k) (h2 : slots ≤ n) (kk : vx_W p l e R s m args below meth c H locs k n Q g q) : vx_W p l e R s m args below meth c H locs cells slots Q g q := fun T hT X => kk T hT (stand_widen X h1 h2)
theorem vx_out {pc : Nat} {E : String} {ce : Cell} {q : Addr} {mc ms : Nat} (hout : ∀ x ∈ c.exceptionTable.toList, covers x pc = false) (hlocks : meth.locks = false) (hcell : H[q]? = some ce) (hv : ce.vm = .none) (hcl : s.vm.findClass E = some ce.cls)
    (hx : ∀ t : State, t.heap = H → s.vm.Alike t.vm → XC E s t) (hf : ∀ z ∈ locs, free z.base) (hc : cells ≤ mc) (hs : slots ≤ ms) :
    vx_W p l e R s m args below meth c H locs cells slots (vx_MQ below Qc XC args s mc ms free) (F0 m pc ls rest) q := by
  intro T hT X
  obtain ⟨st1, hrun, hend, hW, hsm⟩ := X.leaveThrown q (g := F0 m pc ls rest) rfl rfl rfl hout hlocks
  have hcell9 : (T.setFrames (.throwing q :: below)).heap[q]? = some ce := by
    show T.heap[q]? = some ce
    rw [hT]; exact hcell
  exact ⟨_, st1, .threw q, hrun, hend, Or.inr ⟨q, rfl, E, ce, locs, hx _ hT hW.alike, hcell9, hv, hcl, hW, hsm.mono hc hs, hf⟩⟩
theorem vx_frame {U : State} {k n : Nat} (h : s.sameButNew ({ U with vm := s.vm } : State) locs k n) : s.heap.size ≤ U.heap.size ∧ ∀ q : Nat, q < s.heap.size → (∀ z ∈ locs, z.base ≠ q) → U.heap[q]? = s.heap[q]? := by
  obtain ⟨-, h2, -, -, -, h6⟩ := h
  refine ⟨h2, fun q hq hz => ?_⟩
  obtain ⟨c9, e1, e2, e3, e4⟩ := h6 q _ (Array.getElem?_eq_getElem hq)
  have hs : c9.slots = (s.heap[q]).slots := Array.ext_getElem? fun i => e4 i fun hm => hz _ hm rfl
  have h9 : c9 = s.heap[q] := by
    rw [hs] at e2
    exact e2
  have e5 : U.heap[q]? = some c9 := e1
  rw [e5, h9, Array.getElem?_eq_getElem hq]
/-- the words of a throw but the four that speak of the heap -/
def vx_no (w : Cond) : Bool := decide (w ≠ .isRef (.static Bundle.tN "UNASSIGNED_STACK" Bundle.steD)) && decide (w ≠ .isRef (.static Bundle.tN "SUPPRESSED_SENTINEL" Bundle.listD)) && decide (w ≠ .laysStatic Bundle.tN "UNASSIGNED_STACK" Bundle.steD) && decide (w ≠ .laysStatic Bundle.tN "SUPPRESSED_SENTINEL" Bundle.listD)
def vx_at0 (own : String) (ic : Nat) (X : String) (names : List String) : List Cond := (Bundle.ownAtoms0 own ic X names).filter vx_no
def vx_atS (own : String) (ic : Nat) (X : String) (names : List String) : List Cond := (Bundle.ownAtoms own ic X names).filter vx_no
/-- a word that the tables alone decide, or a good one -/
def vx_ot (w : Cond) : Bool := w.onTables || goodWord w
theorem vx_ot_at {args a' : Array Value} {s U : State} {w : Cond} (hW : s.WarmedH U.vm) (hvm : s.vm = U.vm) (hg : vx_ot w = true) (h : w.before args s = true) : w.before a' U = true := by
  simp only [vx_ot, Bool.or_eq_true] at hg
  rcases hg with hg | hg
  · exact va_tabs hg hvm h
  · exact word_at hW (good_of_word hg) h
/-- a list's words: the good ones out of the method's own list, the others by premises of their own -/
theorem vx_hat {args : Array Value} {s : State} {L B : List Cond} (h1 : ∀ w ∈ L.filter goodWord, w.before args s = true) (h2 : ∀ w ∈ L.filter (fun w => !goodWord w), w ∈ B) (h3 : ∀ w ∈ B, w.before args s = true) : ∀ w ∈ L, w.before args s = true := by
  intro w hw
  by_cases g : goodWord w = true
  · exact h1 w (List.mem_filter.mpr ⟨hw, g⟩)
  · refine h3 w (h2 w (List.mem_filter.mpr ⟨hw, ?_⟩))
    show (!goodWord w) = true
    cases hgw : goodWord w
    · rfl
    · exact absurd hgw g
theorem vx_c {args : Array Value} {s : State} {w : Cond} {B : List Cond} (h : w.before args s = true) (t : ∀ w ∈ B, w.before args s = true) : ∀ w' ∈ w :: B, w'.before args s = true := fun w' h' => (List.mem_cons.mp h').elim (fun e => by rw [e]; exact h) (t w')
theorem vx_n {args : Array Value} {s : State} : ∀ w ∈ ([] : List Cond), w.before args s = true := fun _ h => nomatch h
theorem vx_own {args : Array Value} {s : State} {L : List Cond} (h1 : ∀ w ∈ L.filter vx_no, w.before args s = true)
    (hU : (Cond.isRef (.static Bundle.tN "UNASSIGNED_STACK" Bundle.steD)).before args s = true) (hN : (Cond.isRef (.static Bundle.tN "SUPPRESSED_SENTINEL" Bundle.listD)).before args s = true)
    (lU : (Cond.laysStatic Bundle.tN "UNASSIGNED_STACK" Bundle.steD).before args s = true) (lN : (Cond.laysStatic Bundle.tN "SUPPRESSED_SENTINEL" Bundle.listD).before args s = true) : ∀ w ∈ L, w.before args s = true := by
  intro w hw
  by_cases e1 : w = .isRef (.static Bundle.tN "UNASSIGNED_STACK" Bundle.steD)
  · rw [e1]; exact hU
  · by_cases e2 : w = .isRef (.static Bundle.tN "SUPPRESSED_SENTINEL" Bundle.listD)
    · rw [e2]; exact hN
    · by_cases e3 : w = .laysStatic Bundle.tN "UNASSIGNED_STACK" Bundle.steD
      · rw [e3]; exact lU
      · by_cases e4 : w = .laysStatic Bundle.tN "SUPPRESSED_SENTINEL" Bundle.listD
        · rw [e4]; exact lN
        · exact h1 w (List.mem_filter.mpr ⟨hw, by unfold vx_no; rw [decide_eq_true e1, decide_eq_true e2, decide_eq_true e3, decide_eq_true e4]; rfl⟩)
/-- where a static field lies, its class's statics cell in H -/
def vx_L (C n d : String) (A : Nat → Prop) (U : State) (H : Heap) : Prop := ∃ (c : ClassId) (k : Class) (i : Nat) (f : Field) (a : Nat) (cell : Cell), U.vm.findClass C = some c ∧ U.fieldFound? C n d = some (c, k, i, f) ∧ f.isStatic = true ∧ k.statics = some a ∧ H[a]? = some cell ∧ cell.vm.isStatics = true ∧ cell.cls = c ∧ f.slot < cell.slots.size ∧ k.staticTypes[f.slot]? = some f.type ∧ ¬ A a
theorem vx_L.moved {C n d : String} {A : Nat → Prop} {u U : State} {H : Heap} (hvm : u.vm.Alike U.vm) (h : vx_L C n d A u H) : vx_L C n d A U H := by
  obtain ⟨c, k, i, f, a, cell, h1, h2, h3, h4, h5, h6, h7, h8, h9, h10⟩ := h
  obtain ⟨k', hi', he⟩ := State.fieldFound?_setVm hvm h2
  exact ⟨c, k', i, f, a, cell, by rw [hvm.findClass]; exact h1, hi', h3, by rw [he]; exact h4, h5, h6, h7, h8, by rw [he]; exact h9, h10⟩
theorem vx_L.kept {C n d : String} {A : Nat → Prop} {U : State} {H H1 : Heap} (h : vx_L C n d A U H) (hq : ∀ a : Nat, a < H.size → ¬ A a → H1[a]? = H[a]?) : vx_L C n d A U H1 := by
  obtain ⟨c, k, i, f, a, cell, h1, h2, h3, h4, h5, h6, h7, h8, h9, h10⟩ := h
  exact ⟨c, k, i, f, a, cell, h1, h2, h3, h4, by rw [hq a (Array.getElem?_eq_some_iff.mp h5).1 h10]; exact h5, h6, h7, h8, h9, h10⟩
theorem vx_L.narrow {C n d : String} {A B : Nat → Prop} {U : State} {H : Heap} (h : vx_L C n d A U H) (hAB : ∀ q, B q → A q) : vx_L C n d B U H := by
  obtain ⟨c, k, i, f, a, cell, h1, h2, h3, h4, h5, h6, h7, h8, h9, h10⟩ := h
  exact ⟨c, k, i, f, a, cell, h1, h2, h3, h4, h5, h6, h7, h8, h9, fun z => h10 (hAB _ z)⟩
theorem vx_L.word {C n d : String} {A : Nat → Prop} {s : State} {args : Array Value} (h : vx_L C n d A s s.heap) : (Cond.laysStatic C n d).before args s = true := by
  obtain ⟨c, k, i, f, a, cell, h1, h2, h3, h4, h5, h6, h7, h8, h9, -⟩ := h
  show (Cond.laysStatic C n d).holds args s none s [] = true
  exact Cond.laysStatic_of h1 h2 h3 h4 h5 h6 h7 h8 h9
/-- .. and what it holds: null or some reference -/
def vx_Zq (C n d : String) (A : Nat → Prop) (U : State) (H : Heap) : Prop := va_Zq C n d A U H ∧ vx_L C n d A U H
theorem vx_Zq.moved {C n d : String} {A : Nat → Prop} {u U : State} {H : Heap} (hvm : u.vm.Alike U.vm) (h : vx_Zq C n d A u H) : vx_Zq C n d A U H := ⟨va_Zq.moved hvm h.1, vx_L.moved hvm h.2⟩
theorem vx_Zq.kept {C n d : String} {A : Nat → Prop} {U : State} {H H1 : Heap} (h : vx_Zq C n d A U H) (hq : ∀ a : Nat, a < H.size → ¬ A a → H1[a]? = H[a]?) : vx_Zq C n d A U H1 := ⟨va_Zq.kept h.1 hq, vx_L.kept h.2 hq⟩
theorem vx_Zq.narrow {C n d : String} {A B : Nat → Prop} {U : State} {H : Heap} (h : vx_Zq C n d A U H) (hAB : ∀ q, B q → A q) : vx_Zq C n d B U H := ⟨va_Zq.narrow h.1 hAB, vx_L.narrow h.2 hAB⟩
theorem vx_Zqof {args : Array Value} {s : State} {C n d : String} {A : Nat → Prop} (hl : (Cond.laysStatic C n d).before args s = true) (hini : (Cond.initialized C).before args s = true) (h : (Cond.isRef (.static C n d)).before args s = true) (hA : ∀ a : Nat, a < s.heap.size → ¬ A a) : vx_Zq C n d A s s.heap := by
  refine ⟨va_Zqof hl hini h hA, ?_⟩
  obtain ⟨c, k, i, f, a, cell, h1, h2, h3, h4, h5, h6, h7, h8, h9⟩ := Cond.laysStatic_spec hl
  exact ⟨c, k, i, f, a, cell, h1, h2, h3, h4, h5, h6, h7, h8, h9, hA a (Array.getElem?_eq_some_iff.mp h5).1⟩
theorem vx_isRef {C n d : String} {v : Value} {A : Nat → Prop} {s : State} {args : Array Value} (h : va_Z C n d v A s s.heap) (hv : v.isRef = true) : (Cond.isRef (.static C n d)).before args s = true := by
  obtain ⟨cf, kf, fi, f, a, cell, h1, h2, h3, h4, h5, h6, h7, -⟩ := h
  have he : (Term.static C n d).eval args s none [] s = some v := by
    simp [Term.eval, State.fieldNamed?, h1, h2, h4, h5, h6, h7]
  simp only [Cond.before, Cond.holds, Cond.value, he]
  cases v <;> simp_all [Value.isRef]
theorem vx_isRefq {C n d : String} {A : Nat → Prop} {s : State} {args : Array Value} (h : va_Zq C n d A s s.heap) : (Cond.isRef (.static C n d)).before args s = true := by
  rcases h with h | ⟨t, h⟩
  · exact vx_isRef h rfl
  · exact vx_isRef h rfl
/-- the same frame, seen from here: as if the method were called anew in this heap -/
theorem vx_rebase {T : State} (X : Stand p l e R s m args below meth c T locs cells slots) {R' : Room} (hf : R'.frames ≤ R.frames) (hl : R'.locals ≤ R.locals) (hc : cells + R'.cells ≤ R.cells) (hs : slots + R'.slots ≤ R.slots) :
    Stand p l e R' ((T.setVm s.vm).setFrames (.invoking m args :: below)) m args below meth c T [] 0 0 := by
  have htop : (T.setVm s.vm).topJava?.isSome := X.here.top
  have hF : ((T.setVm s.vm).setFrames (.invoking m args :: below)).frames = .invoking m args :: below := State.frames_setFrames _ (State.cur_lt_of_top htop)
  obtain ⟨g₀, hg0⟩ := Option.isSome_iff_exists.mp htop
  obtain ⟨r, hr⟩ := State.topJava?_eq_some.mp hg0
  have hl9 : e.platform.stackLimits (T.setVm s.vm).me = e.platform.stackLimits s.me := X.limits
  have hb9 : (T.setVm s.vm).me.stackBytes = s.me.stackBytes := X.bytes
  refine ⟨X.admits, X.cas, X.clock, hF, ?_, X.hears, X.method, X.code, X.here, X.tail, X.warmed, ?_, ?_, ?_⟩
  · have h := X.room
    have hU : ((T.setVm s.vm).setFrames (.invoking m args :: below)).localsInUse = s.localsInUse := by
      rw [State.localsInUse_invoking hF (meth := meth) (c := c) X.method X.code, State.localsInUse_invoking X.frames X.method X.code]
    simp only [State.hasRoom, Bool.and_eq_true, decide_eq_true_eq] at h ⊢
    obtain ⟨⟨⟨⟨h1, h2, h3, h4, h5, h6⟩, h7⟩, h8⟩, h9⟩ := h
    rw [X.frames, List.length_cons] at h2 h3
    have q1 := X.heapSize
    have q2 := X.used
    simp only [hF, hU, List.length_cons, State.stackLimits_setFrames, State.stackBytes_setFrames, hl9, hb9]
    refine ⟨⟨⟨⟨by omega, by omega, by omega, by omega, by omega, h6⟩, ?_⟩, ?_⟩, X.book⟩
    · show T.heap.size + R'.cells ≤ e.platform.maxCells
      omega
    · show T.slotsUsed + R'.slots ≤ e.platform.maxSlots
      omega
  · rw [State.stackLimits_setFrames]; rfl
  · rw [State.stackBytes_setFrames]; rfl
  · refine ⟨?_, Nat.le_refl _, Nat.le_refl _, ?_, ?_, fun a c9 h9 => ⟨c9, h9, rfl, rfl, fun _ _ => rfl⟩⟩
    · obtain ⟨t, ht, -⟩ := State.frames_cons hr
      show T.setVm s.vm = { ((T.setVm s.vm).setFrames (.invoking m args :: below)).setFrames (T.setVm s.vm).frames with heap := T.heap, slotsUsed := T.slotsUsed }
      rw [State.setFrames_setFrames, State.setFrames_self ht]
      rfl
    · show T.slotsUsed = T.slotsUsed + ((T.heap.toList.drop T.heap.size).map (·.slots.size)).sum
      rw [List.drop_eq_nil_of_le (Nat.le_of_eq Array.length_toList)]
      rfl
    · show ((T.heap.toList.drop T.heap.size).map (·.slots.size)).sum ≤ 0
      rw [List.drop_eq_nil_of_le (Nat.le_of_eq Array.length_toList)]
      exact Nat.le_refl _
/-- 'throw new E()': new; dup; invokespecial; athrow -/
theorem vx_throw0 {cc : ByteArray} {pc : Nat} (hexec : p.tables.exec = Jvm.exec) (hb : c.code = cc) (hl : l.stackTraces = false) {own cls : String} {names : List String} {ik ic mc ms : Nat} {A : Nat → Prop}
    (hown : s.vm.findClass own = some m.cls) (hcls : Bundle.fit cls = true) (hnames : ∀ n ∈ names, Bundle.fit n = true)
    (hk : (Cond.classLink own ik cls).before args s = true) (hini : (Cond.initialized cls).before args s = true) (hat : ∀ w ∈ vx_at0 own ic cls names, w.before args s = true)
    (hgood : ∀ w ∈ Cond.classLink own ik cls :: Cond.initialized cls :: vx_at0 own ic cls names, vx_ot w = true)
    (hU : vx_Zq Bundle.tN "UNASSIGNED_STACK" Bundle.steD A s s.heap) (hN : vx_Zq Bundle.tN "SUPPRESSED_SENTINEL" Bundle.listD A s s.heap) (hS : va_S A s.heap H locs) (hsize : ls.size = c.maxLocals)
    (d0 : decode cc pc = .ok (.new ik, 3)) (d3 : decode cc (pc + 3) = .ok (.dup, 1)) (d4 : decode cc (pc + 4) = .ok (.invokespecial ic, 3)) (d7 : decode cc (pc + 7) = .ok (.athrow, 1))
    (hout : ∀ x ∈ c.exceptionTable.toList, covers x (pc + 7) = false)
    (hRframes : names.length + 3 < R.frames) (hRlocals : (rest.map fun v => v.category).sum + (13 * (names.length + 1) + 42) ≤ R.locals) (hRcells : cells + 1 ≤ R.cells) (hRslots : slots + 6 ≤ R.slots) (hlocks : meth.locks = false)
    (hx : ∀ t : State, s.vm.Alike t.vm → H.size ≤ t.heap.size → (∀ q : Nat, q < H.size → t.heap[q]? = H[q]?) → XC cls s t)
    (hf : ∀ z ∈ locs, free z.base) (hc : cells + 1 ≤ mc) (hs : slots + 6 ≤ ms) :
    W p l e R s m args below meth c H locs cells slots (vx_MQ below Qc XC args s mc ms free) (F0 m pc ls rest) := by
  intro T hT X
  have htr : e.platform.stackTraces = false := (show e.platform.stackTraces = l.stackTraces by rw [X.admits.platform]).trans hl
  have Y := vx_rebase X (R' := { frames := R.frames, locals := R.locals, cells := 1, slots := 6 }) (Nat.le_refl _) (Nat.le_refl _) hRcells hRslots
  obtain ⟨s', hA⟩ : ∃ z, z = (T.setVm s.vm).setFrames (.invoking m args :: below) := ⟨_, rfl⟩
  rw [← hA] at Y
  have hvm : s'.vm = s.vm := by rw [hA]; rfl
  have hhp : s'.heap = H := by rw [hA]; exact hT
  have hW0 : s.WarmedH s'.vm := by rw [hvm]; exact State.WarmedH.refl s
  have hat' : ∀ w ∈ vx_at0 own ic cls names, w.before args s' = true := fun w hw => vx_ot_at hW0 hvm.symm (hgood w (List.mem_cons_of_mem _ (List.mem_cons_of_mem _ hw))) (hat w hw)
  have hk' : (Cond.classLink own ik cls).before args s' = true := vx_ot_at hW0 hvm.symm (hgood _ List.mem_cons_self) hk
  have hini' : (Cond.initialized cls).before args s' = true := vx_ot_at hW0 hvm.symm (hgood _ (List.mem_cons_of_mem _ List.mem_cons_self)) hini
  have hU' : vx_Zq Bundle.tN "UNASSIGNED_STACK" Bundle.steD A s' s'.heap := by rw [hhp]; exact vx_Zq.moved hW0.alike (hU.kept hS.2.1)
  have hN' : vx_Zq Bundle.tN "SUPPRESSED_SENTINEL" Bundle.listD A s' s'.heap := by rw [hhp]; exact vx_Zq.moved hW0.alike (hN.kept hS.2.1)
  have h : ∀ w ∈ Bundle.ownAtoms0 own ic cls names, w.before args s' = true := vx_own hat' (vx_isRefq hU'.1) (vx_isRefq hN'.1) hU'.2.word hN'.2.word
  have hown' : s'.vm.findClass own = some m.cls := by rw [hvm]; exact hown
  have hins : (Cond.instantiable cls 6).before args s' = true := h _ (by simp [Bundle.ownAtoms0])
  obtain ⟨vm₁, cX, kX, hfX, hkX, -, -, X₁, st1⟩ := Y.newCold hexec (own := own) (C := cls) (index := ik) (n := 6) hown' hk' hins hini'
    (g := F0 m pc ls rest) rfl (by rw [hb]; exact d0) (Nat.le_refl _) (Nat.le_refl _)
  generalize hT1 : (T.setVm vm₁).pushCell { cls := cX, slots := kX.instanceTypes.map defaultValue, vm := .none } = T1 at X₁ st1
  have hcat : (Value.ref T.heap.size).category = 1 := rfl
  have hcellA : T1.heap[T.heap.size]? = some (freshCell cX kX) := by rw [← hT1]; exact State.heap_pushCell_size _ _
  have d3' : decode c.code (pc + 3) = .ok (.dup, 1) := by rw [hb]; exact d3
  obtain ⟨U, hsteps, hrun, hend, hW, hsame, ce, hce, hO⟩ := X₁.ctorThrow0 hexec htr (own := own) (cls := cls) (names := names) (ic := ic) hown' hcls hnames h (fun x hx => nomatch hx) hfX hkX hcellA (by rw [hhp, hT]; exact Nat.le_refl _)
    (g := { method := m, pc := pc + 4, locals := ls, stack := .ref T.heap.size :: .ref T.heap.size :: rest, locked := none }) rfl hsize rfl rfl (rest := rest) rfl
    (by rw [hb]; exact d4) (by rw [hb]; exact d7) hout hRframes (by simp only [List.map_cons, List.sum_cons, hcat]; omega) hlocks
  obtain ⟨f1, f2⟩ := vx_frame hsame
  rw [hhp] at f1 f2
  have hWs : s.WarmedH U.vm := State.WarmedH.trans hW0 hW
  have hcl : s.vm.findClass cls = some ce.cls := by
    have h9 := hO.cls
    rw [hvm] at h9
    exact h9
  have hall : s.sameButNew ({ U with vm := s.vm } : State) locs mc ms := by
    subst hA
    obtain ⟨e1, e2⟩ := hsame
    rw [State.setFrames_setFrames] at e1
    have h2 : (T.setVm s.vm).sameButNew ({ U with vm := s.vm } : State) [] (0 + 1) (0 + 6) := ⟨e1, e2⟩
    have h3 := X.same.trans h2
    rw [List.append_nil] at h3
    exact h3.mono hc hs
  refine ⟨U, ?_, .threw T.heap.size, hrun, hend, Or.inr ⟨T.heap.size, rfl, cls, ce, locs, hx U hWs.alike f1 (fun q hq => f2 q hq (fun z hz => nomatch hz)), hce, hO.vm, hcl, hWs, hall, hf⟩⟩
  refine st1 _ ?_
  show Steps p.tables e below (T1.setTop { method := m, pc := pc + 3, locals := ls, stack := .ref T.heap.size :: rest, locked := none }) _
  jvm_step X₁.here [X₁.here.top, hexec, d3', Value.category]
  exact hsteps
/-- 'throw new E("text")': new; dup; ldc; invokespecial; athrow -/
theorem vx_throwS {cc : ByteArray} {pc : Nat} (hexec : p.tables.exec = Jvm.exec) (hb : c.code = cc) (hl : l.stackTraces = false) {own cls text : String} {names : List String} {ik is ic mc ms sa : Nat} {A : Nat → Prop}
    (hown : s.vm.findClass own = some m.cls) (hcls : Bundle.fit cls = true) (hnames : ∀ n ∈ names, Bundle.fit n = true)
    (hk : (Cond.classLink own ik cls).before args s = true) (hini : (Cond.initialized cls).before args s = true) (hstr : vk_R own is text sa s) (hat : ∀ w ∈ vx_atS own ic cls names, w.before args s = true)
    (hgood : ∀ w ∈ Cond.classLink own ik cls :: Cond.initialized cls :: vx_atS own ic cls names, vx_ot w = true)
    (hU : vx_Zq Bundle.tN "UNASSIGNED_STACK" Bundle.steD A s s.heap) (hN : vx_Zq Bundle.tN "SUPPRESSED_SENTINEL" Bundle.listD A s s.heap) (hS : va_S A s.heap H locs) (hsize : ls.size = c.maxLocals)
    (d0 : decode cc pc = .ok (.new ik, 3)) (d3 : decode cc (pc + 3) = .ok (.dup, 1)) (d4 : decode cc (pc + 4) = .ok (.ldc is, 2)) (d6 : decode cc (pc + 6) = .ok (.invokespecial ic, 3)) (d9 : decode cc (pc + 9) = .ok (.athrow, 1))
    (hout : ∀ x ∈ c.exceptionTable.toList, covers x (pc + 9) = false)
    (hRframes : names.length + 3 < R.frames) (hRlocals : (rest.map fun v => v.category).sum + (13 * (names.length + 1) + 43) ≤ R.locals) (hRcells : cells + 1 ≤ R.cells) (hRslots : slots + 6 ≤ R.slots) (hlocks : meth.locks = false)
    (hx : ∀ t : State, s.vm.Alike t.vm → H.size ≤ t.heap.size → (∀ q : Nat, q < H.size → t.heap[q]? = H[q]?) → XC cls s t)
    (hf : ∀ z ∈ locs, free z.base) (hc : cells + 1 ≤ mc) (hs : slots + 6 ≤ ms) :
    W p l e R s m args below meth c H locs cells slots (vx_MQ below Qc XC args s mc ms free) (F0 m pc ls rest) := by
  intro T hT X
  have htr : e.platform.stackTraces = false := (show e.platform.stackTraces = l.stackTraces by rw [X.admits.platform]).trans hl
  have Y := vx_rebase X (R' := { frames := R.frames, locals := R.locals, cells := 1, slots := 6 }) (Nat.le_refl _) (Nat.le_refl _) hRcells hRslots
  obtain ⟨s', hA⟩ : ∃ z, z = (T.setVm s.vm).setFrames (.invoking m args :: below) := ⟨_, rfl⟩
  rw [← hA] at Y
  have hvm : s'.vm = s.vm := by rw [hA]; rfl
  have hhp : s'.heap = H := by rw [hA]; exact hT
  have hW0 : s.WarmedH s'.vm := by rw [hvm]; exact State.WarmedH.refl s
  have hat' : ∀ w ∈ vx_atS own ic cls names, w.before args s' = true := fun w hw => vx_ot_at hW0 hvm.symm (hgood w (List.mem_cons_of_mem _ (List.mem_cons_of_mem _ hw))) (hat w hw)
  have hk' : (Cond.classLink own ik cls).before args s' = true := vx_ot_at hW0 hvm.symm (hgood _ List.mem_cons_self) hk
  have hini' : (Cond.initialized cls).before args s' = true := vx_ot_at hW0 hvm.symm (hgood _ (List.mem_cons_of_mem _ List.mem_cons_self)) hini
  have hU' : vx_Zq Bundle.tN "UNASSIGNED_STACK" Bundle.steD A s' s'.heap := by rw [hhp]; exact vx_Zq.moved hW0.alike (hU.kept hS.2.1)
  have hN' : vx_Zq Bundle.tN "SUPPRESSED_SENTINEL" Bundle.listD A s' s'.heap := by rw [hhp]; exact vx_Zq.moved hW0.alike (hN.kept hS.2.1)
  have h : ∀ w ∈ Bundle.ownAtoms own ic cls names, w.before args s' = true := vx_own hat' (vx_isRefq hU'.1) (vx_isRefq hN'.1) hU'.2.word hN'.2.word
  have hown' : s'.vm.findClass own = some m.cls := by rw [hvm]; exact hown
  have hins : (Cond.instantiable cls 6).before args s' = true := h _ (by simp [Bundle.ownAtoms])
  obtain ⟨vm₁, cX, kX, hfX, hkX, -, -, X₁, st1⟩ := Y.newCold hexec (own := own) (C := cls) (index := ik) (n := 6) hown' hk' hins hini'
    (g := F0 m pc ls rest) rfl (by rw [hb]; exact d0) (Nat.le_refl _) (Nat.le_refl _)
  generalize hT1 : (T.setVm vm₁).pushCell { cls := cX, slots := kX.instanceTypes.map defaultValue, vm := .none } = T1 at X₁ st1
  have hcat : (Value.ref T.heap.size).category = 1 := rfl
  have hcellA : T1.heap[T.heap.size]? = some (freshCell cX kX) := by rw [← hT1]; exact State.heap_pushCell_size _ _
  have d3' : decode c.code (pc + 3) = .ok (.dup, 1) := by rw [hb]; exact d3
  have d4' : decode c.code (pc + 4) = .ok (.ldc is, 2) := by rw [hb]; exact d4
  have hstr' : vk_R own is text sa s' := vk_R.warm hW0 hstr
  obtain ⟨U, hsteps, hrun, hend, hW, hsame, ce, hce, hO⟩ := X₁.ctorThrowS hexec htr (own := own) (cls := cls) (names := names) (ic := ic) hown' hcls hnames h (fun x hx => nomatch hx) hfX hkX hcellA (by rw [hhp, hT]; exact Nat.le_refl _) (msg := .ref sa) rfl
    (g := { method := m, pc := pc + 6, locals := ls, stack := .ref sa :: .ref T.heap.size :: .ref T.heap.size :: rest, locked := none }) rfl hsize rfl rfl (rest := rest) rfl
    (by rw [hb]; exact d6) (by rw [hb]; exact d9) hout hRframes (by simp only [List.map_cons, List.sum_cons, hcat]; omega) hlocks
  obtain ⟨f1, f2⟩ := vx_frame hsame
  rw [hhp] at f1 f2
  have hWs : s.WarmedH U.vm := State.WarmedH.trans hW0 hW
  have hcl : s.vm.findClass cls = some ce.cls := by
    have h9 := hO.cls
    rw [hvm] at h9
    exact h9
  have hall : s.sameButNew ({ U with vm := s.vm } : State) locs mc ms := by
    subst hA
    obtain ⟨e1, e2⟩ := hsame
    rw [State.setFrames_setFrames] at e1
    have h2 : (T.setVm s.vm).sameButNew ({ U with vm := s.vm } : State) [] (0 + 1) (0 + 6) := ⟨e1, e2⟩
    have h3 := X.same.trans h2
    rw [List.append_nil] at h3
    exact h3.mono hc hs
  refine ⟨U, ?_, .threw T.heap.size, hrun, hend, Or.inr ⟨T.heap.size, rfl, cls, ce, locs, hx U hWs.alike f1 (fun q hq => f2 q hq (fun z hz => nomatch hz)), hce, hO.vm, hcl, hWs, hall, hf⟩⟩
  refine st1 _ ?_
  show Steps p.tables e below (T1.setTop { method := m, pc := pc + 3, locals := ls, stack := .ref T.heap.size :: rest, locked := none }) _
  jvm_step X₁.here [X₁.here.top, hexec, d3', Value.category]
  exact X₁.ldcString hexec (own := own) (text := text) (index := is) (a := sa) hown' hstr'.1 hstr'.2
    (g := { method := m, pc := pc + 4, locals := ls, stack := .ref T.heap.size :: .ref T.heap.size :: rest, locked := none }) rfl d4' _ hsteps
/-- 'throw new E("text")', the text by a wide index -/
theorem vx_throwSW {cc : ByteArray} {pc : Nat} (hexec : p.tables.exec = Jvm.exec) (hb : c.code = cc) (hl : l.stackTraces = false) {own cls text : String} {names : List String} {ik is ic mc ms sa : Nat} {A : Nat → Prop}
    (hown : s.vm.findClass own = some m.cls) (hcls : Bundle.fit cls = true) (hnames : ∀ n ∈ names, Bundle.fit n = true)
    (hk : (Cond.classLink own ik cls).before args s = true) (hini : (Cond.initialized cls).before args s = true) (hstr : vk_R own is text sa s) (hat : ∀ w ∈ vx_atS own ic cls names, w.before args s = true)
    (hgood : ∀ w ∈ Cond.classLink own ik cls :: Cond.initialized cls :: vx_atS own ic cls names, vx_ot w = true)
    (hU : vx_Zq Bundle.tN "UNASSIGNED_STACK" Bundle.steD A s s.heap) (hN : vx_Zq Bundle.tN "SUPPRESSED_SENTINEL" Bundle.listD A s s.heap) (hS : va_S A s.heap H locs) (hsize : ls.size = c.maxLocals)
    (d0 : decode cc pc = .ok (.new ik, 3)) (d3 : decode cc (pc + 3) = .ok (.dup, 1)) (d4 : decode cc (pc + 4) = .ok (.ldc_w is, 3)) (d7 : decode cc (pc + 7) = .ok (.invokespecial ic, 3)) (d10 : decode cc (pc + 10) = .ok (.athrow, 1))
    (hout : ∀ x ∈ c.exceptionTable.toList, covers x (pc + 10) = false)
    (hRframes : names.length + 3 < R.frames) (hRlocals : (rest.map fun v => v.category).sum + (13 * (names.length + 1) + 43) ≤ R.locals) (hRcells : cells + 1 ≤ R.cells) (hRslots : slots + 6 ≤ R.slots) (hlocks : meth.locks = false)
    (hx : ∀ t : State, s.vm.Alike t.vm → H.size ≤ t.heap.size → (∀ q : Nat, q < H.size → t.heap[q]? = H[q]?) → XC cls s t)
    (hf : ∀ z ∈ locs, free z.base) (hc : cells + 1 ≤ mc) (hs : slots + 6 ≤ ms) :
    W p l e R s m args below meth c H locs cells slots (vx_MQ below Qc XC args s mc ms free) (F0 m pc ls rest) := by
  intro T hT X
  have htr : e.platform.stackTraces = false := (show e.platform.stackTraces = l.stackTraces by rw [X.admits.platform]).trans hl
  have Y := vx_rebase X (R' := { frames := R.frames, locals := R.locals, cells := 1, slots := 6 }) (Nat.le_refl _) (Nat.le_refl _) hRcells hRslots
  obtain ⟨s', hA⟩ : ∃ z, z = (T.setVm s.vm).setFrames (.invoking m args :: below) := ⟨_, rfl⟩
  rw [← hA] at Y
  have hvm : s'.vm = s.vm := by rw [hA]; rfl
  have hhp : s'.heap = H := by rw [hA]; exact hT
  have hW0 : s.WarmedH s'.vm := by rw [hvm]; exact State.WarmedH.refl s
  have hat' : ∀ w ∈ vx_atS own ic cls names, w.before args s' = true := fun w hw => vx_ot_at hW0 hvm.symm (hgood w (List.mem_cons_of_mem _ (List.mem_cons_of_mem _ hw))) (hat w hw)
  have hk' : (Cond.classLink own ik cls).before args s' = true := vx_ot_at hW0 hvm.symm (hgood _ List.mem_cons_self) hk
  have hini' : (Cond.initialized cls).before args s' = true := vx_ot_at hW0 hvm.symm (hgood _ (List.mem_cons_of_mem _ List.mem_cons_self)) hini
  have hU' : vx_Zq Bundle.tN "UNASSIGNED_STACK" Bundle.steD A s' s'.heap := by rw [hhp]; exact vx_Zq.moved hW0.alike (hU.kept hS.2.1)
  have hN' : vx_Zq Bundle.tN "SUPPRESSED_SENTINEL" Bundle.listD A s' s'.heap := by rw [hhp]; exact vx_Zq.moved hW0.alike (hN.kept hS.2.1)
  have h : ∀ w ∈ Bundle.ownAtoms own ic cls names, w.before args s' = true := vx_own hat' (vx_isRefq hU'.1) (vx_isRefq hN'.1) hU'.2.word hN'.2.word
  have hown' : s'.vm.findClass own = some m.cls := by rw [hvm]; exact hown
  have hins : (Cond.instantiable cls 6).before args s' = true := h _ (by simp [Bundle.ownAtoms])
  obtain ⟨vm₁, cX, kX, hfX, hkX, -, -, X₁, st1⟩ := Y.newCold hexec (own := own) (C := cls) (index := ik) (n := 6) hown' hk' hins hini'
    (g := F0 m pc ls rest) rfl (by rw [hb]; exact d0) (Nat.le_refl _) (Nat.le_refl _)
  generalize hT1 : (T.setVm vm₁).pushCell { cls := cX, slots := kX.instanceTypes.map defaultValue, vm := .none } = T1 at X₁ st1
  have hcat : (Value.ref T.heap.size).category = 1 := rfl
  have hcellA : T1.heap[T.heap.size]? = some (freshCell cX kX) := by rw [← hT1]; exact State.heap_pushCell_size _ _
  have d3' : decode c.code (pc + 3) = .ok (.dup, 1) := by rw [hb]; exact d3
  have d4' : decode c.code (pc + 4) = .ok (.ldc_w is, 3) := by rw [hb]; exact d4
  have hstr' : vk_R own is text sa s' := vk_R.warm hW0 hstr
  obtain ⟨U, hsteps, hrun, hend, hW, hsame, ce, hce, hO⟩ := X₁.ctorThrowS hexec htr (own := own) (cls := cls) (names := names) (ic := ic) hown' hcls hnames h (fun x hx => nomatch hx) hfX hkX hcellA (by rw [hhp, hT]; exact Nat.le_refl _) (msg := .ref sa) rfl
    (g := { method := m, pc := pc + 7, locals := ls, stack := .ref sa :: .ref T.heap.size :: .ref T.heap.size :: rest, locked := none }) rfl hsize rfl rfl (rest := rest) rfl
    (by rw [hb]; exact d7) (by rw [hb]; exact d10) hout hRframes (by simp only [List.map_cons, List.sum_cons, hcat]; omega) hlocks
  obtain ⟨f1, f2⟩ := vx_frame hsame
  rw [hhp] at f1 f2
  have hWs : s.WarmedH U.vm := State.WarmedH.trans hW0 hW
  have hcl : s.vm.findClass cls = some ce.cls := by
    have h9 := hO.cls
    rw [hvm] at h9
    exact h9
  have hall : s.sameButNew ({ U with vm := s.vm } : State) locs mc ms := by
    subst hA
    obtain ⟨e1, e2⟩ := hsame
    rw [State.setFrames_setFrames] at e1
    have h2 : (T.setVm s.vm).sameButNew ({ U with vm := s.vm } : State) [] (0 + 1) (0 + 6) := ⟨e1, e2⟩
    have h3 := X.same.trans h2
    rw [List.append_nil] at h3
    exact h3.mono hc hs
  refine ⟨U, ?_, .threw T.heap.size, hrun, hend, Or.inr ⟨T.heap.size, rfl, cls, ce, locs, hx U hWs.alike f1 (fun q hq => f2 q hq (fun z hz => nomatch hz)), hce, hO.vm, hcl, hWs, hall, hf⟩⟩
  refine st1 _ ?_
  show Steps p.tables e below (T1.setTop { method := m, pc := pc + 3, locals := ls, stack := .ref T.heap.size :: rest, locked := none }) _
  jvm_step X₁.here [X₁.here.top, hexec, d3', Value.category]
  exact X₁.ldcStringW hexec (own := own) (text := text) (index := is) (a := sa) hown' hstr'.1 hstr'.2
    (g := { method := m, pc := pc + 4, locals := ls, stack := .ref T.heap.size :: .ref T.heap.size :: rest, locked := none }) rfl d4' _ hsteps
end Ends
section Bodies
variable {l : Launch}
theorem vx_ofW {y : MethodName} {ws ws' : List Cond} {rm : Room} {Pc : Array Value → State → Prop} {Qc : Array Value → State → Outcome → State → Prop} {XC : String → State → State → Prop} {mc ms : Nat} {free : Addr → Prop} {cc : ByteArray} {maxL : Nat} {ret : Option FieldType}
    (hy : plainName y.cls = true) (hw : ws = Cond.code y cc maxL ret :: ws')
    (body : ∀ p e s m args below meth c s₁, BodyLoose p l y (headSpec ws rm) cc maxL ret e s m args below meth c s₁ → c.maxLocals = maxL → (∀ x ∈ c.exceptionTable.toList, False) → Pc args s →
      W p l e (headSpec ws rm).room s m args below meth c s.heap [] 0 0 (vx_MQ below Qc XC args s mc ms free) (entryFrame m args maxL)) : vx_Met l y ws rm Pc Qc XC mc ms free := by
  refine MetFree.of_bodyS (code := cc) (maxLocals := maxL) (ret := ret) hy ?_ ?_
  · intro args s m h hn
    obtain ⟨meth, c, h1, h2, h3, h4, h5, h6, -, -⟩ := Cond.code_spec hn (atoms_spec (ws := ws) h _ (by rw [hw]; exact List.mem_cons_self))
    exact ⟨meth, c, h1, h2, h3, h4, h5, h6⟩
  · intro p e s m args below meth c s₁ B hml hP _
    have hh0 : s₁.heap = s.heap := by rw [B.state]; rfl
    have ht : ∀ x ∈ c.exceptionTable.toList, False := by
      obtain ⟨meth9, c9, h1, h2, -, -, -, -, h7, -⟩ := Cond.code_spec B.named (atoms_spec (ws := ws) B.pre _ (by rw [hw]; exact List.mem_cons_self))
      cases Option.some.inj (h1.symm.trans B.method)
      cases Option.some.inj (h2.symm.trans (Stand.of_body B).code)
      intro x hx
      rw [Array.isEmpty_iff.mp h7] at hx
      cases hx
    obtain ⟨t, a1, o, b1, b2, b3⟩ := body p e s m args below meth c s₁ B hml ht hP s₁ hh0 (Stand.of_body B)
    exact ⟨t, o, a1, b1, b2, b3⟩
/-- the table of a body with handlers -/
theorem vx_table {p : Program} {x y : MethodName} {S : Spec} {cc bytes : ByteArray} {maxL maxL' : Nat} {ret ret' : Option FieldType} {e : Env} {s s₁ : State} {m : MethodId} {args : Array Value} {below : List Frame} {meth : Method} {c : Code} {hh : List (Nat × Nat × Nat × Nat)}
    (B : BodyLoose p l y S cc maxL ret e s m args below meth c s₁) (h : (Cond.codeWith y bytes maxL' ret' hh).before args s = true) : c.exceptionTable.toList = tableOf hh := by
  obtain ⟨m9, meth9, c9, hn9, h1, h2, -, -, h6, -⟩ := Cond.codeWith_spec h
  cases Option.some.inj (hn9.symm.trans B.named)
  cases Option.some.inj (h1.symm.trans B.method)
  cases Option.some.inj (h2.symm.trans (Stand.of_body B).code)
  rw [← h6, table_eq]
end Bodies
end VXA
/-! ===== END ===== -/
/-! ===== BEGIN a static call of a method with an exception table ===== -/
section VXS
variable {p : Program} {l : Launch} {e : Env} {R : Room} {s : State} {m : MethodId} {args : Array Value} {below : List Frame} {meth : Method} {c : Code} {T : State} {H : Heap} {locs : List Loc} {cells slots : Nat}
abbrev vx_CSW (R : Room) (s : State) (args : Array Value) (own : String) (index : Nat) (y : MethodName) (bytes : ByteArray) (maxL : Nat) (ret : Option FieldType) (hh : List (Nat × Nat × Nat × Nat)) (ws : List Cond) (rm : Room) (mc ms n : Nat) : Prop :=
  (rm.cells = mc ∧ rm.slots = ms ∧ rm.frames + 1 ≤ R.frames ∧ 8 + (maxL + 11) + rm.locals ≤ R.locals ∧ (∀ w ∈ ws, ∀ (a' : Array Value) (U : State), s.WarmedH U.vm → w.before a' U = true) ∧ Cond.codeWith y bytes maxL ret hh ∈ ws) ∧
  (Cond.codeWith y bytes maxL ret hh).before args s = true ∧ (Cond.initialized y.cls).before args s = true ∧ (y.cls ≠ "java/lang/invoke/MethodHandle" ∧ y.cls ≠ "java/lang/invoke/VarHandle") ∧
  (∀ sig, parseMethodDescriptor y.desc = some sig → n = sig.parameters.length) ∧ (Cond.methodLink own index y).before args s = true ∧ (Cond.static y).before args s = true
theorem vx_cwSW {own : String} {index maxL mc ms : Nat} {y : MethodName} {bytes : ByteArray} {ret : Option FieldType} {hh : List (Nat × Nat × Nat × Nat)} {Ts ws ws' : List Cond} {rm : Room} (n : Nat) (ht : ∀ w ∈ Ts, w.before args s = true) (hT : GoodIn Ts (va_wsS own index y ws)) (hw : ws = Cond.codeWith y bytes maxL ret hh :: ws') (hrc : rm.cells = mc) (hrs : rm.slots = ms)
    (hd : y.cls ≠ "java/lang/invoke/MethodHandle" ∧ y.cls ≠ "java/lang/invoke/VarHandle" ∧ (parseMethodDescriptor y.desc).map (fun d => d.parameters.length) = some n) (hR : rm.frames + 1 ≤ R.frames ∧ 8 + (maxL + 11) + rm.locals ≤ R.locals) :
    vx_CSW R s args own index y bytes maxL ret hh ws rm mc ms n := by
  have ok : ∀ w ∈ va_wsS own index y ws, w.before args s = true := fun w h => ht w (hT w h).1
  have hG : GoodIn Ts ws := fun w h => hT w (by unfold va_wsS; exact List.mem_append_right _ h)
  have hc : Cond.codeWith y bytes maxL ret hh ∈ ws := by rw [hw]; exact List.mem_cons_self
  refine ⟨⟨hrc, hrs, hR.1, hR.2, pay_in ht hG, hc⟩, ht _ (hG _ hc).1, ok _ (by simp [va_wsS]), ⟨hd.1, hd.2.1⟩, fun sig h => ?_, ok _ (by simp [va_wsS]), ok _ (by simp [va_wsS])⟩
  have h2 := hd.2.2
  rw [h] at h2
  exact (Option.some.inj h2).symm
theorem vx_callSW (X : Stand p l e R s m args below meth c T locs cells slots) (hexec : p.tables.exec = Jvm.exec) {own : String} {index : Nat} {y : MethodName} {bytes : ByteArray} {maxL : Nat} {ret : Option FieldType} {hh : List (Nat × Nat × Nat × Nat)}
    (hown : s.vm.findClass own = some m.cls) (hlink : (Cond.methodLink own index y).before args s = true) (hstat : (Cond.static y).before args s = true) (hinit : (Cond.initialized y.cls).before args s = true)
    (hcode : (Cond.codeWith y bytes maxL ret hh).before args s = true) (hy : y.cls ≠ "java/lang/invoke/MethodHandle" ∧ y.cls ≠ "java/lang/invoke/VarHandle")
    {W9 : Nat} {Pre : Pt → Array Value → Prop} {Post : Pt → Array Value → Option Value → Pt → Prop} (hK : Back l R p e below s args y 3 W9 Pre Post)
    {g : JFrame} (hg : g.method = m) (hsize : g.locals.size = c.maxLocals) {argsL rest : List Value} (hlen : ∀ sig, parseMethodDescriptor y.desc = some sig → argsL.length = sig.parameters.length)
    (hstack : g.stack = argsL.reverse ++ rest) (hW : 2 * g.monitorRoom + (rest.map fun v => v.category).sum ≤ W9) (hdg : decode c.code g.pc = .ok (.invokestatic index, 3))
    (hpre : ∀ vm₁, s.WarmedH vm₁ → Pre ⟨T.setVm vm₁, locs, cells, slots⟩ argsL.toArray) :
    ∃ (v : Option Value) (vm₁ : Vm) (B : Pt), s.WarmedH vm₁ ∧ Stand p l e R s m args below meth c B.U B.locs B.cells B.slots ∧ Post ⟨T.setVm vm₁, locs, cells, slots⟩ argsL.toArray v B ∧
      ∀ target, Steps p.tables e below (B.U.setTop { g with pc := g.pc + 3, stack := v.toList ++ rest }) target → Steps p.tables e below (T.setTop g) target := by
  obtain ⟨mk, methM, cM, hnamed, hmethM, -, -, -, -, -, -, hsigM⟩ := Cond.codeWith_spec hcode
  have hstatic : methM.isStatic = true := Cond.static_spec hnamed hmethM hstat
  obtain ⟨kP, hkP, -⟩ := className_of_methodNamed hnamed
  have hinitP : kP.init = .initialized := Cond.initialized_spec (findClass_of_methodNamed hnamed) hkP hinit
  obtain ⟨vm₁, X₁, hstep₁⟩ := X.invokestatic hexec hown hlink hnamed hmethM hstatic hkP hinitP hy (g := g) hg (argsL := argsL) (rest := rest) (hlen _ hsigM) hstack hdg
  obtain ⟨v, B, X', hpost, hsteps⟩ := hK m meth c ⟨T.setVm vm₁, locs, cells, slots⟩ { g with stack := rest } (.invokestatic index) mk argsL.toArray X₁ hg hsize hdg hW (X₁.named hnamed) (hpre vm₁ X₁.warmed)
  exact ⟨v, vm₁, B, X₁.warmed, X', hpost, fun target h => hstep₁ _ fun acts => by rw [doInvoke_state]; exact hsteps.trans h⟩
theorem vx_runSW {y : MethodName} {bytes cc : ByteArray} {maxL nL mc ms n index : Nat} {ret : Option FieldType} {hh : List (Nat × Nat × Nat × Nat)} {ws : List Cond} {rm : Room} {Pc : Array Value → State → Prop} {Qc : Array Value → State → Outcome → State → Prop} {free : Addr → Prop} {Ts : List Cond} {own : String} {As rest : List Value} {g : JFrame}
    (S : CallFix p m c cc nL s args Ts own) (hM : Met l y ws rm Pc Qc mc ms free) (cw : vx_CSW R s args own index y bytes maxL ret hh ws rm mc ms n) (hp : PreS s H Pc As)
    (hg : g.method = m) (hn : As.length = n) (hsize : g.locals.size = nL) (hstack : g.stack = As.reverse ++ rest) (hW : 2 * g.monitorRoom + (rest.map fun v => v.category).sum ≤ 8) (hdg : decode cc g.pc = .ok (.invokestatic index, 3)) (hf : cells + mc ≤ R.cells ∧ slots + ms ≤ R.slots) :
    va_Run p l e R s m args below meth c H locs cells slots mc ms g rest (Qc As.toArray) (free) := by
  obtain ⟨⟨hrc, hrs, hfr, hlo, hws, hcw⟩, hcode, hini, hy, hlen, hl, hstt⟩ := cw
  have hK : Back l R p e below s args y 3 8 (PreOf R mc ms Pc) (PostOf Qc mc ms free) := va_backW (hh := hh) (bytes := bytes) (maxL := maxL) (ret := ret) hM hp.1 hrc hrs hfr hlo hws hcw (fun a' U hW => word_at hW (Or.inl (by first | rfl | simp [Cond.onTables, Cond.keeps, Cond.steady])) hini)
  obtain ⟨hx, hb, hml, ho, -⟩ := S
  intro T hT X
  obtain ⟨v, vm₁, ⟨U', l2, c2, s2⟩, hW₁, X', ⟨g', mk, t, L, e1, e2, hq, h1, hL, h2, h3⟩, st⟩ := vx_callSW X hx (hh := hh) (bytes := bytes) (maxL := maxL) (ret := ret) ho hl hstt hini hcode hy hK hg (hsize.trans hml.symm) (argsL := As) (rest := rest) (fun sig h => hn.trans (hlen sig h)) hstack hW (by rw [hb]; exact hdg)
    (fun vm₁ hW₁ => ⟨hf.1, hf.2, hp.2 (T.setVm vm₁) hT hW₁⟩)
  dsimp only [Pt.U, Pt.locs, Pt.cells, Pt.slots] at X' e1 e2 h1 h2 h3 st
  subst h1; subst h2; subst h3
  exact ⟨v, (T.setVm vm₁).calling g' mk As.toArray, t, U', L, hT, X', hL, e1, e2, hq, st⟩
/-- not caught here, past rows that name other classes: it goes on to the caller -/
theorem vx_outP {p : Program} {l : Launch} {e : Env} {R : Room} {s : State} {m : MethodId} {args : Array Value} {below : List Frame} {meth : Method} {c : Code} {H : Heap} {locs : List Loc} {cells slots : Nat} {free : Addr → Prop} {ls : Array Slot} {rest : List Value} {Qc : Array Value → State → Outcome → State → Prop} {XC : String → State → State → Prop}
    {pc : Nat} {own E : String} {ce : Cell} {q : Addr} {mc ms : Nat} (hown : s.vm.findClass own = some m.cls) (hlocks : meth.locks = false)
    (hpass : ∀ z ∈ c.exceptionTable.toList, covers z pc = false ∨ (z.catchType ≠ 0 ∧ ∃ nm : String, (Cond.classLink own z.catchType nm).before args s = true ∧ va_Nc E nm s)) (hcell : H[q]? = some ce) (hv : ce.vm = .none) (hcl : s.vm.findClass E = some ce.cls)
    (hx : ∀ t : State, t.heap = H → s.vm.Alike t.vm → XC E s t) (hf : ∀ z ∈ locs, free z.base) (hc : cells ≤ mc) (hs : slots ≤ ms) :
    vx_W p l e R s m args below meth c H locs cells slots (vx_MQ below Qc XC args s mc ms free) (F0 m pc ls rest) q := by
  intro T hT X
  have hpl : e.platform.magicAccessors = ({} : Platform).magicAccessors := by rw [X.admits.platform]
  obtain ⟨vm', hW', X', st⟩ := X.outThrough hlocks q (g := F0 m pc ls rest) rfl rfl rfl (cell := ce) (by rw [hT]; exact hcell) (by rw [hv]; rfl)
    (by obtain ⟨k9, h9, -⟩ := Vm.findClass_spec hcl; exact ⟨k9, h9⟩) (fun z hz => by
      rcases hpass z hz with h | ⟨hz0, nm, hl1, hn1⟩
      · exact Or.inl h
      · obtain ⟨c6, hc6, hcl6⟩ := Cond.classLink_spec hown hl1 e.platform hpl
        obtain ⟨a8, b8, h1, h2, h3⟩ := hn1
        cases Option.some.inj (h1.symm.trans hcl)
        cases Option.some.inj (h2.symm.trans hc6)
        exact Or.inr ⟨hz0, _, hcl6, h3⟩)
  obtain ⟨g₀, hfr⟩ := X'.frames_eq
  have hcell9 : ((T.setVm vm').setFrames (.throwing q :: below)).heap[q]? = some ce := by
    show T.heap[q]? = some ce
    rw [hT]; exact hcell
  have hend : Ended ((T.setVm vm').setFrames (.throwing q :: below)) below (.threw q) := State.frames_setFrames _ (State.cur_lt_of_frames hfr)
  refine ⟨(T.setVm vm').setFrames (.throwing q :: below), ?_, .threw q, X'.here.running, hend, Or.inr ⟨q, rfl, E, ce, locs, hx _ hT (X'.ends _).1.alike, hcell9, hv, hcl, (X'.ends _).1, (X'.ends _).2.mono hc hs, hf⟩⟩
  rw [X.pushThrowing_eq]
  exact st
/-- a thing of a world lies in the heap -/
theorem vx_lt {D : va_G} {cl : List vw_C} {ws : va_W} {H1 : Heap} (h : va_P D cl ws H1) {k : Nat} {q : Nat × va_E} (hk : ws[k]? = some q) : q.1 < H1.size := (h k q hk).lt
end VXS
/-! ===== END ===== -/
/-! ===== BEGIN methods with a table of their own: called by a name, returning or throwing ===== -/
section VXH
/-! vx_backW, vx_callVX, vx_callSX, vx_callVW, vx_runVW, vx_runVX, vx_runSX, vx_ofWH follow the same proofs as their sisters above (Free/Laws.lean, Shelf42/LK1.lean); vx_outP calls Shelf42/NT130.lean (outThrough). -/
section
variable {l : Launch} {R : Room} {p : Program} {e : Env} {below : List Frame} {s : State} {sargs : Array Value} {y : MethodName} {len W9 : Nat}
theorem vx_backW {ws : List Cond} {rm : Room} {Pc : Array Value → State → Prop} {Qc : Array Value → State → Outcome → State → Prop} {XC : String → State → State → Prop} {mc ms : Nat} {free : Addr → Prop} {bytes : ByteArray} {maxL : Nat} {ret : Option FieldType} {hh : List (Nat × Nat × Nat × Nat)}
    (hM : vx_Met l y ws rm Pc Qc XC mc ms free) (hblind : FrameBlind Pc) (hrc : rm.cells = mc) (hrs : rm.slots = ms)
    (hframes : rm.frames + 1 ≤ R.frames) (hlocals : W9 + (maxL + 11) + rm.locals ≤ R.locals)
    (hws : ∀ w ∈ ws, ∀ a' U, s.WarmedH U.vm → w.before a' U = true) (hcode : Cond.codeWith y bytes maxL ret hh ∈ ws) (hinit : ∀ a' U, s.WarmedH U.vm → (Cond.initialized y.cls).before a' U = true) :
    vx_Back l R p e below s sargs y len W9 (PreOf R mc ms Pc) (PostOf Qc mc ms free) (vx_Post XC mc ms free) := by
  intro m meth c A g ig mk a X hg hsize hdg hW hn hp
  have h1 : (headSpec ws rm).pre.before a A.U = true := atoms_intro fun w hw => hws w hw _ _ X.warmed
  have h2 : (Cond.codeWith y bytes maxL ret hh).before a A.U = true := hws _ hcode _ _ X.warmed
  have h3 : (Cond.initialized y.cls).before a A.U = true := hinit _ _ X.warmed
  have h4 : A.cells + (headSpec ws rm).room.cells ≤ R.cells := by rw [show (headSpec ws rm).room.cells = mc from hrc]; exact hp.1
  have h5 : A.slots + (headSpec ws rm).room.slots ≤ R.slots := by rw [show (headSpec ws rm).room.slots = ms from hrs]; exact hp.2.1
  have hPc : Pc a (A.U.calling g mk a) := hblind _ _ _ _ hp.2.2
  obtain ⟨U, Ls, c0, s0⟩ := A
  dsimp only [Pt.U, Pt.locs, Pt.cells, Pt.slots] at h1 h2 h3 h4 h5 X hn hPc ⊢
  obtain ⟨m9, methY, cY, hn9, hmY, hcY, -, hlY, -⟩ := Cond.codeWith_spec h2
  cases Option.some.inj (hn9.symm.trans hn)
  obtain ⟨kY, hkY, -⟩ := className_of_methodNamed hn
  have hinitY : kY.init = .initialized := Cond.initialized_spec (findClass_of_methodNamed hn) hkY h3
  have h : At U g.method c below := by rw [hg]; exact X.here
  have hlocals9 : W9 + (maxL + 11) + (headSpec ws rm).room.locals ≤ R.locals := hlocals
  have happ : (headSpec ws rm).appliesLoose y e.platform (U.calling g mk a) = true :=
    Spec.appliesLoose_calling (g := g) h hdg hn hkY hinitY
      (X.room_calling (g := g) (R' := (headSpec ws rm).room) hsize hmY hcY hframes (by rw [hlY]; omega) h4 h5) h1
  obtain ⟨mid, hmid⟩ := h.above
  have hfr : (U.setTop g).frames = (.java g :: mid) ++ below := by rw [State.frames_setTop' g h.top, hmid]; rfl
  obtain ⟨o, s₂, hsteps, -, hend, hq⟩ := Steps.callFree hM p X.admits X.cas X.clock (acts := []) hfr happ hPc trivial
  have hq' : vx_Q Qc XC mc ms free a (U.calling g mk a) o s₂ := hq
  rw [State.frames_setTop' g h.top] at hend
  obtain ⟨g₀, hg0⟩ := Option.isSome_iff_exists.mp h.top
  obtain ⟨r, hr⟩ := State.topJava?_eq_some.mp hg0
  have hr' : (({ U with heap := s₂.heap, slotsUsed := s₂.slotsUsed } : State).setVm s₂.vm).frames = .java g₀ :: r := hr
  rcases hq' with ⟨hqc, L, hfe, hL⟩ | ⟨q, rfl, E, ce, L, hx, hce, hcv, hcl, hW₂, hsm, hL⟩
  · obtain ⟨⟨v, rfl⟩, hW₂, e2, q2, q3, q4, q5, q6⟩ := id hfe
    have e3 : s₂ = ({ (U.calling g mk a).setFrames s₂.frames with heap := s₂.heap, slotsUsed := s₂.slotsUsed } : State).setVm s₂.vm := by
      have : s₂ = ({ s₂ with vm := (U.calling g mk a).vm } : State).setVm s₂.vm := rfl
      rw [e2] at this
      exact this
    obtain ⟨c₂, i₂, len₂, hc₂, hd₂, hf₂⟩ := hend
    have hW' : U.WarmedH s₂.vm := hW₂
    have hcc : c₂ = c := by
      have h1 : s₂.code? g.method = U.code? g.method := by
        rw [State.code?_eq, State.code?_eq, hW'.alike.method?]
      exact Option.some.inj (hc₂.symm.trans (h1.trans h.code))
    subst hcc
    have hlen : len₂ = len := by rw [hdg] at hd₂; cases hd₂; rfl
    subst hlen
    have hs₂ : s₂ = (({ U with heap := s₂.heap, slotsUsed := s₂.slotsUsed } : State).setVm s₂.vm).setTop { g with pc := g.pc + len₂, stack := v.toList ++ g.stack } := by
      refine e3.trans ?_
      rw [hf₂, State.calling_eq h.top, State.setFrames_setFrames, State.setTop_of_frames _ hr', hr]
      rfl
    have hsame : U.sameButNew ({ U with heap := s₂.heap, slotsUsed := s₂.slotsUsed } : State) L mc ms := by
      refine ⟨?_, q2, q3, q4, q5, q6⟩
      obtain ⟨t, ht, -⟩ := State.frames_cons hr
      show ({ U with heap := s₂.heap, slotsUsed := s₂.slotsUsed } : State) = { U.setFrames U.frames with heap := s₂.heap, slotsUsed := s₂.slotsUsed }
      rw [State.setFrames_self ht]
    subst hg
    refine Or.inl ⟨v, ⟨(({ U with heap := s₂.heap, slotsUsed := s₂.slotsUsed } : State).setVm s₂.vm), Ls ++ L, c0 + mc, s0 + ms⟩,
      ⟨X.admits, X.cas, X.clock, X.frames, X.room, X.hears, X.method, X.code, (X.here.setHeapUsed s₂.heap s₂.slotsUsed).setVm hW'.alike, X.tail, State.WarmedH.trans X.warmed hW', X.limits, X.bytes, X.same.trans (hsame.setVm s.vm)⟩,
      ⟨g, mk, s₂, L, rfl, rfl, hqc, rfl, hL, rfl, rfl⟩, ?_⟩
    show Steps p.tables e below _ ((({ U with heap := s₂.heap, slotsUsed := s₂.slotsUsed } : State).setVm s₂.vm).setTop { g with pc := g.pc + len₂, stack := v.toList ++ g.stack })
    rw [← hs₂]
    exact hsteps
  · obtain ⟨e2, q2, q3, q4, q5, q6⟩ := id hsm
    have e3 : s₂ = ({ (U.calling g mk a).setFrames s₂.frames with heap := s₂.heap, slotsUsed := s₂.slotsUsed } : State).setVm s₂.vm := by
      have : s₂ = ({ s₂ with vm := (U.calling g mk a).vm } : State).setVm s₂.vm := rfl
      rw [e2] at this
      exact this
    have hf₂ : s₂.frames = .throwing q :: .java g :: U.frames.tail := hend
    have hW' : U.WarmedH s₂.vm := hW₂
    have hs₂ : s₂ = ((({ U with heap := s₂.heap, slotsUsed := s₂.slotsUsed } : State).setVm s₂.vm).setTop g).pushFrame (.throwing q) := by
      refine e3.trans ?_
      rw [hf₂, State.calling_eq h.top, State.setFrames_setFrames, State.pushFrame, State.frames_setTop _ hr', State.setTop_of_frames _ hr', State.setFrames_setFrames, hr]
      rfl
    have hsame : U.sameButNew ({ U with heap := s₂.heap, slotsUsed := s₂.slotsUsed } : State) L mc ms := by
      refine ⟨?_, q2, q3, q4, q5, q6⟩
      obtain ⟨t, ht, -⟩ := State.frames_cons hr
      show ({ U with heap := s₂.heap, slotsUsed := s₂.slotsUsed } : State) = { U.setFrames U.frames with heap := s₂.heap, slotsUsed := s₂.slotsUsed }
      rw [State.setFrames_self ht]
    subst hg
    refine Or.inr ⟨q, ⟨(({ U with heap := s₂.heap, slotsUsed := s₂.slotsUsed } : State).setVm s₂.vm), Ls ++ L, c0 + mc, s0 + ms⟩,
      ⟨X.admits, X.cas, X.clock, X.frames, X.room, X.hears, X.method, X.code, (X.here.setHeapUsed s₂.heap s₂.slotsUsed).setVm hW'.alike, X.tail, State.WarmedH.trans X.warmed hW', X.limits, X.bytes, X.same.trans (hsame.setVm s.vm)⟩,
      ⟨g, mk, s₂, L, E, ce, rfl, rfl, hx, hce, hcv, hcl, rfl, hL, rfl, rfl⟩, ?_⟩
    show Steps p.tables e below _ (((({ U with heap := s₂.heap, slotsUsed := s₂.slotsUsed } : State).setVm s₂.vm).setTop g).pushFrame (.throwing q))
    rw [← hs₂]
    exact hsteps
end
variable {p : Program} {l : Launch} {e : Env} {R : Room} {s : State} {m : MethodId} {args : Array Value} {below : List Frame} {meth : Method} {c : Code} {T : State} {H : Heap} {locs : List Loc} {cells slots : Nat}
theorem vx_callVX (X : Stand p l e R s m args below meth c T locs cells slots) (hexec : p.tables.exec = Jvm.exec) {own C : String} {index : Nat} {y : MethodName} {bytes : ByteArray} {maxL : Nat} {ret : Option FieldType} {hh : List (Nat × Nat × Nat × Nat)}
    (hown : s.vm.findClass own = some m.cls) (hlink : (Cond.methodLink own index y).before args s = true) (hinst : (Cond.instanceMethod y).before args s = true) (hsel : (Cond.selects C y y).before args s = true)
    (hcode : (Cond.codeWith y bytes maxL ret hh).before args s = true) (hy : y.cls ≠ "java/lang/invoke/MethodHandle" ∧ y.cls ≠ "java/lang/invoke/VarHandle")
    {W9 : Nat} {Pre : Pt → Array Value → Prop} {Post : Pt → Array Value → Option Value → Pt → Prop} {PostX : Pt → Array Value → Addr → Pt → Prop} (hK : vx_Back l R p e below s args y 3 W9 Pre Post PostX)
    {b : Addr} {cellB : Cell} (hcell : T.heap[b]? = some cellB) (hobj : cellB.vm.isStatics = false) (hcls : s.vm.findClass C = some cellB.cls)
    {g : JFrame} (hg : g.method = m) (hsize : g.locals.size = c.maxLocals) {argsL rest : List Value} (hlen : ∀ sig, parseMethodDescriptor y.desc = some sig → argsL.length = sig.parameters.length)
    (hstack : g.stack = argsL.reverse ++ .ref b :: rest) (hW : 2 * g.monitorRoom + (rest.map fun v => v.category).sum ≤ W9) (hdg : decode c.code g.pc = .ok (.invokevirtual index, 3))
    (hpre : ∀ vm₁, s.WarmedH vm₁ → Pre ⟨T.setVm vm₁, locs, cells, slots⟩ (Value.ref b :: argsL).toArray) :
    (∃ (v : Option Value) (vm₁ : Vm) (B : Pt), s.WarmedH vm₁ ∧ Stand p l e R s m args below meth c B.U B.locs B.cells B.slots ∧ Post ⟨T.setVm vm₁, locs, cells, slots⟩ (Value.ref b :: argsL).toArray v B ∧
      ∀ target, Steps p.tables e below (B.U.setTop { g with pc := g.pc + 3, stack := v.toList ++ rest }) target → Steps p.tables e below (T.setTop g) target) ∨
    (∃ (q : Addr) (vm₁ : Vm) (B : Pt), s.WarmedH vm₁ ∧ Stand p l e R s m args below meth c B.U B.locs B.cells B.slots ∧ PostX ⟨T.setVm vm₁, locs, cells, slots⟩ (Value.ref b :: argsL).toArray q B ∧
      Steps p.tables e below (T.setTop g) ((B.U.setTop { g with stack := rest }).pushFrame (.throwing q))) := by
  obtain ⟨mk, methM, hnamed, hmethM, hstM, habM⟩ := Cond.instanceMethod_spec hinst
  obtain ⟨m8, methM', cM, hn8, hmethM', -, -, -, -, -, -, hsigM⟩ := Cond.codeWith_spec hcode
  cases Option.some.inj (hn8.symm.trans hnamed)
  cases hmethM.symm.trans hmethM'
  obtain ⟨c2, r2, m2, q1, q2, q3, q4, kP, hkP, hkPi⟩ := Cond.selects_spec hsel
  cases hcls.symm.trans q1
  cases (State.methodFound?_of_named hnamed hy).symm.trans q2
  cases hnamed.symm.trans q3
  have hselP : selectMethod e.platform s.vm cellB.cls mk = .method mk := by rw [Launch.admits_selectMethod X.admits]; exact q4
  obtain ⟨vm₁, X₁, hstep₁⟩ := X.invokevirtual hexec hown hlink hnamed hmethM hstM hkP hkPi hy (a := b) (cell := cellB) hcell
    (fun z h => by rw [h] at hobj; cases hobj) hselP hmethM habM hkP hkPi (g := g) hg (argsL := argsL) (rest := rest) (hlen _ hsigM) hstack hdg
  rcases hK m meth c ⟨T.setVm vm₁, locs, cells, slots⟩ { g with stack := rest } (.invokevirtual index) mk (Value.ref b :: argsL).toArray X₁ hg hsize hdg hW (X₁.named hnamed) (hpre vm₁ X₁.warmed) with ⟨v, B, X', hpost, hsteps⟩ | ⟨q, B, X', hpost, hsteps⟩
  · exact Or.inl ⟨v, vm₁, B, X₁.warmed, X', hpost, fun target h => hstep₁ _ fun acts => by rw [doInvoke_state]; exact hsteps.trans h⟩
  · exact Or.inr ⟨q, vm₁, B, X₁.warmed, X', hpost, hstep₁ _ fun acts => by rw [doInvoke_state]; exact hsteps⟩
theorem vx_callSX (X : Stand p l e R s m args below meth c T locs cells slots) (hexec : p.tables.exec = Jvm.exec) {own : String} {index : Nat} {y : MethodName} {bytes : ByteArray} {maxL : Nat} {ret : Option FieldType} {hh : List (Nat × Nat × Nat × Nat)}
    (hown : s.vm.findClass own = some m.cls) (hlink : (Cond.methodLink own index y).before args s = true) (hstat : (Cond.static y).before args s = true) (hinit : (Cond.initialized y.cls).before args s = true)
    (hcode : (Cond.codeWith y bytes maxL ret hh).before args s = true) (hy : y.cls ≠ "java/lang/invoke/MethodHandle" ∧ y.cls ≠ "java/lang/invoke/VarHandle")
    {W9 : Nat} {Pre : Pt → Array Value → Prop} {Post : Pt → Array Value → Option Value → Pt → Prop} {PostX : Pt → Array Value → Addr → Pt → Prop} (hK : vx_Back l R p e below s args y 3 W9 Pre Post PostX)
    {g : JFrame} (hg : g.method = m) (hsize : g.locals.size = c.maxLocals) {argsL rest : List Value} (hlen : ∀ sig, parseMethodDescriptor y.desc = some sig → argsL.length = sig.parameters.length)
    (hstack : g.stack = argsL.reverse ++ rest) (hW : 2 * g.monitorRoom + (rest.map fun v => v.category).sum ≤ W9) (hdg : decode c.code g.pc = .ok (.invokestatic index, 3))
    (hpre : ∀ vm₁, s.WarmedH vm₁ → Pre ⟨T.setVm vm₁, locs, cells, slots⟩ argsL.toArray) :
    (∃ (v : Option Value) (vm₁ : Vm) (B : Pt), s.WarmedH vm₁ ∧ Stand p l e R s m args below meth c B.U B.locs B.cells B.slots ∧ Post ⟨T.setVm vm₁, locs, cells, slots⟩ argsL.toArray v B ∧
      ∀ target, Steps p.tables e below (B.U.setTop { g with pc := g.pc + 3, stack := v.toList ++ rest }) target → Steps p.tables e below (T.setTop g) target) ∨
    (∃ (q : Addr) (vm₁ : Vm) (B : Pt), s.WarmedH vm₁ ∧ Stand p l e R s m args below meth c B.U B.locs B.cells B.slots ∧ PostX ⟨T.setVm vm₁, locs, cells, slots⟩ argsL.toArray q B ∧
      Steps p.tables e below (T.setTop g) ((B.U.setTop { g with stack := rest }).pushFrame (.throwing q))) := by
  obtain ⟨mk, methM, cM, hnamed, hmethM, -, -, -, -, -, -, hsigM⟩ := Cond.codeWith_spec hcode
  have hstatic : methM.isStatic = true := Cond.static_spec hnamed hmethM hstat
  obtain ⟨kP, hkP, -⟩ := className_of_methodNamed hnamed
  have hinitP : kP.init = .initialized := Cond.initialized_spec (findClass_of_methodNamed hnamed) hkP hinit
  obtain ⟨vm₁, X₁, hstep₁⟩ := X.invokestatic hexec hown hlink hnamed hmethM hstatic hkP hinitP hy (g := g) hg (argsL := argsL) (rest := rest) (hlen _ hsigM) hstack hdg
  rcases hK m meth c ⟨T.setVm vm₁, locs, cells, slots⟩ { g with stack := rest } (.invokestatic index) mk argsL.toArray X₁ hg hsize hdg hW (X₁.named hnamed) (hpre vm₁ X₁.warmed) with ⟨v, B, X', hpost, hsteps⟩ | ⟨q, B, X', hpost, hsteps⟩
  · exact Or.inl ⟨v, vm₁, B, X₁.warmed, X', hpost, fun target h => hstep₁ _ fun acts => by rw [doInvoke_state]; exact hsteps.trans h⟩
  · exact Or.inr ⟨q, vm₁, B, X₁.warmed, X', hpost, hstep₁ _ fun acts => by rw [doInvoke_state]; exact hsteps⟩
theorem vx_callVW (X : Stand p l e R s m args below meth c T locs cells slots) (hexec : p.tables.exec = Jvm.exec) {own C : String} {index : Nat} {y : MethodName} {bytes : ByteArray} {maxL : Nat} {ret : Option FieldType} {hh : List (Nat × Nat × Nat × Nat)}
    (hown : s.vm.findClass own = some m.cls) (hlink : (Cond.methodLink own index y).before args s = true) (hinst : (Cond.instanceMethod y).before args s = true) (hsel : (Cond.selects C y y).before args s = true)
    (hcode : (Cond.codeWith y bytes maxL ret hh).before args s = true) (hy : y.cls ≠ "java/lang/invoke/MethodHandle" ∧ y.cls ≠ "java/lang/invoke/VarHandle")
    {W9 : Nat} {Pre : Pt → Array Value → Prop} {Post : Pt → Array Value → Option Value → Pt → Prop} (hK : Back l R p e below s args y 3 W9 Pre Post)
    {b : Addr} {cellB : Cell} (hcell : T.heap[b]? = some cellB) (hobj : cellB.vm.isStatics = false) (hcls : s.vm.findClass C = some cellB.cls)
    {g : JFrame} (hg : g.method = m) (hsize : g.locals.size = c.maxLocals) {argsL rest : List Value} (hlen : ∀ sig, parseMethodDescriptor y.desc = some sig → argsL.length = sig.parameters.length)
    (hstack : g.stack = argsL.reverse ++ .ref b :: rest) (hW : 2 * g.monitorRoom + (rest.map fun v => v.category).sum ≤ W9) (hdg : decode c.code g.pc = .ok (.invokevirtual index, 3))
    (hpre : ∀ vm₁, s.WarmedH vm₁ → Pre ⟨T.setVm vm₁, locs, cells, slots⟩ (Value.ref b :: argsL).toArray) :
    ∃ (v : Option Value) (vm₁ : Vm) (B : Pt), s.WarmedH vm₁ ∧ Stand p l e R s m args below meth c B.U B.locs B.cells B.slots ∧ Post ⟨T.setVm vm₁, locs, cells, slots⟩ (Value.ref b :: argsL).toArray v B ∧
      ∀ target, Steps p.tables e below (B.U.setTop { g with pc := g.pc + 3, stack := v.toList ++ rest }) target → Steps p.tables e below (T.setTop g) target := by
  obtain ⟨mk, methM, hnamed, hmethM, hstM, habM⟩ := Cond.instanceMethod_spec hinst
  obtain ⟨m8, methM', cM, hn8, hmethM', -, -, -, -, -, -, hsigM⟩ := Cond.codeWith_spec hcode
  cases Option.some.inj (hn8.symm.trans hnamed)
  cases hmethM.symm.trans hmethM'
  obtain ⟨c2, r2, m2, q1, q2, q3, q4, kP, hkP, hkPi⟩ := Cond.selects_spec hsel
  cases hcls.symm.trans q1
  cases (State.methodFound?_of_named hnamed hy).symm.trans q2
  cases hnamed.symm.trans q3
  have hselP : selectMethod e.platform s.vm cellB.cls mk = .method mk := by rw [Launch.admits_selectMethod X.admits]; exact q4
  obtain ⟨vm₁, X₁, hstep₁⟩ := X.invokevirtual hexec hown hlink hnamed hmethM hstM hkP hkPi hy (a := b) (cell := cellB) hcell
    (fun z h => by rw [h] at hobj; cases hobj) hselP hmethM habM hkP hkPi (g := g) hg (argsL := argsL) (rest := rest) (hlen _ hsigM) hstack hdg
  obtain ⟨v, B, X', hpost, hsteps⟩ := hK m meth c ⟨T.setVm vm₁, locs, cells, slots⟩ { g with stack := rest } (.invokevirtual index) mk (Value.ref b :: argsL).toArray X₁ hg hsize hdg hW (X₁.named hnamed) (hpre vm₁ X₁.warmed)
  exact ⟨v, vm₁, B, X₁.warmed, X', hpost, fun target h => hstep₁ _ fun acts => by rw [doInvoke_state]; exact hsteps.trans h⟩
abbrev vx_CVW (R : Room) (s : State) (args : Array Value) (own C : String) (index : Nat) (y : MethodName) (bytes : ByteArray) (maxL : Nat) (ret : Option FieldType) (hh : List (Nat × Nat × Nat × Nat)) (ws : List Cond) (rm : Room) (mc ms n : Nat) : Prop :=
  (rm.cells = mc ∧ rm.slots = ms ∧ rm.frames + 1 ≤ R.frames ∧ 8 + (maxL + 11) + rm.locals ≤ R.locals ∧ (∀ w ∈ ws, ∀ (a' : Array Value) (U : State), s.WarmedH U.vm → w.before a' U = true) ∧ Cond.codeWith y bytes maxL ret hh ∈ ws) ∧
  (Cond.codeWith y bytes maxL ret hh).before args s = true ∧ (Cond.initialized y.cls).before args s = true ∧ (y.cls ≠ "java/lang/invoke/MethodHandle" ∧ y.cls ≠ "java/lang/invoke/VarHandle") ∧
  (∀ sig, parseMethodDescriptor y.desc = some sig → n = sig.parameters.length) ∧ (Cond.methodLink own index y).before args s = true ∧ (Cond.instanceMethod y).before args s = true ∧ (Cond.selects C y y).before args s = true
theorem vx_cwVW {own C : String} {index maxL mc ms : Nat} {y : MethodName} {bytes : ByteArray} {ret : Option FieldType} {hh : List (Nat × Nat × Nat × Nat)} {Ts ws ws' : List Cond} {rm : Room} (n : Nat) (ht : ∀ w ∈ Ts, w.before args s = true) (hT : GoodIn Ts (wsV own index C y ws)) (hw : ws = Cond.codeWith y bytes maxL ret hh :: ws') (hrc : rm.cells = mc) (hrs : rm.slots = ms)
    (hd : y.cls = C ∧ y.cls ≠ "java/lang/invoke/MethodHandle" ∧ y.cls ≠ "java/lang/invoke/VarHandle" ∧ (parseMethodDescriptor y.desc).map (fun d => d.parameters.length) = some n) (hR : rm.frames + 1 ≤ R.frames ∧ 8 + (maxL + 11) + rm.locals ≤ R.locals) :
    vx_CVW R s args own C index y bytes maxL ret hh ws rm mc ms n := by
  obtain ⟨hC, hd⟩ := hd
  subst hC
  have ok : ∀ w ∈ wsV own index y.cls y ws, w.before args s = true := fun w h => ht w (hT w h).1
  have hG : GoodIn Ts ws := fun w h => hT w (by unfold wsV; exact List.mem_append_right _ h)
  have hc : Cond.codeWith y bytes maxL ret hh ∈ ws := by rw [hw]; exact List.mem_cons_self
  refine ⟨⟨hrc, hrs, hR.1, hR.2, pay_in ht hG, hc⟩, ht _ (hG _ hc).1, ok _ (by simp [wsV]), ⟨hd.1, hd.2.1⟩, fun sig h => ?_, ok _ (by simp [wsV]), ok _ (by simp [wsV]), ok _ (by simp [wsV])⟩
  have h2 := hd.2.2
  rw [h] at h2
  exact (Option.some.inj h2).symm
theorem vx_runVW {y : MethodName} {bytes cc : ByteArray} {maxL nL mc ms n index : Nat} {ret : Option FieldType} {hh : List (Nat × Nat × Nat × Nat)} {ws : List Cond} {rm : Room} {Pc : Array Value → State → Prop} {Qc : Array Value → State → Outcome → State → Prop} {free : Addr → Prop} {Ts : List Cond} {own C : String} {b : Addr} {As rest : List Value} {g : JFrame}
    (S : CallFix p m c cc nL s args Ts own) (hM : Met l y ws rm Pc Qc mc ms free) (cw : vx_CVW R s args own C index y bytes maxL ret hh ws rm mc ms n) (hp : PreV s H C b Pc As)
    (hg : g.method = m) (hn : As.length = n) (hsize : g.locals.size = nL) (hstack : g.stack = As.reverse ++ .ref b :: rest) (hW : 2 * g.monitorRoom + (rest.map fun v => v.category).sum ≤ 8) (hdg : decode cc g.pc = .ok (.invokevirtual index, 3)) (hf : cells + mc ≤ R.cells ∧ slots + ms ≤ R.slots) :
    va_Run p l e R s m args below meth c H locs cells slots mc ms g rest (Qc (Value.ref b :: As).toArray) free := by
  obtain ⟨⟨hrc, hrs, hfr, hlo, hws, hcw⟩, hcode, hini, hy, hlen, hl, hin, hse⟩ := cw
  have hK : Back l R p e below s args y 3 8 (PreOf R mc ms Pc) (PostOf Qc mc ms free) := va_backW (hh := hh) (bytes := bytes) (maxL := maxL) (ret := ret) hM hp.1 hrc hrs hfr hlo hws hcw (fun a' U hW => word_at hW (Or.inl (by first | rfl | simp [Cond.onTables, Cond.keeps, Cond.steady])) hini)
  obtain ⟨hx, hb, hml, ho, -⟩ := S
  obtain ⟨-, ⟨cellB, hcB, hoB, hclB⟩, hPc⟩ := hp
  intro T hT X
  obtain ⟨v, vm₁, ⟨U', l2, c2, s2⟩, hW₁, X', ⟨g', mk, t, L, e1, e2, hq, h1, hL, h2, h3⟩, st⟩ := vx_callVW X hx (C := C) (hh := hh) (bytes := bytes) (maxL := maxL) (ret := ret) ho hl hin hse hcode hy hK (by rw [hT]; exact hcB) hoB hclB hg (hsize.trans hml.symm) (argsL := As) (rest := rest) (fun sig h => hn.trans (hlen sig h)) hstack hW (by rw [hb]; exact hdg)
    (fun vm₁ hW₁ => ⟨hf.1, hf.2, hPc (T.setVm vm₁) hT hW₁⟩)
  dsimp only [Pt.U, Pt.locs, Pt.cells, Pt.slots] at X' e1 e2 h1 h2 h3 st
  subst h1; subst h2; subst h3
  exact ⟨v, (T.setVm vm₁).calling g' mk (Value.ref b :: As).toArray, t, U', L, hT, X', hL, e1, e2, hq, st⟩
section
variable {y : MethodName} {bytes cc : ByteArray} {maxL nL mc ms n index : Nat} {ret : Option FieldType} {ws : List Cond} {rm : Room} {Pc : Array Value → State → Prop} {Qc : Array Value → State → Outcome → State → Prop} {XC : String → State → State → Prop} {free : Addr → Prop} {Ts : List Cond} {own C : String} {b : Addr} {As rest : List Value} {g : JFrame}
theorem vx_runVX {hh : List (Nat × Nat × Nat × Nat)} (S : CallFix p m c cc nL s args Ts own) (hM : vx_Met l y ws rm Pc Qc XC mc ms free) (cw : vx_CVW R s args own C index y bytes maxL ret hh ws rm mc ms n) (hp : PreV s H C b Pc As)
    (hg : g.method = m) (hn : As.length = n) (hsize : g.locals.size = nL) (hstack : g.stack = As.reverse ++ .ref b :: rest) (hW : 2 * g.monitorRoom + (rest.map fun v => v.category).sum ≤ 8) (hdg : decode cc g.pc = .ok (.invokevirtual index, 3)) (hf : cells + mc ≤ R.cells ∧ slots + ms ≤ R.slots) :
    vx_Run p l e R s m args below meth c H locs cells slots mc ms g rest (Qc (Value.ref b :: As).toArray) XC free := by
  obtain ⟨⟨hrc, hrs, hfr, hlo, hws, hcw⟩, hcode, hini, hy, hlen, hl, hin, hse⟩ := cw
  have hK : vx_Back l R p e below s args y 3 8 (PreOf R mc ms Pc) (PostOf Qc mc ms free) (vx_Post XC mc ms free) := vx_backW (hh := hh) (bytes := bytes) (maxL := maxL) (ret := ret) hM hp.1 hrc hrs hfr hlo hws hcw (fun a' U hW => word_at hW (Or.inl (by first | rfl | simp [Cond.onTables, Cond.keeps, Cond.steady])) hini)
  obtain ⟨hx, hb, hml, ho, -⟩ := S
  obtain ⟨-, ⟨cellB, hcB, hoB, hclB⟩, hPc⟩ := hp
  intro T hT X
  rcases vx_callVX X hx (C := C) (hh := hh) (bytes := bytes) (maxL := maxL) (ret := ret) ho hl hin hse hcode hy hK (by rw [hT]; exact hcB) hoB hclB hg (hsize.trans hml.symm) (argsL := As) (rest := rest) (fun sig h => hn.trans (hlen sig h)) hstack hW (by rw [hb]; exact hdg)
    (fun vm₁ hW₁ => ⟨hf.1, hf.2, hPc (T.setVm vm₁) hT hW₁⟩) with ⟨v, vm₁, ⟨U', l2, c2, s2⟩, hW₁, X', ⟨g', mk, t, L, e1, e2, hq, h1, hL, h2, h3⟩, st⟩ | ⟨q, vm₁, ⟨U', l2, c2, s2⟩, hW₁, X', ⟨g', mk, t, L, E, ce, e1, e2, hq, hce, hcv, hcl, h1, hL, h2, h3⟩, st⟩
  · dsimp only [Pt.U, Pt.locs, Pt.cells, Pt.slots] at X' e1 e2 h1 h2 h3 st
    subst h1; subst h2; subst h3
    exact Or.inl ⟨v, (T.setVm vm₁).calling g' mk (Value.ref b :: As).toArray, t, U', L, hT, X', hL, e1, e2, hq, st⟩
  · dsimp only [Pt.U, Pt.locs, Pt.cells, Pt.slots] at X' e1 e2 h1 h2 h3 st hcl
    subst h1; subst h2; subst h3
    exact Or.inr ⟨q, (T.setVm vm₁).calling g' mk (Value.ref b :: As).toArray, t, U', L, E, ce, hT, X', hL, e1, e2, hq, hce, hcv, vx_cls hW₁ hcl, st⟩
theorem vx_runSX {hh : List (Nat × Nat × Nat × Nat)} (S : CallFix p m c cc nL s args Ts own) (hM : vx_Met l y ws rm Pc Qc XC mc ms free) (cw : vx_CSW R s args own index y bytes maxL ret hh ws rm mc ms n) (hp : PreS s H Pc As)
    (hg : g.method = m) (hn : As.length = n) (hsize : g.locals.size = nL) (hstack : g.stack = As.reverse ++ rest) (hW : 2 * g.monitorRoom + (rest.map fun v => v.category).sum ≤ 8) (hdg : decode cc g.pc = .ok (.invokestatic index, 3)) (hf : cells + mc ≤ R.cells ∧ slots + ms ≤ R.slots) :
    vx_Run p l e R s m args below meth c H locs cells slots mc ms g rest (Qc As.toArray) XC free := by
  obtain ⟨⟨hrc, hrs, hfr, hlo, hws, hcw⟩, hcode, hini, hy, hlen, hl, hstt⟩ := cw
  have hK : vx_Back l R p e below s args y 3 8 (PreOf R mc ms Pc) (PostOf Qc mc ms free) (vx_Post XC mc ms free) := vx_backW (hh := hh) (bytes := bytes) (maxL := maxL) (ret := ret) hM hp.1 hrc hrs hfr hlo hws hcw (fun a' U hW => word_at hW (Or.inl (by first | rfl | simp [Cond.onTables, Cond.keeps, Cond.steady])) hini)
  obtain ⟨hx, hb, hml, ho, -⟩ := S
  intro T hT X
  rcases vx_callSX X hx (hh := hh) (bytes := bytes) (maxL := maxL) (ret := ret) ho hl hstt hini hcode hy hK hg (hsize.trans hml.symm) (argsL := As) (rest := rest) (fun sig h => hn.trans (hlen sig h)) hstack hW (by rw [hb]; exact hdg)
    (fun vm₁ hW₁ => ⟨hf.1, hf.2, hp.2 (T.setVm vm₁) hT hW₁⟩) with ⟨v, vm₁, ⟨U', l2, c2, s2⟩, hW₁, X', ⟨g', mk, t, L, e1, e2, hq, h1, hL, h2, h3⟩, st⟩ | ⟨q, vm₁, ⟨U', l2, c2, s2⟩, hW₁, X', ⟨g', mk, t, L, E, ce, e1, e2, hq, hce, hcv, hcl, h1, hL, h2, h3⟩, st⟩
  · dsimp only [Pt.U, Pt.locs, Pt.cells, Pt.slots] at X' e1 e2 h1 h2 h3 st
    subst h1; subst h2; subst h3
    exact Or.inl ⟨v, (T.setVm vm₁).calling g' mk As.toArray, t, U', L, hT, X', hL, e1, e2, hq, st⟩
  · dsimp only [Pt.U, Pt.locs, Pt.cells, Pt.slots] at X' e1 e2 h1 h2 h3 st hcl
    subst h1; subst h2; subst h3
    exact Or.inr ⟨q, (T.setVm vm₁).calling g' mk As.toArray, t, U', L, E, ce, hT, X', hL, e1, e2, hq, hce, hcv, vx_cls hW₁ hcl, st⟩
end
end VXH
theorem vx_ofWH {l : Launch} {y : MethodName} {ws ws' : List Cond} {rm : Room} {Pc : Array Value → State → Prop} {Qc : Array Value → State → Outcome → State → Prop} {XC : String → State → State → Prop} {mc ms : Nat} {free : Addr → Prop} {cc : ByteArray} {maxL : Nat} {ret : Option FieldType} {hh : List (Nat × Nat × Nat × Nat)}
    (hy : plainName y.cls = true) (hw : ws = Cond.codeWith y cc maxL ret hh :: ws')
    (body : ∀ p e s m args below meth c s₁, BodyLoose p l y (headSpec ws rm) cc maxL ret e s m args below meth c s₁ → c.maxLocals = maxL → Pc args s →
      W p l e (headSpec ws rm).room s m args below meth c s.heap [] 0 0 (vx_MQ below Qc XC args s mc ms free) (entryFrame m args maxL)) : vx_Met l y ws rm Pc Qc XC mc ms free := by
  refine MetFree.of_bodyS (code := cc) (maxLocals := maxL) (ret := ret) hy ?_ ?_
  · intro args s m h hn
    obtain ⟨m9, meth, c, hn9, h1, h2, h3, h4, -, h5, h6, -⟩ := Cond.codeWith_spec (atoms_spec (ws := ws) h _ (by rw [hw]; exact List.mem_cons_self))
    cases hn.symm.trans hn9
    exact ⟨meth, c, h1, h2, h3, h4, h5, h6⟩
  · intro p e s m args below meth c s₁ B hml hP _
    have hh0 : s₁.heap = s.heap := by rw [B.state]; rfl
    obtain ⟨t, a1, o, b1, b2, b3⟩ := body p e s m args below meth c s₁ B hml hP s₁ hh0 (Stand.of_body B)
    exact ⟨t, o, a1, b1, b2, b3⟩
/-! ===== END ===== -/
end
section
/-! ===== BEGIN printed: names, fields, word lists, decode rows ===== -/
def RX0 : String := "KindlingTree$Board"
def TX0 : u_T := fun k => match k with
  | 0 => ("KindlingTree$Board", "cells", "[I", true)
  | 1 => ("KindlingTree$Board", "columns", "I", false)
  | 2 => ("KindlingTree$Board", "rows", "I", false)
  | _ => ("KindlingTree$Board", "side", "I", false)
def tyX0 : Nat → FieldType := fun k => match k with
  | 0 => .array .int
  | 1 => .int
  | 2 => .int
  | _ => .int
abbrev wsX00 : List Cond := u_ws RX0 TX0 4
theorem nmX0 : ∀ a, a < 4 → ∀ b, b < 4 → a ≠ b → (TX0 a).2.1 ≠ (TX0 b).2.1 := by decide +kernel
theorem tyX0_ok : ∀ k, k < 4 → parseFieldDescriptor (TX0 k).2.2.1 = some (tyX0 k) := by decide +kernel
abbrev cX0_init : ByteArray := prog_2_method_1_code
def yX0_init : MethodName := ⟨RX0, "<init>", "()V"⟩
abbrev cX0_lay : ByteArray := prog_2_method_2_code
def yX0_lay : MethodName := ⟨RX0, "lay", "(III)V"⟩
abbrev cX0_layOn : ByteArray := prog_2_method_3_code
def yX0_layOn : MethodName := ⟨RX0, "layOn", "(II)V"⟩
abbrev cX0_turnTo : ByteArray := prog_2_method_4_code
def yX0_turnTo : MethodName := ⟨RX0, "turnTo", "(I)V"⟩
abbrev cX0_width : ByteArray := prog_2_method_5_code
def yX0_width : MethodName := ⟨RX0, "width", "()I"⟩
abbrev cX0_height : ByteArray := prog_2_method_6_code
def yX0_height : MethodName := ⟨RX0, "height", "()I"⟩
abbrev cX0_mover : ByteArray := prog_2_method_7_code
def yX0_mover : MethodName := ⟨RX0, "mover", "()I"⟩
abbrev cX0_countFields : ByteArray := prog_2_method_8_code
def yX0_countFields : MethodName := ⟨RX0, "countFields", "()I"⟩
abbrev cX0_isField : ByteArray := prog_2_method_9_code
def yX0_isField : MethodName := ⟨RX0, "isField", "(I)Z"⟩
abbrev cX0_pawnAt : ByteArray := prog_2_method_10_code
def yX0_pawnAt : MethodName := ⟨RX0, "pawnAt", "(I)I"⟩
abbrev cX0_countPawns : ByteArray := prog_2_method_11_code
def yX0_countPawns : MethodName := ⟨RX0, "countPawns", "(I)I"⟩
abbrev cX0_keyNumber : ByteArray := prog_2_method_12_code
def yX0_keyNumber : MethodName := ⟨RX0, "keyNumber", "()J"⟩
abbrev cX0_advance : ByteArray := prog_2_method_13_code
def yX0_advance : MethodName := ⟨RX0, "advance", "(I)I"⟩
abbrev cX0_retreat : ByteArray := prog_2_method_14_code
def yX0_retreat : MethodName := ⟨RX0, "retreat", "(II)V"⟩
abbrev cX0_listMoves : ByteArray := prog_2_method_15_code
def yX0_listMoves : MethodName := ⟨RX0, "listMoves", "(LKindlingTree$MoveList;)V"⟩
abbrev cX0_isOtherThrough : ByteArray := prog_2_method_16_code
def yX0_isOtherThrough : MethodName := ⟨RX0, "isOtherThrough", "()Z"⟩
abbrev cX0_listSteps : ByteArray := prog_2_method_17_code
def yX0_listSteps : MethodName := ⟨RX0, "listSteps", "(LKindlingTree$MoveList;II)V"⟩
abbrev cX0_canStep : ByteArray := prog_2_method_18_code
def yX0_canStep : MethodName := ⟨RX0, "canStep", "(III)Z"⟩
def RX1 : String := "KindlingTree$Book"
def TX1 : u_T := fun k => match k with
  | 0 => ("KindlingTree$Book", "keys", "[J", true)
  | 1 => ("KindlingTree$Book", "moves", "[I", true)
  | 2 => ("KindlingTree$Book", "weights", "[I", true)
  | _ => ("KindlingTree$Book", "count", "I", false)
def tyX1 : Nat → FieldType := fun k => match k with
  | 0 => .array .long
  | 1 => .array .int
  | 2 => .array .int
  | _ => .int
abbrev wsX10 : List Cond := u_ws RX1 TX1 4
theorem nmX1 : ∀ a, a < 4 → ∀ b, b < 4 → a ≠ b → (TX1 a).2.1 ≠ (TX1 b).2.1 := by decide +kernel
theorem tyX1_ok : ∀ k, k < 4 → parseFieldDescriptor (TX1 k).2.2.1 = some (tyX1 k) := by decide +kernel
abbrev cX1_init : ByteArray := prog_3_method_1_code
def yX1_init : MethodName := ⟨RX1, "<init>", "()V"⟩
abbrev cX1_length : ByteArray := prog_3_method_2_code
def yX1_length : MethodName := ⟨RX1, "length", "()I"⟩
abbrev cX1_isFull : ByteArray := prog_3_method_3_code
def yX1_isFull : MethodName := ⟨RX1, "isFull", "()Z"⟩
abbrev cX1_find : ByteArray := prog_3_method_4_code
def yX1_find : MethodName := ⟨RX1, "find", "(JI)I"⟩
abbrev cX1_write : ByteArray := prog_3_method_5_code
def yX1_write : MethodName := ⟨RX1, "write", "(JII)V"⟩
abbrev cX1_choose : ByteArray := prog_3_method_6_code
def yX1_choose : MethodName := ⟨RX1, "choose", "(JLKindlingTree$MoveList;)I"⟩
abbrev cX1_weightAt : ByteArray := prog_3_method_7_code
def yX1_weightAt : MethodName := ⟨RX1, "weightAt", "(I)I"⟩
def RX2 : String := "KindlingTree$Judge"
def TX2 : u_T := fun k => match k with
  | 0 => ("KindlingTree$Judge", "perPawn", "I", false)
  | 1 => ("KindlingTree$Judge", "perRow", "I", false)
  | 2 => ("KindlingTree$Judge", "perStep", "I", false)
  | _ => ("KindlingTree$Judge", "isQuiet", "Z", false)
def tyX2 : Nat → FieldType := fun k => match k with
  | 0 => .int
  | 1 => .int
  | 2 => .int
  | _ => .boolean
abbrev wsX20 : List Cond := u_ws RX2 TX2 4
theorem nmX2 : ∀ a, a < 4 → ∀ b, b < 4 → a ≠ b → (TX2 a).2.1 ≠ (TX2 b).2.1 := by decide +kernel
theorem tyX2_ok : ∀ k, k < 4 → parseFieldDescriptor (TX2 k).2.2.1 = some (tyX2 k) := by decide +kernel
abbrev cX2_init : ByteArray := prog_4_method_1_code
def yX2_init : MethodName := ⟨RX2, "<init>", "()V"⟩
abbrev cX2_setWeights : ByteArray := prog_4_method_2_code
def yX2_setWeights : MethodName := ⟨RX2, "setWeights", "(III)V"⟩
abbrev cX2_isQuietOn : ByteArray := prog_4_method_3_code
def yX2_isQuietOn : MethodName := ⟨RX2, "isQuietOn", "()Z"⟩
abbrev cX2_switchQuiet : ByteArray := prog_4_method_4_code
def yX2_switchQuiet : MethodName := ⟨RX2, "switchQuiet", "(Z)V"⟩
abbrev cX2_evaluate : ByteArray := prog_4_method_5_code
def yX2_evaluate : MethodName := ⟨RX2, "evaluate", "(LKindlingTree$Board;)I"⟩
abbrev cX2_weighPawn : ByteArray := prog_4_method_6_code
def yX2_weighPawn : MethodName := ⟨RX2, "weighPawn", "(LKindlingTree$Board;III)I"⟩
def RX3 : String := "KindlingTree$Killers"
def TX3 : u_T := fun k => match k with
  | 0 => ("KindlingTree$Killers", "newer", "[I", true)
  | _ => ("KindlingTree$Killers", "older", "[I", true)
def tyX3 : Nat → FieldType := fun k => match k with
  | 0 => .array .int
  | _ => .array .int
abbrev wsX30 : List Cond := u_ws RX3 TX3 2
theorem nmX3 : ∀ a, a < 2 → ∀ b, b < 2 → a ≠ b → (TX3 a).2.1 ≠ (TX3 b).2.1 := by decide +kernel
theorem tyX3_ok : ∀ k, k < 2 → parseFieldDescriptor (TX3 k).2.2.1 = some (tyX3 k) := by decide +kernel
abbrev cX3_init : ByteArray := prog_5_method_1_code
def yX3_init : MethodName := ⟨RX3, "<init>", "()V"⟩
abbrev cX3_clear : ByteArray := prog_5_method_2_code
def yX3_clear : MethodName := ⟨RX3, "clear", "()V"⟩
abbrev cX3_newerOf : ByteArray := prog_5_method_3_code
def yX3_newerOf : MethodName := ⟨RX3, "newerOf", "(I)I"⟩
abbrev cX3_olderOf : ByteArray := prog_5_method_4_code
def yX3_olderOf : MethodName := ⟨RX3, "olderOf", "(I)I"⟩
abbrev cX3_note : ByteArray := prog_5_method_5_code
def yX3_note : MethodName := ⟨RX3, "note", "(II)V"⟩
def RX4 : String := "KindlingTree$Levels"
def TX4 : u_T := fun k => match k with
  | 0 => ("KindlingTree$Levels", "lists", "[LKindlingTree$MoveList;", true)
  | _ => ("KindlingTree$Levels", "spare", "LKindlingTree$MoveList;", true)
def tyX4 : Nat → FieldType := fun k => match k with
  | 0 => .array (.object "KindlingTree$MoveList")
  | _ => .object "KindlingTree$MoveList"
abbrev wsX40 : List Cond := u_ws RX4 TX4 2
theorem nmX4 : ∀ a, a < 2 → ∀ b, b < 2 → a ≠ b → (TX4 a).2.1 ≠ (TX4 b).2.1 := by decide +kernel
theorem tyX4_ok : ∀ k, k < 2 → parseFieldDescriptor (TX4 k).2.2.1 = some (tyX4 k) := by decide +kernel
abbrev cX4_init : ByteArray := prog_6_method_1_code
def yX4_init : MethodName := ⟨RX4, "<init>", "()V"⟩
abbrev cX4_ofDepth : ByteArray := prog_6_method_2_code
def yX4_ofDepth : MethodName := ⟨RX4, "ofDepth", "(I)LKindlingTree$MoveList;"⟩
abbrev cX4_ofTurns : ByteArray := prog_6_method_3_code
def yX4_ofTurns : MethodName := ⟨RX4, "ofTurns", "(I)LKindlingTree$MoveList;"⟩
def RX5 : String := "KindlingTree$MoveList"
def TX5 : u_T := fun k => match k with
  | 0 => ("KindlingTree$MoveList", "moves", "[I", true)
  | 1 => ("KindlingTree$MoveList", "taking", "[Z", true)
  | 2 => ("KindlingTree$MoveList", "order", "[I", true)
  | 3 => ("KindlingTree$MoveList", "isPlaced", "[Z", true)
  | 4 => ("KindlingTree$MoveList", "count", "I", false)
  | _ => ("KindlingTree$MoveList", "placed", "I", false)
def tyX5 : Nat → FieldType := fun k => match k with
  | 0 => .array .int
  | 1 => .array .boolean
  | 2 => .array .int
  | 3 => .array .boolean
  | 4 => .int
  | _ => .int
abbrev wsX50 : List Cond := u_ws RX5 TX5 6
theorem nmX5 : ∀ a, a < 6 → ∀ b, b < 6 → a ≠ b → (TX5 a).2.1 ≠ (TX5 b).2.1 := by decide +kernel
theorem tyX5_ok : ∀ k, k < 6 → parseFieldDescriptor (TX5 k).2.2.1 = some (tyX5 k) := by decide +kernel
abbrev cX5_init : ByteArray := prog_7_method_1_code
def yX5_init : MethodName := ⟨RX5, "<init>", "()V"⟩
abbrev cX5_clear : ByteArray := prog_7_method_2_code
def yX5_clear : MethodName := ⟨RX5, "clear", "()V"⟩
abbrev cX5_add : ByteArray := prog_7_method_3_code
def yX5_add : MethodName := ⟨RX5, "add", "(IZ)V"⟩
abbrev cX5_size : ByteArray := prog_7_method_4_code
def yX5_size : MethodName := ⟨RX5, "size", "()I"⟩
abbrev cX5_has : ByteArray := prog_7_method_5_code
def yX5_has : MethodName := ⟨RX5, "has", "(I)Z"⟩
abbrev cX5_moveAt : ByteArray := prog_7_method_6_code
def yX5_moveAt : MethodName := ⟨RX5, "moveAt", "(I)I"⟩
abbrev cX5_isTaking : ByteArray := prog_7_method_7_code
def yX5_isTaking : MethodName := ⟨RX5, "isTaking", "(I)Z"⟩
abbrev cX5_indexOf : ByteArray := prog_7_method_8_code
def yX5_indexOf : MethodName := ⟨RX5, "indexOf", "(I)I"⟩
abbrev cX5_arrange : ByteArray := prog_7_method_9_code
def yX5_arrange : MethodName := ⟨RX5, "arrange", "(III)V"⟩
abbrev cX5_place : ByteArray := prog_7_method_10_code
def yX5_place : MethodName := ⟨RX5, "place", "(I)V"⟩
abbrev cX5_inOrder : ByteArray := prog_7_method_11_code
def yX5_inOrder : MethodName := ⟨RX5, "inOrder", "(I)I"⟩
def RX6 : String := "KindlingTree$Quiet"
def TX6 : u_T := fun k => match k with
  | 0 => ("KindlingTree$Quiet", "board", "LKindlingTree$Board;", true)
  | 1 => ("KindlingTree$Quiet", "judge", "LKindlingTree$Judge;", true)
  | 2 => ("KindlingTree$Quiet", "levels", "LKindlingTree$Levels;", true)
  | _ => ("KindlingTree$Quiet", "nodes", "I", false)
def tyX6 : Nat → FieldType := fun k => match k with
  | 0 => .object "KindlingTree$Board"
  | 1 => .object "KindlingTree$Judge"
  | 2 => .object "KindlingTree$Levels"
  | _ => .int
abbrev wsX60 : List Cond := u_ws RX6 TX6 4
theorem nmX6 : ∀ a, a < 4 → ∀ b, b < 4 → a ≠ b → (TX6 a).2.1 ≠ (TX6 b).2.1 := by decide +kernel
theorem tyX6_ok : ∀ k, k < 4 → parseFieldDescriptor (TX6 k).2.2.1 = some (tyX6 k) := by decide +kernel
abbrev cX6_init : ByteArray := prog_8_method_1_code
def yX6_init : MethodName := ⟨RX6, "<init>", "(LKindlingTree$Board;LKindlingTree$Judge;LKindlingTree$Levels;)V"⟩
abbrev cX6_clearCount : ByteArray := prog_8_method_2_code
def yX6_clearCount : MethodName := ⟨RX6, "clearCount", "()V"⟩
abbrev cX6_nodeCount : ByteArray := prog_8_method_3_code
def yX6_nodeCount : MethodName := ⟨RX6, "nodeCount", "()I"⟩
abbrev cX6_lookOn : ByteArray := prog_8_method_4_code
def yX6_lookOn : MethodName := ⟨RX6, "lookOn", "(III)I"⟩
abbrev cX6_behind : ByteArray := prog_8_method_5_code
def yX6_behind : MethodName := ⟨RX6, "behind", "(IIII)I"⟩
def RX7 : String := "KindlingTree$Seeker"
def TX7 : u_T := fun k => match k with
  | 0 => ("KindlingTree$Seeker", "board", "LKindlingTree$Board;", true)
  | 1 => ("KindlingTree$Seeker", "levels", "LKindlingTree$Levels;", true)
  | 2 => ("KindlingTree$Seeker", "table", "LKindlingTree$Table;", true)
  | 3 => ("KindlingTree$Seeker", "quiet", "LKindlingTree$Quiet;", true)
  | 4 => ("KindlingTree$Seeker", "killers", "LKindlingTree$Killers;", true)
  | 5 => ("KindlingTree$Seeker", "best", "I", false)
  | 6 => ("KindlingTree$Seeker", "reached", "I", false)
  | 7 => ("KindlingTree$Seeker", "nodes", "I", false)
  | 8 => ("KindlingTree$Seeker", "hits", "I", false)
  | _ => ("KindlingTree$Seeker", "cuts", "I", false)
def tyX7 : Nat → FieldType := fun k => match k with
  | 0 => .object "KindlingTree$Board"
  | 1 => .object "KindlingTree$Levels"
  | 2 => .object "KindlingTree$Table"
  | 3 => .object "KindlingTree$Quiet"
  | 4 => .object "KindlingTree$Killers"
  | 5 => .int
  | 6 => .int
  | 7 => .int
  | 8 => .int
  | _ => .int
abbrev wsX70 : List Cond := u_ws RX7 TX7 10
theorem nmX7 : ∀ a, a < 10 → ∀ b, b < 10 → a ≠ b → (TX7 a).2.1 ≠ (TX7 b).2.1 := by decide +kernel
theorem tyX7_ok : ∀ k, k < 10 → parseFieldDescriptor (TX7 k).2.2.1 = some (tyX7 k) := by decide +kernel
abbrev cX7_init : ByteArray := prog_9_method_1_code
def yX7_init : MethodName := ⟨RX7, "<init>", "(LKindlingTree$Board;LKindlingTree$Levels;LKindlingTree$Table;LKindlingTree$Quiet;)V"⟩
abbrev cX7_bestMove : ByteArray := prog_9_method_2_code
def yX7_bestMove : MethodName := ⟨RX7, "bestMove", "()I"⟩
abbrev cX7_depthReached : ByteArray := prog_9_method_3_code
def yX7_depthReached : MethodName := ⟨RX7, "depthReached", "()I"⟩
abbrev cX7_nodeCount : ByteArray := prog_9_method_4_code
def yX7_nodeCount : MethodName := ⟨RX7, "nodeCount", "()I"⟩
abbrev cX7_hitCount : ByteArray := prog_9_method_5_code
def yX7_hitCount : MethodName := ⟨RX7, "hitCount", "()I"⟩
abbrev cX7_cutCount : ByteArray := prog_9_method_6_code
def yX7_cutCount : MethodName := ⟨RX7, "cutCount", "()I"⟩
abbrev cX7_killerOf : ByteArray := prog_9_method_7_code
def yX7_killerOf : MethodName := ⟨RX7, "killerOf", "(IZ)I"⟩
abbrev cX7_seek : ByteArray := prog_9_method_8_code
def yX7_seek : MethodName := ⟨RX7, "seek", "(I)I"⟩
abbrev cX7_explore : ByteArray := prog_9_method_9_code
def yX7_explore : MethodName := ⟨RX7, "explore", "(III)I"⟩
abbrev cX7_tryMoves : ByteArray := prog_9_method_10_code
def yX7_tryMoves : MethodName := ⟨RX7, "tryMoves", "(LKindlingTree$MoveList;JIII)I"⟩
abbrev cX7_behind : ByteArray := prog_9_method_11_code
def yX7_behind : MethodName := ⟨RX7, "behind", "(IIII)I"⟩
abbrev cX7_noteCut : ByteArray := prog_9_method_12_code
def yX7_noteCut : MethodName := ⟨RX7, "noteCut", "(LKindlingTree$MoveList;II)V"⟩
def RX8 : String := "KindlingTree$Table"
def TX8 : u_T := fun k => match k with
  | 0 => ("KindlingTree$Table", "keys", "[J", true)
  | 1 => ("KindlingTree$Table", "depths", "[I", true)
  | 2 => ("KindlingTree$Table", "numbers", "[I", true)
  | 3 => ("KindlingTree$Table", "kinds", "[I", true)
  | 4 => ("KindlingTree$Table", "moves", "[I", true)
  | _ => ("KindlingTree$Table", "slots", "I", false)
def tyX8 : Nat → FieldType := fun k => match k with
  | 0 => .array .long
  | 1 => .array .int
  | 2 => .array .int
  | 3 => .array .int
  | 4 => .array .int
  | _ => .int
abbrev wsX80 : List Cond := u_ws RX8 TX8 6
theorem nmX8 : ∀ a, a < 6 → ∀ b, b < 6 → a ≠ b → (TX8 a).2.1 ≠ (TX8 b).2.1 := by decide +kernel
theorem tyX8_ok : ∀ k, k < 6 → parseFieldDescriptor (TX8 k).2.2.1 = some (tyX8 k) := by decide +kernel
abbrev cX8_init : ByteArray := prog_10_method_1_code
def yX8_init : MethodName := ⟨RX8, "<init>", "()V"⟩
abbrev cX8_size : ByteArray := prog_10_method_2_code
def yX8_size : MethodName := ⟨RX8, "size", "()I"⟩
abbrev cX8_resize : ByteArray := prog_10_method_3_code
def yX8_resize : MethodName := ⟨RX8, "resize", "(I)V"⟩
abbrev cX8_wipe : ByteArray := prog_10_method_4_code
def yX8_wipe : MethodName := ⟨RX8, "wipe", "()V"⟩
abbrev cX8_countEntries : ByteArray := prog_10_method_5_code
def yX8_countEntries : MethodName := ⟨RX8, "countEntries", "()I"⟩
abbrev cX8_isSlot : ByteArray := prog_10_method_6_code
def yX8_isSlot : MethodName := ⟨RX8, "isSlot", "(I)Z"⟩
abbrev cX8_slotOf : ByteArray := prog_10_method_7_code
def yX8_slotOf : MethodName := ⟨RX8, "slotOf", "(J)I"⟩
abbrev cX8_find : ByteArray := prog_10_method_8_code
def yX8_find : MethodName := ⟨RX8, "find", "(J)I"⟩
abbrev cX8_store : ByteArray := prog_10_method_9_code
def yX8_store : MethodName := ⟨RX8, "store", "(JIIII)V"⟩
abbrev cX8_isAnswer : ByteArray := prog_10_method_10_code
def yX8_isAnswer : MethodName := ⟨RX8, "isAnswer", "(IIII)Z"⟩
abbrev cX8_tell : ByteArray := prog_10_method_11_code
def yX8_tell : MethodName := ⟨RX8, "tell", "(II)I"⟩
abbrev cX8_keyAt : ByteArray := prog_10_method_12_code
def yX8_keyAt : MethodName := ⟨RX8, "keyAt", "(I)J"⟩
abbrev cX8_depthAt : ByteArray := prog_10_method_13_code
def yX8_depthAt : MethodName := ⟨RX8, "depthAt", "(I)I"⟩
abbrev cX8_numberAt : ByteArray := prog_10_method_14_code
def yX8_numberAt : MethodName := ⟨RX8, "numberAt", "(I)I"⟩
abbrev cX8_kindAt : ByteArray := prog_10_method_15_code
def yX8_kindAt : MethodName := ⟨RX8, "kindAt", "(I)I"⟩
abbrev cX8_moveAt : ByteArray := prog_10_method_16_code
def yX8_moveAt : MethodName := ⟨RX8, "moveAt", "(I)I"⟩
def RX9 : String := "KindlingTree$Trail"
def TX9 : u_T := fun k => match k with
  | 0 => ("KindlingTree$Trail", "moves", "[I", true)
  | 1 => ("KindlingTree$Trail", "taken", "[I", true)
  | _ => ("KindlingTree$Trail", "count", "I", false)
def tyX9 : Nat → FieldType := fun k => match k with
  | 0 => .array .int
  | 1 => .array .int
  | _ => .int
abbrev wsX90 : List Cond := u_ws RX9 TX9 3
theorem nmX9 : ∀ a, a < 3 → ∀ b, b < 3 → a ≠ b → (TX9 a).2.1 ≠ (TX9 b).2.1 := by decide +kernel
theorem tyX9_ok : ∀ k, k < 3 → parseFieldDescriptor (TX9 k).2.2.1 = some (tyX9 k) := by decide +kernel
abbrev cX9_init : ByteArray := prog_11_method_1_code
def yX9_init : MethodName := ⟨RX9, "<init>", "()V"⟩
abbrev cX9_clear : ByteArray := prog_11_method_2_code
def yX9_clear : MethodName := ⟨RX9, "clear", "()V"⟩
abbrev cX9_length : ByteArray := prog_11_method_3_code
def yX9_length : MethodName := ⟨RX9, "length", "()I"⟩
abbrev cX9_add : ByteArray := prog_11_method_4_code
def yX9_add : MethodName := ⟨RX9, "add", "(II)V"⟩
abbrev cX9_forgetOldest : ByteArray := prog_11_method_5_code
def yX9_forgetOldest : MethodName := ⟨RX9, "forgetOldest", "()V"⟩
abbrev cX9_lastMove : ByteArray := prog_11_method_6_code
def yX9_lastMove : MethodName := ⟨RX9, "lastMove", "()I"⟩
abbrev cX9_lastTaken : ByteArray := prog_11_method_7_code
def yX9_lastTaken : MethodName := ⟨RX9, "lastTaken", "()I"⟩
abbrev cX9_dropLast : ByteArray := prog_11_method_8_code
def yX9_dropLast : MethodName := ⟨RX9, "dropLast", "()V"⟩
def RX10 : String := "KindlingTree$Valuer"
def TX10 : u_T := fun k => match k with
  | 0 => ("KindlingTree$Valuer", "board", "LKindlingTree$Board;", true)
  | 1 => ("KindlingTree$Valuer", "levels", "LKindlingTree$Levels;", true)
  | _ => ("KindlingTree$Valuer", "quiet", "LKindlingTree$Quiet;", true)
def tyX10 : Nat → FieldType := fun k => match k with
  | 0 => .object "KindlingTree$Board"
  | 1 => .object "KindlingTree$Levels"
  | _ => .object "KindlingTree$Quiet"
abbrev wsX100 : List Cond := u_ws RX10 TX10 3
theorem nmX10 : ∀ a, a < 3 → ∀ b, b < 3 → a ≠ b → (TX10 a).2.1 ≠ (TX10 b).2.1 := by decide +kernel
theorem tyX10_ok : ∀ k, k < 3 → parseFieldDescriptor (TX10 k).2.2.1 = some (tyX10 k) := by decide +kernel
abbrev cX10_init : ByteArray := prog_12_method_1_code
def yX10_init : MethodName := ⟨RX10, "<init>", "(LKindlingTree$Board;LKindlingTree$Levels;LKindlingTree$Quiet;)V"⟩
abbrev cX10_countWays : ByteArray := prog_12_method_2_code
def yX10_countWays : MethodName := ⟨RX10, "countWays", "(I)I"⟩
abbrev cX10_countBehind : ByteArray := prog_12_method_3_code
def yX10_countBehind : MethodName := ⟨RX10, "countBehind", "(II)I"⟩
abbrev cX10_worth : ByteArray := prog_12_method_4_code
def yX10_worth : MethodName := ⟨RX10, "worth", "(III)I"⟩
abbrev cX10_worthBehind : ByteArray := prog_12_method_5_code
def yX10_worthBehind : MethodName := ⟨RX10, "worthBehind", "(IIII)I"⟩
def RX11 : String := "KindlingTree"
def TX11 : u_T := fun k => match k with
  | 0 => ("KindlingTree", "board", "LKindlingTree$Board;", true)
  | 1 => ("KindlingTree", "here", "LKindlingTree$MoveList;", true)
  | 2 => ("KindlingTree", "trail", "LKindlingTree$Trail;", true)
  | 3 => ("KindlingTree", "judge", "LKindlingTree$Judge;", true)
  | 4 => ("KindlingTree", "table", "LKindlingTree$Table;", true)
  | 5 => ("KindlingTree", "valuer", "LKindlingTree$Valuer;", true)
  | 6 => ("KindlingTree", "seeker", "LKindlingTree$Seeker;", true)
  | _ => ("KindlingTree", "book", "LKindlingTree$Book;", true)
def tyX11 : Nat → FieldType := fun k => match k with
  | 0 => .object "KindlingTree$Board"
  | 1 => .object "KindlingTree$MoveList"
  | 2 => .object "KindlingTree$Trail"
  | 3 => .object "KindlingTree$Judge"
  | 4 => .object "KindlingTree$Table"
  | 5 => .object "KindlingTree$Valuer"
  | 6 => .object "KindlingTree$Seeker"
  | _ => .object "KindlingTree$Book"
abbrev wsX110 : List Cond := u_ws RX11 TX11 8
theorem nmX11 : ∀ a, a < 8 → ∀ b, b < 8 → a ≠ b → (TX11 a).2.1 ≠ (TX11 b).2.1 := by decide +kernel
theorem tyX11_ok : ∀ k, k < 8 → parseFieldDescriptor (TX11 k).2.2.1 = some (tyX11 k) := by decide +kernel
abbrev cX11_init : ByteArray := prog_1_method_1_code
def yX11_init : MethodName := ⟨RX11, "<init>", "()V"⟩
abbrev cX11_setUp : ByteArray := prog_1_method_2_code
def yX11_setUp : MethodName := ⟨RX11, "setUp", "(III)I"⟩
abbrev cX11_put : ByteArray := prog_1_method_3_code
def yX11_put : MethodName := ⟨RX11, "put", "(II)I"⟩
abbrev cX11_setSide : ByteArray := prog_1_method_4_code
def yX11_setSide : MethodName := ⟨RX11, "setSide", "(I)I"⟩
abbrev cX11_play : ByteArray := prog_1_method_5_code
def yX11_play : MethodName := ⟨RX11, "play", "(I)I"⟩
abbrev cX11_back : ByteArray := prog_1_method_6_code
def yX11_back : MethodName := ⟨RX11, "back", "()I"⟩
abbrev cX11_weigh : ByteArray := prog_1_method_7_code
def yX11_weigh : MethodName := ⟨RX11, "weigh", "(III)I"⟩
abbrev cX11_setQuiet : ByteArray := prog_1_method_8_code
def yX11_setQuiet : MethodName := ⟨RX11, "setQuiet", "(Z)Z"⟩
abbrev cX11_setSlots : ByteArray := prog_1_method_9_code
def yX11_setSlots : MethodName := ⟨RX11, "setSlots", "(I)I"⟩
abbrev cX11_empty : ByteArray := prog_1_method_10_code
def yX11_empty : MethodName := ⟨RX11, "empty", "()I"⟩
abbrev cX11_columns : ByteArray := prog_1_method_11_code
def yX11_columns : MethodName := ⟨RX11, "columns", "()I"⟩
abbrev cX11_rows : ByteArray := prog_1_method_12_code
def yX11_rows : MethodName := ⟨RX11, "rows", "()I"⟩
abbrev cX11_at : ByteArray := prog_1_method_13_code
def yX11_at : MethodName := ⟨RX11, "at", "(I)I"⟩
abbrev cX11_side : ByteArray := prog_1_method_14_code
def yX11_side : MethodName := ⟨RX11, "side", "()I"⟩
abbrev cX11_played : ByteArray := prog_1_method_15_code
def yX11_played : MethodName := ⟨RX11, "played", "()I"⟩
abbrev cX11_moves : ByteArray := prog_1_method_16_code
def yX11_moves : MethodName := ⟨RX11, "moves", "()I"⟩
abbrev cX11_from : ByteArray := prog_1_method_17_code
def yX11_from : MethodName := ⟨RX11, "from", "(I)I"⟩
abbrev cX11_to : ByteArray := prog_1_method_18_code
def yX11_to : MethodName := ⟨RX11, "to", "(I)I"⟩
abbrev cX11_takes : ByteArray := prog_1_method_19_code
def yX11_takes : MethodName := ⟨RX11, "takes", "(I)Z"⟩
abbrev cX11_isLost : ByteArray := prog_1_method_20_code
def yX11_isLost : MethodName := ⟨RX11, "isLost", "()Z"⟩
abbrev cX11_key : ByteArray := prog_1_method_21_code
def yX11_key : MethodName := ⟨RX11, "key", "()J"⟩
abbrev cX11_evaluation : ByteArray := prog_1_method_22_code
def yX11_evaluation : MethodName := ⟨RX11, "evaluation", "()I"⟩
abbrev cX11_ways : ByteArray := prog_1_method_23_code
def yX11_ways : MethodName := ⟨RX11, "ways", "(I)I"⟩
abbrev cX11_value : ByteArray := prog_1_method_24_code
def yX11_value : MethodName := ⟨RX11, "value", "(I)I"⟩
abbrev cX11_valueOf : ByteArray := prog_1_method_25_code
def yX11_valueOf : MethodName := ⟨RX11, "valueOf", "(II)I"⟩
abbrev cX11_search : ByteArray := prog_1_method_26_code
def yX11_search : MethodName := ⟨RX11, "search", "(I)I"⟩
abbrev cX11_bestFrom : ByteArray := prog_1_method_27_code
def yX11_bestFrom : MethodName := ⟨RX11, "bestFrom", "()I"⟩
abbrev cX11_bestTo : ByteArray := prog_1_method_28_code
def yX11_bestTo : MethodName := ⟨RX11, "bestTo", "()I"⟩
abbrev cX11_reached : ByteArray := prog_1_method_29_code
def yX11_reached : MethodName := ⟨RX11, "reached", "()I"⟩
abbrev cX11_nodes : ByteArray := prog_1_method_30_code
def yX11_nodes : MethodName := ⟨RX11, "nodes", "()I"⟩
abbrev cX11_hits : ByteArray := prog_1_method_31_code
def yX11_hits : MethodName := ⟨RX11, "hits", "()I"⟩
abbrev cX11_cuts : ByteArray := prog_1_method_32_code
def yX11_cuts : MethodName := ⟨RX11, "cuts", "()I"⟩
abbrev cX11_killer : ByteArray := prog_1_method_33_code
def yX11_killer : MethodName := ⟨RX11, "killer", "(IZ)I"⟩
abbrev cX11_slots : ByteArray := prog_1_method_34_code
def yX11_slots : MethodName := ⟨RX11, "slots", "()I"⟩
abbrev cX11_entries : ByteArray := prog_1_method_35_code
def yX11_entries : MethodName := ⟨RX11, "entries", "()I"⟩
abbrev cX11_ofSlot : ByteArray := prog_1_method_36_code
def yX11_ofSlot : MethodName := ⟨RX11, "ofSlot", "(II)I"⟩
abbrev cX11_known : ByteArray := prog_1_method_37_code
def yX11_known : MethodName := ⟨RX11, "known", "()I"⟩
abbrev cX11_teach : ByteArray := prog_1_method_38_code
def yX11_teach : MethodName := ⟨RX11, "teach", "(II)I"⟩
abbrev cX11_told : ByteArray := prog_1_method_39_code
def yX11_told : MethodName := ⟨RX11, "told", "()I"⟩
abbrev cX11_go : ByteArray := prog_1_method_40_code
def yX11_go : MethodName := ⟨RX11, "go", "(I)I"⟩
abbrev cX11_playOut : ByteArray := prog_1_method_41_code
def yX11_playOut : MethodName := ⟨RX11, "playOut", "(II)I"⟩
abbrev cX11_pages : ByteArray := prog_1_method_42_code
def yX11_pages : MethodName := ⟨RX11, "pages", "()I"⟩
abbrev cX11_effort : ByteArray := prog_1_method_43_code
def yX11_effort : MethodName := ⟨RX11, "effort", "()D"⟩
abbrev cX11_digest : ByteArray := prog_1_method_44_code
def yX11_digest : MethodName := ⟨RX11, "digest", "()J"⟩
abbrev cX11_addBoard : ByteArray := prog_1_method_45_code
def yX11_addBoard : MethodName := ⟨RX11, "addBoard", "(J)J"⟩
abbrev cX11_addMoves : ByteArray := prog_1_method_46_code
def yX11_addMoves : MethodName := ⟨RX11, "addMoves", "(J)J"⟩
abbrev cX11_addSearch : ByteArray := prog_1_method_47_code
def yX11_addSearch : MethodName := ⟨RX11, "addSearch", "(J)J"⟩
abbrev cX11_addTable : ByteArray := prog_1_method_48_code
def yX11_addTable : MethodName := ⟨RX11, "addTable", "(J)J"⟩
abbrev cX11_join : ByteArray := prog_1_method_49_code
def yX11_join : MethodName := ⟨RX11, "join", "(JJ)J"⟩
abbrev cX11_isWithin : ByteArray := prog_1_method_50_code
def yX11_isWithin : MethodName := ⟨RX11, "isWithin", "(III)Z"⟩
abbrev cX11_fromOf : ByteArray := prog_1_method_51_code
def yX11_fromOf : MethodName := ⟨RX11, "fromOf", "(I)I"⟩
abbrev cX11_toOf : ByteArray := prog_1_method_52_code
def yX11_toOf : MethodName := ⟨RX11, "toOf", "(I)I"⟩
abbrev cX11_isOver : ByteArray := prog_1_method_53_code
def yX11_isOver : MethodName := ⟨RX11, "isOver", "()Z"⟩
abbrev cX11_startAnew : ByteArray := prog_1_method_54_code
def yX11_startAnew : MethodName := ⟨RX11, "startAnew", "()V"⟩
abbrev cX11_playHere : ByteArray := prog_1_method_55_code
def yX11_playHere : MethodName := ⟨RX11, "playHere", "(I)I"⟩
abbrev cX11_goOn : ByteArray := prog_1_method_56_code
def yX11_goOn : MethodName := ⟨RX11, "goOn", "(I)I"⟩
def RX12 : String := "KindlingTreeModel"
def TX12 : u_T := fun k => match k with
  | 0 => ("KindlingTreeModel", "thrown", "I", false)
  | 1 => ("KindlingTreeModel", "columns", "I", false)
  | 2 => ("KindlingTreeModel", "rows", "I", false)
  | 3 => ("KindlingTreeModel", "now", "[I", false)
  | 4 => ("KindlingTreeModel", "gone", "[I", true)
  | 5 => ("KindlingTreeModel", "played", "I", false)
  | 6 => ("KindlingTreeModel", "perPawn", "I", false)
  | 7 => ("KindlingTreeModel", "perRow", "I", false)
  | 8 => ("KindlingTreeModel", "perStep", "I", false)
  | 9 => ("KindlingTreeModel", "isQuiet", "Z", false)
  | 10 => ("KindlingTreeModel", "listed", "[[I", true)
  | 11 => ("KindlingTreeModel", "slots", "I", false)
  | 12 => ("KindlingTreeModel", "slotKey", "[J", true)
  | 13 => ("KindlingTreeModel", "slot", "[[I", true)
  | 14 => ("KindlingTreeModel", "tried", "[[I", true)
  | 15 => ("KindlingTreeModel", "killer", "[[I", true)
  | 16 => ("KindlingTreeModel", "nodes", "I", false)
  | 17 => ("KindlingTreeModel", "hits", "I", false)
  | 18 => ("KindlingTreeModel", "cuts", "I", false)
  | 19 => ("KindlingTreeModel", "reached", "I", false)
  | 20 => ("KindlingTreeModel", "best", "I", false)
  | 21 => ("KindlingTreeModel", "bestMove", "I", false)
  | 22 => ("KindlingTreeModel", "pages", "I", false)
  | 23 => ("KindlingTreeModel", "pageKey", "[J", true)
  | 24 => ("KindlingTreeModel", "page", "[[I", true)
  | _ => ("KindlingTreeModel", "sum", "J", false)
def tyX12 : Nat → FieldType := fun k => match k with
  | 0 => .int
  | 1 => .int
  | 2 => .int
  | 3 => .array .int
  | 4 => .array .int
  | 5 => .int
  | 6 => .int
  | 7 => .int
  | 8 => .int
  | 9 => .boolean
  | 10 => .array (.array .int)
  | 11 => .int
  | 12 => .array .long
  | 13 => .array (.array .int)
  | 14 => .array (.array .int)
  | 15 => .array (.array .int)
  | 16 => .int
  | 17 => .int
  | 18 => .int
  | 19 => .int
  | 20 => .int
  | 21 => .int
  | 22 => .int
  | 23 => .array .long
  | 24 => .array (.array .int)
  | _ => .long
abbrev wsX120 : List Cond := u_ws RX12 TX12 26
theorem nmX12 : ∀ a, a < 26 → ∀ b, b < 26 → a ≠ b → (TX12 a).2.1 ≠ (TX12 b).2.1 := by decide +kernel
theorem tyX12_ok : ∀ k, k < 26 → parseFieldDescriptor (TX12 k).2.2.1 = some (tyX12 k) := by decide +kernel
abbrev cX12_init : ByteArray := prog_14_method_1_code
def yX12_init : MethodName := ⟨RX12, "<init>", "()V"⟩
abbrev cX12_thrown : ByteArray := prog_14_method_2_code
def yX12_thrown : MethodName := ⟨RX12, "thrown", "()I"⟩
abbrev cX12_refuse : ByteArray := prog_14_method_3_code
def yX12_refuse : MethodName := ⟨RX12, "refuse", "(I)I"⟩
abbrev cX12_is : ByteArray := prog_14_method_4_code
def yX12_is : MethodName := ⟨RX12, "is", "(III)Z"⟩
abbrev cX12_lay : ByteArray := prog_14_method_5_code
def yX12_lay : MethodName := ⟨RX12, "lay", "(III)V"⟩
abbrev cX12_sideNow : ByteArray := prog_14_method_6_code
def yX12_sideNow : MethodName := ⟨RX12, "sideNow", "()I"⟩
abbrev cX12_goal : ByteArray := prog_14_method_7_code
def yX12_goal : MethodName := ⟨RX12, "goal", "(I)I"⟩
abbrev cX12_target : ByteArray := prog_14_method_8_code
def yX12_target : MethodName := ⟨RX12, "target", "(III)I"⟩
abbrev cX12_isStep : ByteArray := prog_14_method_9_code
def yX12_isStep : MethodName := ⟨RX12, "isStep", "(III)Z"⟩
abbrev cX12_countSteps : ByteArray := prog_14_method_10_code
def yX12_countSteps : MethodName := ⟨RX12, "countSteps", "(I)I"⟩
abbrev cX12_isLostNow : ByteArray := prog_14_method_11_code
def yX12_isLostNow : MethodName := ⟨RX12, "isLostNow", "()Z"⟩
abbrev cX12_list : ByteArray := prog_14_method_12_code
def yX12_list : MethodName := ⟨RX12, "list", "(I)I"⟩
abbrev cX12_isTaking : ByteArray := prog_14_method_13_code
def yX12_isTaking : MethodName := ⟨RX12, "isTaking", "(I)Z"⟩
abbrev cX12_make : ByteArray := prog_14_method_14_code
def yX12_make : MethodName := ⟨RX12, "make", "(I)I"⟩
abbrev cX12_unmake : ByteArray := prog_14_method_15_code
def yX12_unmake : MethodName := ⟨RX12, "unmake", "(II)V"⟩
abbrev cX12_keyNow : ByteArray := prog_14_method_16_code
def yX12_keyNow : MethodName := ⟨RX12, "keyNow", "()J"⟩
abbrev cX12_worth : ByteArray := prog_14_method_17_code
def yX12_worth : MethodName := ⟨RX12, "worth", "(I)I"⟩
abbrev cX12_evaluated : ByteArray := prog_14_method_18_code
def yX12_evaluated : MethodName := ⟨RX12, "evaluated", "()I"⟩
abbrev cX12_quietValue : ByteArray := prog_14_method_19_code
def yX12_quietValue : MethodName := ⟨RX12, "quietValue", "(II)I"⟩
abbrev cX12_valueNow : ByteArray := prog_14_method_20_code
def yX12_valueNow : MethodName := ⟨RX12, "valueNow", "(II)I"⟩
abbrev cX12_valueBehind : ByteArray := prog_14_method_21_code
def yX12_valueBehind : MethodName := ⟨RX12, "valueBehind", "(III)I"⟩
abbrev cX12_waysNow : ByteArray := prog_14_method_22_code
def yX12_waysNow : MethodName := ⟨RX12, "waysNow", "(II)I"⟩
abbrev cX12_clear : ByteArray := prog_14_method_23_code
def yX12_clear : MethodName := ⟨RX12, "clear", "(I)I"⟩
abbrev cX12_entriesNow : ByteArray := prog_14_method_24_code
def yX12_entriesNow : MethodName := ⟨RX12, "entriesNow", "()I"⟩
abbrev cX12_slotOf : ByteArray := prog_14_method_25_code
def yX12_slotOf : MethodName := ⟨RX12, "slotOf", "(J)I"⟩
abbrev cX12_keep : ByteArray := prog_14_method_26_code
def yX12_keep : MethodName := ⟨RX12, "keep", "(IIII)V"⟩
abbrev cX12_order : ByteArray := prog_14_method_27_code
def yX12_order : MethodName := ⟨RX12, "order", "(III)I"⟩
abbrev cX12_want : ByteArray := prog_14_method_28_code
def yX12_want : MethodName := ⟨RX12, "want", "(IIII)I"⟩
abbrev cX12_has : ByteArray := prog_14_method_29_code
def yX12_has : MethodName := ⟨RX12, "has", "([III)Z"⟩
abbrev cX12_searched : ByteArray := prog_14_method_30_code
def yX12_searched : MethodName := ⟨RX12, "searched", "(IIII)I"⟩
abbrev cX12_answers : ByteArray := prog_14_method_31_code
def yX12_answers : MethodName := ⟨RX12, "answers", "([III)Z"⟩
abbrev cX12_cut : ByteArray := prog_14_method_32_code
def yX12_cut : MethodName := ⟨RX12, "cut", "(II)V"⟩
abbrev cX12_quietly : ByteArray := prog_14_method_33_code
def yX12_quietly : MethodName := ⟨RX12, "quietly", "(IIII)I"⟩
abbrev cX12_searchNow : ByteArray := prog_14_method_34_code
def yX12_searchNow : MethodName := ⟨RX12, "searchNow", "(I)I"⟩
abbrev cX12_pageOf : ByteArray := prog_14_method_35_code
def yX12_pageOf : MethodName := ⟨RX12, "pageOf", "(JI)I"⟩
abbrev cX12_toldNow : ByteArray := prog_14_method_36_code
def yX12_toldNow : MethodName := ⟨RX12, "toldNow", "()I"⟩
abbrev cX12_setUp : ByteArray := prog_14_method_37_code
def yX12_setUp : MethodName := ⟨RX12, "setUp", "(III)I"⟩
abbrev cX12_pawns : ByteArray := prog_14_method_38_code
def yX12_pawns : MethodName := ⟨RX12, "pawns", "(I)I"⟩
abbrev cX12_isField : ByteArray := prog_14_method_39_code
def yX12_isField : MethodName := ⟨RX12, "isField", "(I)Z"⟩
abbrev cX12_put : ByteArray := prog_14_method_40_code
def yX12_put : MethodName := ⟨RX12, "put", "(II)I"⟩
abbrev cX12_setSide : ByteArray := prog_14_method_41_code
def yX12_setSide : MethodName := ⟨RX12, "setSide", "(I)I"⟩
abbrev cX12_isMove : ByteArray := prog_14_method_42_code
def yX12_isMove : MethodName := ⟨RX12, "isMove", "(I)Z"⟩
abbrev cX12_playNow : ByteArray := prog_14_method_43_code
def yX12_playNow : MethodName := ⟨RX12, "playNow", "(I)I"⟩
abbrev cX12_play : ByteArray := prog_14_method_44_code
def yX12_play : MethodName := ⟨RX12, "play", "(I)I"⟩
abbrev cX12_back : ByteArray := prog_14_method_45_code
def yX12_back : MethodName := ⟨RX12, "back", "()I"⟩
abbrev cX12_weigh : ByteArray := prog_14_method_46_code
def yX12_weigh : MethodName := ⟨RX12, "weigh", "(III)I"⟩
abbrev cX12_setQuiet : ByteArray := prog_14_method_47_code
def yX12_setQuiet : MethodName := ⟨RX12, "setQuiet", "(Z)Z"⟩
abbrev cX12_setSlots : ByteArray := prog_14_method_48_code
def yX12_setSlots : MethodName := ⟨RX12, "setSlots", "(I)I"⟩
abbrev cX12_empty : ByteArray := prog_14_method_49_code
def yX12_empty : MethodName := ⟨RX12, "empty", "()I"⟩
abbrev cX12_columns : ByteArray := prog_14_method_50_code
def yX12_columns : MethodName := ⟨RX12, "columns", "()I"⟩
abbrev cX12_rows : ByteArray := prog_14_method_51_code
def yX12_rows : MethodName := ⟨RX12, "rows", "()I"⟩
abbrev cX12_at : ByteArray := prog_14_method_52_code
def yX12_at : MethodName := ⟨RX12, "at", "(I)I"⟩
abbrev cX12_side : ByteArray := prog_14_method_53_code
def yX12_side : MethodName := ⟨RX12, "side", "()I"⟩
abbrev cX12_played : ByteArray := prog_14_method_54_code
def yX12_played : MethodName := ⟨RX12, "played", "()I"⟩
abbrev cX12_moves : ByteArray := prog_14_method_55_code
def yX12_moves : MethodName := ⟨RX12, "moves", "()I"⟩
abbrev cX12_from : ByteArray := prog_14_method_56_code
def yX12_from : MethodName := ⟨RX12, "from", "(I)I"⟩
abbrev cX12_to : ByteArray := prog_14_method_57_code
def yX12_to : MethodName := ⟨RX12, "to", "(I)I"⟩
abbrev cX12_takes : ByteArray := prog_14_method_58_code
def yX12_takes : MethodName := ⟨RX12, "takes", "(I)Z"⟩
abbrev cX12_isLost : ByteArray := prog_14_method_59_code
def yX12_isLost : MethodName := ⟨RX12, "isLost", "()Z"⟩
abbrev cX12_key : ByteArray := prog_14_method_60_code
def yX12_key : MethodName := ⟨RX12, "key", "()J"⟩
abbrev cX12_evaluation : ByteArray := prog_14_method_61_code
def yX12_evaluation : MethodName := ⟨RX12, "evaluation", "()I"⟩
abbrev cX12_ways : ByteArray := prog_14_method_62_code
def yX12_ways : MethodName := ⟨RX12, "ways", "(I)I"⟩
abbrev cX12_value : ByteArray := prog_14_method_63_code
def yX12_value : MethodName := ⟨RX12, "value", "(I)I"⟩
abbrev cX12_valueOf : ByteArray := prog_14_method_64_code
def yX12_valueOf : MethodName := ⟨RX12, "valueOf", "(II)I"⟩
abbrev cX12_search : ByteArray := prog_14_method_65_code
def yX12_search : MethodName := ⟨RX12, "search", "(I)I"⟩
abbrev cX12_bestFrom : ByteArray := prog_14_method_66_code
def yX12_bestFrom : MethodName := ⟨RX12, "bestFrom", "()I"⟩
abbrev cX12_bestTo : ByteArray := prog_14_method_67_code
def yX12_bestTo : MethodName := ⟨RX12, "bestTo", "()I"⟩
abbrev cX12_reached : ByteArray := prog_14_method_68_code
def yX12_reached : MethodName := ⟨RX12, "reached", "()I"⟩
abbrev cX12_nodes : ByteArray := prog_14_method_69_code
def yX12_nodes : MethodName := ⟨RX12, "nodes", "()I"⟩
abbrev cX12_hits : ByteArray := prog_14_method_70_code
def yX12_hits : MethodName := ⟨RX12, "hits", "()I"⟩
abbrev cX12_cuts : ByteArray := prog_14_method_71_code
def yX12_cuts : MethodName := ⟨RX12, "cuts", "()I"⟩
abbrev cX12_killerAt : ByteArray := prog_14_method_72_code
def yX12_killerAt : MethodName := ⟨RX12, "killerAt", "(II)I"⟩
abbrev cX12_killer : ByteArray := prog_14_method_73_code
def yX12_killer : MethodName := ⟨RX12, "killer", "(IZ)I"⟩
abbrev cX12_slots : ByteArray := prog_14_method_74_code
def yX12_slots : MethodName := ⟨RX12, "slots", "()I"⟩
abbrev cX12_entries : ByteArray := prog_14_method_75_code
def yX12_entries : MethodName := ⟨RX12, "entries", "()I"⟩
abbrev cX12_toldOf : ByteArray := prog_14_method_76_code
def yX12_toldOf : MethodName := ⟨RX12, "toldOf", "(II)I"⟩
abbrev cX12_ofSlot : ByteArray := prog_14_method_77_code
def yX12_ofSlot : MethodName := ⟨RX12, "ofSlot", "(II)I"⟩
abbrev cX12_knownNow : ByteArray := prog_14_method_78_code
def yX12_knownNow : MethodName := ⟨RX12, "knownNow", "()I"⟩
abbrev cX12_known : ByteArray := prog_14_method_79_code
def yX12_known : MethodName := ⟨RX12, "known", "()I"⟩
abbrev cX12_teach : ByteArray := prog_14_method_80_code
def yX12_teach : MethodName := ⟨RX12, "teach", "(II)I"⟩
abbrev cX12_told : ByteArray := prog_14_method_81_code
def yX12_told : MethodName := ⟨RX12, "told", "()I"⟩
abbrev cX12_goNow : ByteArray := prog_14_method_82_code
def yX12_goNow : MethodName := ⟨RX12, "goNow", "(I)I"⟩
abbrev cX12_go : ByteArray := prog_14_method_83_code
def yX12_go : MethodName := ⟨RX12, "go", "(I)I"⟩
abbrev cX12_playOut : ByteArray := prog_14_method_84_code
def yX12_playOut : MethodName := ⟨RX12, "playOut", "(II)I"⟩
abbrev cX12_pages : ByteArray := prog_14_method_85_code
def yX12_pages : MethodName := ⟨RX12, "pages", "()I"⟩
abbrev cX12_effort : ByteArray := prog_14_method_86_code
def yX12_effort : MethodName := ⟨RX12, "effort", "()D"⟩
abbrev cX12_add : ByteArray := prog_14_method_87_code
def yX12_add : MethodName := ⟨RX12, "add", "(J)V"⟩
abbrev cX12_digest : ByteArray := prog_14_method_88_code
def yX12_digest : MethodName := ⟨RX12, "digest", "()J"⟩
def RJx145de : String := "java/io/Serializable"
def TJx145de : u_T := fun k => match k with
  | _ => ("", "", "", false)
def tyJx145de : Nat → FieldType := fun k => match k with
  | _ => .int
abbrev wsJx145de0 : List Cond := u_ws RJx145de TJx145de 0
theorem nmJx145de : ∀ a, a < 0 → ∀ b, b < 0 → a ≠ b → (TJx145de a).2.1 ≠ (TJx145de b).2.1 := by decide +kernel
theorem tyJx145de_ok : ∀ k, k < 0 → parseFieldDescriptor (TJx145de k).2.2.1 = some (tyJx145de k) := by decide +kernel
def RJ9 : String := "java/lang/Math"
def TJ9 : u_T := fun k => match k with
  | _ => ("", "", "", false)
def tyJ9 : Nat → FieldType := fun k => match k with
  | _ => .int
abbrev wsJ90 : List Cond := u_ws RJ9 TJ9 0
theorem nmJ9 : ∀ a, a < 0 → ∀ b, b < 0 → a ≠ b → (TJ9 a).2.1 ≠ (TJ9 b).2.1 := by decide +kernel
theorem tyJ9_ok : ∀ k, k < 0 → parseFieldDescriptor (TJ9 k).2.2.1 = some (tyJ9 k) := by decide +kernel
abbrev cJ9_abs_0f7a4 : ByteArray := prog_19_method_59_code
def yJ9_abs_0f7a4 : MethodName := ⟨RJ9, "abs", "(I)I"⟩
abbrev cJ9_max_7cf53 : ByteArray := prog_19_method_65_code
def yJ9_max_7cf53 : MethodName := ⟨RJ9, "max", "(II)I"⟩
def RJ0 : String := "java/lang/String"
def TJ0 : u_T := fun k => match k with
  | _ => ("", "", "", false)
def tyJ0 : Nat → FieldType := fun k => match k with
  | _ => .int
abbrev wsJ00 : List Cond := u_ws RJ0 TJ0 0
theorem nmJ0 : ∀ a, a < 0 → ∀ b, b < 0 → a ≠ b → (TJ0 a).2.1 ≠ (TJ0 b).2.1 := by decide +kernel
theorem tyJ0_ok : ∀ k, k < 0 → parseFieldDescriptor (TJ0 k).2.2.1 = some (tyJ0 k) := by decide +kernel
def RJ10 : String := "java/lang/System"
def TJ10 : u_T := fun k => match k with
  | _ => ("", "", "", false)
def tyJ10 : Nat → FieldType := fun k => match k with
  | _ => .int
abbrev wsJ100 : List Cond := u_ws RJ10 TJ10 0
theorem nmJ10 : ∀ a, a < 0 → ∀ b, b < 0 → a ≠ b → (TJ10 a).2.1 ≠ (TJ10 b).2.1 := by decide +kernel
theorem tyJ10_ok : ∀ k, k < 0 → parseFieldDescriptor (TJ10 k).2.2.1 = some (tyJ10 k) := by decide +kernel
def RJ7 : String := "java/util/Arrays"
def TJ7 : u_T := fun k => match k with
  | _ => ("", "", "", false)
def tyJ7 : Nat → FieldType := fun k => match k with
  | _ => .int
abbrev wsJ70 : List Cond := u_ws RJ7 TJ7 0
theorem nmJ7 : ∀ a, a < 0 → ∀ b, b < 0 → a ≠ b → (TJ7 a).2.1 ≠ (TJ7 b).2.1 := by decide +kernel
theorem tyJ7_ok : ∀ k, k < 0 → parseFieldDescriptor (TJ7 k).2.2.1 = some (tyJ7 k) := by decide +kernel
abbrev cJ7_fill_53178 : ByteArray := prog_24_method_103_code
def yJ7_fill_53178 : MethodName := ⟨RJ7, "fill", "([II)V"⟩
def RL : String := "KindlingTreeLaw"
abbrev cL_setUp : ByteArray := method_3_code
def yL_setUp : MethodName := ⟨RL, "setUp", "(LKindlingTree;III[J)I"⟩
abbrev cL_put : ByteArray := method_4_code
def yL_put : MethodName := ⟨RL, "put", "(LKindlingTree;II[J)I"⟩
abbrev cL_setSide : ByteArray := method_5_code
def yL_setSide : MethodName := ⟨RL, "setSide", "(LKindlingTree;I[J)I"⟩
abbrev cL_play : ByteArray := method_6_code
def yL_play : MethodName := ⟨RL, "play", "(LKindlingTree;I[J)I"⟩
abbrev cL_back : ByteArray := method_7_code
def yL_back : MethodName := ⟨RL, "back", "(LKindlingTree;[J)I"⟩
abbrev cL_weigh : ByteArray := method_8_code
def yL_weigh : MethodName := ⟨RL, "weigh", "(LKindlingTree;III[J)I"⟩
abbrev cL_setSlots : ByteArray := method_9_code
def yL_setSlots : MethodName := ⟨RL, "setSlots", "(LKindlingTree;I[J)I"⟩
abbrev cL_at : ByteArray := method_10_code
def yL_at : MethodName := ⟨RL, "at", "(LKindlingTree;I[J)I"⟩
abbrev cL_from : ByteArray := method_11_code
def yL_from : MethodName := ⟨RL, "from", "(LKindlingTree;I[J)I"⟩
abbrev cL_to : ByteArray := method_12_code
def yL_to : MethodName := ⟨RL, "to", "(LKindlingTree;I[J)I"⟩
abbrev cL_takes : ByteArray := method_13_code
def yL_takes : MethodName := ⟨RL, "takes", "(LKindlingTree;I[J)I"⟩
abbrev cL_ways : ByteArray := method_14_code
def yL_ways : MethodName := ⟨RL, "ways", "(LKindlingTree;I[J)I"⟩
abbrev cL_value : ByteArray := method_15_code
def yL_value : MethodName := ⟨RL, "value", "(LKindlingTree;I[J)I"⟩
abbrev cL_valueOf : ByteArray := method_16_code
def yL_valueOf : MethodName := ⟨RL, "valueOf", "(LKindlingTree;II[J)I"⟩
abbrev cL_search : ByteArray := method_17_code
def yL_search : MethodName := ⟨RL, "search", "(LKindlingTree;I[J)I"⟩
abbrev cL_ofSlot : ByteArray := method_18_code
def yL_ofSlot : MethodName := ⟨RL, "ofSlot", "(LKindlingTree;II[J)I"⟩
abbrev cL_teach : ByteArray := method_19_code
def yL_teach : MethodName := ⟨RL, "teach", "(LKindlingTree;II[J)I"⟩
abbrev cL_go : ByteArray := method_20_code
def yL_go : MethodName := ⟨RL, "go", "(LKindlingTree;I[J)I"⟩
abbrev cL_playOut : ByteArray := method_21_code
def yL_playOut : MethodName := ⟨RL, "playOut", "(LKindlingTree;II[J)I"⟩
abbrev cL_law : ByteArray := code
def yL_law : MethodName := ⟨RL, "law", "([I)Z"⟩
abbrev vwCl : List vw_C := [(RX0, TX0, 4), (RX1, TX1, 4), (RX2, TX2, 4), (RX3, TX3, 2), (RX4, TX4, 2), (RX5, TX5, 6), (RX6, TX6, 4), (RX7, TX7, 10), (RX8, TX8, 6), (RX9, TX9, 3), (RX10, TX10, 3), (RX11, TX11, 8), (RX12, TX12, 26)]
end
section
/-! numbers: an int, a long by its whole number -/
abbrev Fn : Type := Int → Int
abbrev Sg : Type := Nat → Int → Int
def iI (z : Int) : Int32 := Int32.ofInt z
def jI (z : Int) : Int64 := Int64.ofInt z
abbrev IR (z : Int) : Prop := -2147483648 ≤ z ∧ z ≤ 2147483647
abbrev JR (z : Int) : Prop := -9223372036854775808 ≤ z ∧ z ≤ 9223372036854775807
theorem iI_toInt {z : Int} (h : IR z) : (iI z).toInt = z := by
  obtain ⟨h1, h2⟩ := h
  unfold iI
  rw [Int32.toInt_ofInt]
  apply Int.bmod_eq_of_le <;> (first | omega | (simp [Int32.size]; omega))
theorem jI_toInt {z : Int} (h : JR z) : (jI z).toInt = z := by
  obtain ⟨h1, h2⟩ := h
  unfold jI
  rw [Int64.toInt_ofInt]
  apply Int.bmod_eq_of_le <;> (first | omega | (simp [Int64.size]; omega))
theorem iI_lt {a b : Int} (ha : IR a) (hb : IR b) : iI a < iI b ↔ a < b := by rw [Int32.lt_iff_toInt_lt, iI_toInt ha, iI_toInt hb]
theorem iI_le {a b : Int} (ha : IR a) (hb : IR b) : iI a ≤ iI b ↔ a ≤ b := by rw [Int32.le_iff_toInt_le, iI_toInt ha, iI_toInt hb]
theorem iI_eq {a b : Int} (ha : IR a) (hb : IR b) : iI a = iI b ↔ a = b := ⟨fun h => by rw [← iI_toInt ha, ← iI_toInt hb, h], fun h => by rw [h]⟩
theorem jI_lt {a b : Int} (ha : JR a) (hb : JR b) : jI a < jI b ↔ a < b := by rw [Int64.lt_iff_toInt_lt, jI_toInt ha, jI_toInt hb]
theorem jI_le {a b : Int} (ha : JR a) (hb : JR b) : jI a ≤ jI b ↔ a ≤ b := by rw [Int64.le_iff_toInt_le, jI_toInt ha, jI_toInt hb]
theorem jI_eq {a b : Int} (ha : JR a) (hb : JR b) : jI a = jI b ↔ a = b := ⟨fun h => by rw [← jI_toInt ha, ← jI_toInt hb, h], fun h => by rw [h]⟩
theorem iI_add (a b : Int) : iI a + iI b = iI (a + b) := (Int32.ofInt_add a b).symm
theorem iI_sub (a b : Int) : iI a - iI b = iI (a - b) := (Int32.ofInt_sub a b).symm
theorem iI_mul (a b : Int) : iI a * iI b = iI (a * b) := (Int32.ofInt_mul a b).symm
theorem iI_neg (a : Int) : - iI a = iI (- a) := (Int32.ofInt_neg a).symm
theorem jI_add (a b : Int) : jI a + jI b = jI (a + b) := (Int64.ofInt_add a b).symm
theorem jI_mul (a b : Int) : jI a * jI b = jI (a * b) := (Int64.ofInt_mul a b).symm
theorem iI_div {a b : Int} (ha : IR a) (hb : IR b) (h0 : 0 ≤ a) : iI a / iI b = iI (a.tdiv b) := by
  apply Int32.toInt_inj.mp
  rw [Int32.toInt_div, iI_toInt ha, iI_toInt hb]
  have h : IR (a.tdiv b) := by
    obtain ⟨h1, h2⟩ := ha
    have e := Int.natAbs_tdiv a b
    have e2 := Nat.div_le_self a.natAbs b.natAbs
    have e3 : (a.tdiv b).natAbs ≤ a.natAbs := by rw [Int.natAbs_tdiv]; exact e2
    constructor <;> omega
  rw [iI_toInt h]
  obtain ⟨h1, h2⟩ := h
  apply Int.bmod_eq_of_le <;> (first | omega | (simp [Int32.size]; omega))
theorem iI_rem {a b : Int} (ha : IR a) (hb : IR b) (h0 : 0 ≤ a) : iI a - iI a / iI b * iI b = iI (a.tmod b) := by
  rw [iI_div ha hb h0, iI_mul, iI_sub]
  congr 1
  have := Int.tmod_add_mul_tdiv a b
  have h2 : a.tdiv b * b = b * a.tdiv b := Int.mul_comm _ _
  omega
theorem iI_clamp {z : Int} (h : IR z) : (iI z).toNatClampNeg = z.toNat := by
  show (iI z).toInt.toNat = z.toNat
  rw [iI_toInt h]
theorem iI_in {z : Int} {n : Nat} (h0 : 0 ≤ z) (h1 : z < n) (hn : (n : Int) ≤ 2147483647) : vp_in (iI z) n := by
  rw [vp_in_iff, iI_toInt ⟨by omega, by omega⟩]
  exact ⟨h0, h1⟩
theorem iI_j {z : Int} (h : IR z) : (iI z).toInt64 = jI z := by
  apply Int64.toInt_inj.mp
  rw [Int32.toInt_toInt64, iI_toInt h]
  obtain ⟨h1, h2⟩ := h
  rw [jI_toInt ⟨by omega, by omega⟩]
theorem jI_i (z : Int) : (jI z).toInt32 = iI z := by
  apply Int32.toBitVec_inj.mp
  show (BitVec.signExtend 32 (BitVec.ofInt 64 z)) = BitVec.ofInt 32 z
  rw [BitVec.signExtend_eq_setWidth_of_le _ (by decide)]
  apply BitVec.eq_of_toNat_eq
  simp [BitVec.toNat_ofInt]
  omega
theorem lg_cmp_j {a b : Int} (ha : JR a) (hb : JR b) : lg_cmp (jI a) (jI b) = iI (if b < a then 1 else if a = b then 0 else -1) := by
  unfold lg_cmp
  simp only [gt_iff_lt, jI_lt hb ha, jI_eq ha hb]
  by_cases h : b < a
  · simp only [h, if_true]; rfl
  · by_cases h2 : a = b
    · simp only [h, h2, if_true, if_false]; first | rfl | (split <;> first | rfl | omega)
    · simp only [h, h2, if_false]; rfl
def fI (f : Fn) : Nat → Int32 := fun j => iI (f (j : Int))
def fJ (f : Fn) : Nat → Int64 := fun j => jI (f (j : Int))
def ups (f : Fn) (i v : Int) : Fn := fun j => if j = i then v else f j
def upr (σ : Sg) (r : Nat) (f : Fn) : Sg := fun q => if q = r then f else σ q
theorem ups_eq (f : Fn) (i v : Int) : ups f i v i = v := if_pos rfl
theorem ups_ne (f : Fn) {i j : Int} (v : Int) (h : j ≠ i) : ups f i v j = f j := if_neg h
theorem upr_eq (σ : Sg) (r : Nat) (f : Fn) : upr σ r f r = f := if_pos rfl
theorem upr_ne (σ : Sg) {r q : Nat} (f : Fn) (h : q ≠ r) : upr σ r f q = σ q := if_neg h
theorem upr_upr (σ : Sg) (r : Nat) (f g : Fn) : upr (upr σ r f) r g = upr σ r g := by
  funext q
  unfold upr
  by_cases h : q = r <;> simp [h]
theorem ups_ups (f : Fn) (i v w : Int) : ups (ups f i v) i w = ups f i w := by
  funext q
  unfold ups
  by_cases h : q = i <;> simp [h]
theorem ups_self (f : Fn) (i : Int) : ups f i (f i) = f := by
  funext q
  unfold ups
  by_cases h : q = i <;> simp [h]
theorem upr_self (σ : Sg) (r : Nat) : upr σ r (σ r) = σ := by
  funext q
  unfold upr
  by_cases h : q = r <;> simp [h]
theorem fI_ups (f : Fn) {z : Int} (v : Int) (h : IR z) (h0 : 0 ≤ z) : upd (fI f) (iI z).toNatClampNeg (iI v) = fI (ups f z v) := by
  rw [iI_clamp h]
  funext j
  unfold upd fI ups
  by_cases e : j = z.toNat
  · rw [if_pos e, if_pos (by omega)]
  · rw [if_neg e, if_neg (by omega)]
theorem fJ_ups (f : Fn) {z : Int} (v : Int) (h : IR z) (h0 : 0 ≤ z) : vp_updL (fJ f) (iI z).toNatClampNeg (jI v) = fJ (ups f z v) := by
  rw [iI_clamp h]
  funext j
  unfold vp_updL fJ ups
  by_cases e : j = z.toNat
  · rw [if_pos e, if_pos (by omega)]
  · rw [if_neg e, if_neg (by omega)]
theorem fI_at (f : Fn) {z : Int} (h : IR z) (h0 : 0 ≤ z) : fI f (iI z).toNatClampNeg = iI (f z) := by
  rw [iI_clamp h]
  show iI (f ((z.toNat : Nat) : Int)) = _
  rw [Int.toNat_of_nonneg h0]
theorem fJ_at (f : Fn) {z : Int} (h : IR z) (h0 : 0 ≤ z) : fJ f (iI z).toNatClampNeg = jI (f z) := by
  rw [iI_clamp h]
  show jI (f ((z.toNat : Nat) : Int)) = _
  rw [Int.toNat_of_nonneg h0]
theorem nar_b {v : Int} (h : v = 0 ∨ v = 1) : vp_nar .boolean (iI v) = iI v := by
  rcases h with rfl | rfl <;> rfl
theorem nar_z {v : Int} (h : v = 0 ∨ v = 1) : narrow .boolean (.int (iI v)) = .int (iI v) := by
  rcases h with rfl | rfl <;> rfl
end
section
/-! the world: cells by number (0..80 the class, 100..232 the reference, 240 the law's row), registers by number (σ r i: element i of row r) -/
def fxX (ad : Nat → Nat) (G : Nat → Nat) (σ : Sg) : List va_E := [
  .inr (11, [.ref (ad 1), .ref (ad 26), .ref (ad 21), .ref (ad 3), .ref (ad 4), .ref (ad 10), .ref (ad 13), .ref (ad 17)]),
  .inr (0, [.ref (ad 2), .int (iI (σ 2 0)), .int (iI (σ 3 0)), .int (iI (σ 4 0))]),
  .inl (G 0, 25, .inl (fI (σ 1))),
  .inr (2, [.int (iI (σ 5 0)), .int (iI (σ 6 0)), .int (iI (σ 7 0)), .int (iI (σ 8 0))]),
  .inr (8, [.ref (ad 5), .ref (ad 6), .ref (ad 7), .ref (ad 8), .ref (ad 9), .int (iI (σ 9 0))]),
  .inl (G 1, 64, .inr (.inl (fJ (σ 10)))),
  .inl (G 0, 64, .inl (fI (σ 11))),
  .inl (G 0, 64, .inl (fI (σ 12))),
  .inl (G 0, 64, .inl (fI (σ 13))),
  .inl (G 0, 64, .inl (fI (σ 14))),
  .inr (10, [.ref (ad 1), .ref (ad 24), .ref (ad 11)]),
  .inr (6, [.ref (ad 1), .ref (ad 3), .ref (ad 24), .int (iI (σ 15 0))]),
  .inr (6, [.ref (ad 1), .ref (ad 3), .ref (ad 24), .int (iI (σ 16 0))]),
  .inr (7, [.ref (ad 1), .ref (ad 24), .ref (ad 4), .ref (ad 12), .ref (ad 14), .int (iI (σ 19 0)), .int (iI (σ 20 0)), .int (iI (σ 21 0)), .int (iI (σ 22 0)), .int (iI (σ 23 0))]),
  .inr (3, [.ref (ad 15), .ref (ad 16)]),
  .inl (G 0, 5, .inl (fI (σ 17))),
  .inl (G 0, 5, .inl (fI (σ 18))),
  .inr (1, [.ref (ad 18), .ref (ad 19), .ref (ad 20), .int (iI (σ 27 0))]),
  .inl (G 1, 30, .inr (.inl (fJ (σ 24)))),
  .inl (G 0, 30, .inl (fI (σ 25))),
  .inl (G 0, 30, .inl (fI (σ 26))),
  .inr (9, [.ref (ad 22), .ref (ad 23), .int (iI (σ 30 0))]),
  .inl (G 0, 40, .inl (fI (σ 28))),
  .inl (G 0, 40, .inl (fI (σ 29))),
  .inr (4, [.ref (ad 25), .ref (ad 76)]),
  .inl (G 3, 9, .inr (.inr (.inr (.inr (fun j => some (ad (26 + 5 * (j + 1))))))))]
def fxM (ad : Nat → Nat) (G : Nat → Nat) (σ : Sg) : List va_E := [
  .inr (12, [.int (iI (σ 232 0)), .int (iI (σ 202 0)), .int (iI (σ 203 0)), .ref (ad 101), .ref (ad 102), .int (iI (σ 230 0)), .int (iI (σ 205 0)), .int (iI (σ 206 0)), .int (iI (σ 207 0)), .int (iI (σ 208 0)), .ref (ad 103), .int (iI (σ 209 0)), .ref (ad 116), .ref (ad 117), .ref (ad 182), .ref (ad 195), .int (iI (σ 221 0)), .int (iI (σ 222 0)), .int (iI (σ 223 0)), .int (iI (σ 220 0)), .int (iI (σ 219 0)), .int (iI (σ 231 0)), .int (iI (σ 227 0)), .ref (ad 201), .ref (ad 202), .long (jI (σ 233 0))]),
  .inl (G 0, (σ 202 0 * σ 203 0 + 1).toNat, .inl (fun j => iI (if (j : Int) = σ 202 0 * σ 203 0 then σ 204 0 else σ 201 j))),
  .inl (G 0, 80, .inl (fun j => iI (if j % 2 = 0 then σ 228 ((j / 2 : Nat) : Int) else σ 229 ((j / 2 : Nat) : Int)))),
  .inl (G 4, 12, .inr (.inr (.inr (.inr (fun j => some (ad (104 + j)))))))]
def cxl (ad : Nat → Nat) (G : Nat → Nat) (σ : Sg) (j i : Nat) : va_E := match i with
  | 0 => .inr (5, [.ref (ad (26 + 5 * j + 1)), .ref (ad (26 + 5 * j + 2)), .ref (ad (26 + 5 * j + 3)), .ref (ad (26 + 5 * j + 4)), .int (iI (σ (40 + 6 * j + 4) 0)), .int (iI (σ (40 + 6 * j + 5) 0))])
  | 1 => .inl (G 0, 18, .inl (fI (σ (40 + 6 * j))))
  | 2 => .inl (G 2, 18, .inl (fI (σ (40 + 6 * j + 1))))
  | 3 => .inl (G 0, 18, .inl (fI (σ (40 + 6 * j + 2))))
  | _ => .inl (G 2, 18, .inl (fI (σ (40 + 6 * j + 3))))
def rowF (σ : Sg) (b n : Nat) (i : Int) : Nat → Int32 := fun j => iI (if j < n then σ (b + j) i else 0)
theorem rowF_dep {σ σ1 : Sg} {b n : Nat} {i : Int} (h : ∀ j, j < n → σ1 (b + j) i = σ (b + j) i) : rowF σ1 b n i = rowF σ b n i := by
  funext j
  unfold rowF
  by_cases e : j < n
  · rw [if_pos e, if_pos e, h j e]
  · rw [if_neg e, if_neg e]
def cell (ad : Nat → Nat) (G : Nat → Nat) (σ : Sg) (k : Nat) : va_E :=
  if k < 26 then (fxX ad G σ).getD k (.inl (G 0, 0, .inl (fun _ => 0)))
  else if k < 81 then cxl ad G σ ((k - 26) / 5) ((k - 26) % 5)
  else if k < 104 then (fxM ad G σ).getD (k - 100) (.inl (G 0, 0, .inl (fun _ => 0)))
  else if k < 116 then .inl (G 0, 75, .inl (fI (σ (240 + (k - 104)))))
  else if k = 116 then .inl (G 1, 64, .inr (.inl (fJ (σ 210))))
  else if k = 117 then .inl (G 4, 64, .inr (.inr (.inr (.inr (fun j => some (ad (118 + j)))))))
  else if k < 182 then .inl (G 0, 4, .inl (rowF σ 211 4 ((k - 118 : Nat) : Int)))
  else if k = 182 then .inl (G 4, 12, .inr (.inr (.inr (.inr (fun j => some (ad (183 + j)))))))
  else if k < 195 then .inl (G 0, 75, .inl (fI (σ (255 + (k - 183)))))
  else if k = 195 then .inl (G 4, 5, .inr (.inr (.inr (.inr (fun j => some (ad (196 + j)))))))
  else if k < 201 then .inl (G 0, 2, .inl (rowF σ 217 2 ((k - 196 : Nat) : Int)))
  else if k = 201 then .inl (G 1, 30, .inr (.inl (fJ (σ 224))))
  else if k = 202 then .inl (G 4, 30, .inr (.inr (.inr (.inr (fun j => some (ad (203 + j)))))))
  else if k < 233 then .inl (G 0, 2, .inl (rowF σ 225 2 ((k - 203 : Nat) : Int)))
  else .inl (G 1, 1, .inr (.inl (fJ (σ 270))))
theorem cx_0 (ad : Nat → Nat) (G : Nat → Nat) (σ : Sg) : cell ad G σ 0 = .inr (11, [.ref (ad 1), .ref (ad 26), .ref (ad 21), .ref (ad 3), .ref (ad 4), .ref (ad 10), .ref (ad 13), .ref (ad 17)]) := rfl
theorem cx_1 (ad : Nat → Nat) (G : Nat → Nat) (σ : Sg) : cell ad G σ 1 = .inr (0, [.ref (ad 2), .int (iI (σ 2 0)), .int (iI (σ 3 0)), .int (iI (σ 4 0))]) := rfl
theorem cx_2 (ad : Nat → Nat) (G : Nat → Nat) (σ : Sg) : cell ad G σ 2 = .inl (G 0, 25, .inl (fI (σ 1))) := rfl
theorem cx_3 (ad : Nat → Nat) (G : Nat → Nat) (σ : Sg) : cell ad G σ 3 = .inr (2, [.int (iI (σ 5 0)), .int (iI (σ 6 0)), .int (iI (σ 7 0)), .int (iI (σ 8 0))]) := rfl
theorem cx_4 (ad : Nat → Nat) (G : Nat → Nat) (σ : Sg) : cell ad G σ 4 = .inr (8, [.ref (ad 5), .ref (ad 6), .ref (ad 7), .ref (ad 8), .ref (ad 9), .int (iI (σ 9 0))]) := rfl
theorem cx_5 (ad : Nat → Nat) (G : Nat → Nat) (σ : Sg) : cell ad G σ 5 = .inl (G 1, 64, .inr (.inl (fJ (σ 10)))) := rfl
theorem cx_6 (ad : Nat → Nat) (G : Nat → Nat) (σ : Sg) : cell ad G σ 6 = .inl (G 0, 64, .inl (fI (σ 11))) := rfl
theorem cx_7 (ad : Nat → Nat) (G : Nat → Nat) (σ : Sg) : cell ad G σ 7 = .inl (G 0, 64, .inl (fI (σ 12))) := rfl
theorem cx_8 (ad : Nat → Nat) (G : Nat → Nat) (σ : Sg) : cell ad G σ 8 = .inl (G 0, 64, .inl (fI (σ 13))) := rfl
theorem cx_9 (ad : Nat → Nat) (G : Nat → Nat) (σ : Sg) : cell ad G σ 9 = .inl (G 0, 64, .inl (fI (σ 14))) := rfl
theorem cx_10 (ad : Nat → Nat) (G : Nat → Nat) (σ : Sg) : cell ad G σ 10 = .inr (10, [.ref (ad 1), .ref (ad 24), .ref (ad 11)]) := rfl
theorem cx_11 (ad : Nat → Nat) (G : Nat → Nat) (σ : Sg) : cell ad G σ 11 = .inr (6, [.ref (ad 1), .ref (ad 3), .ref (ad 24), .int (iI (σ 15 0))]) := rfl
theorem cx_12 (ad : Nat → Nat) (G : Nat → Nat) (σ : Sg) : cell ad G σ 12 = .inr (6, [.ref (ad 1), .ref (ad 3), .ref (ad 24), .int (iI (σ 16 0))]) := rfl
theorem cx_13 (ad : Nat → Nat) (G : Nat → Nat) (σ : Sg) : cell ad G σ 13 = .inr (7, [.ref (ad 1), .ref (ad 24), .ref (ad 4), .ref (ad 12), .ref (ad 14), .int (iI (σ 19 0)), .int (iI (σ 20 0)), .int (iI (σ 21 0)), .int (iI (σ 22 0)), .int (iI (σ 23 0))]) := rfl
theorem cx_14 (ad : Nat → Nat) (G : Nat → Nat) (σ : Sg) : cell ad G σ 14 = .inr (3, [.ref (ad 15), .ref (ad 16)]) := rfl
theorem cx_15 (ad : Nat → Nat) (G : Nat → Nat) (σ : Sg) : cell ad G σ 15 = .inl (G 0, 5, .inl (fI (σ 17))) := rfl
theorem cx_16 (ad : Nat → Nat) (G : Nat → Nat) (σ : Sg) : cell ad G σ 16 = .inl (G 0, 5, .inl (fI (σ 18))) := rfl
theorem cx_17 (ad : Nat → Nat) (G : Nat → Nat) (σ : Sg) : cell ad G σ 17 = .inr (1, [.ref (ad 18), .ref (ad 19), .ref (ad 20), .int (iI (σ 27 0))]) := rfl
theorem cx_18 (ad : Nat → Nat) (G : Nat → Nat) (σ : Sg) : cell ad G σ 18 = .inl (G 1, 30, .inr (.inl (fJ (σ 24)))) := rfl
theorem cx_19 (ad : Nat → Nat) (G : Nat → Nat) (σ : Sg) : cell ad G σ 19 = .inl (G 0, 30, .inl (fI (σ 25))) := rfl
theorem cx_20 (ad : Nat → Nat) (G : Nat → Nat) (σ : Sg) : cell ad G σ 20 = .inl (G 0, 30, .inl (fI (σ 26))) := rfl
theorem cx_21 (ad : Nat → Nat) (G : Nat → Nat) (σ : Sg) : cell ad G σ 21 = .inr (9, [.ref (ad 22), .ref (ad 23), .int (iI (σ 30 0))]) := rfl
theorem cx_22 (ad : Nat → Nat) (G : Nat → Nat) (σ : Sg) : cell ad G σ 22 = .inl (G 0, 40, .inl (fI (σ 28))) := rfl
theorem cx_23 (ad : Nat → Nat) (G : Nat → Nat) (σ : Sg) : cell ad G σ 23 = .inl (G 0, 40, .inl (fI (σ 29))) := rfl
theorem cx_24 (ad : Nat → Nat) (G : Nat → Nat) (σ : Sg) : cell ad G σ 24 = .inr (4, [.ref (ad 25), .ref (ad 76)]) := rfl
theorem cx_25 (ad : Nat → Nat) (G : Nat → Nat) (σ : Sg) : cell ad G σ 25 = .inl (G 3, 9, .inr (.inr (.inr (.inr (fun j => some (ad (26 + 5 * (j + 1)))))))) := rfl
theorem cx_100 (ad : Nat → Nat) (G : Nat → Nat) (σ : Sg) : cell ad G σ 100 = .inr (12, [.int (iI (σ 232 0)), .int (iI (σ 202 0)), .int (iI (σ 203 0)), .ref (ad 101), .ref (ad 102), .int (iI (σ 230 0)), .int (iI (σ 205 0)), .int (iI (σ 206 0)), .int (iI (σ 207 0)), .int (iI (σ 208 0)), .ref (ad 103), .int (iI (σ 209 0)), .ref (ad 116), .ref (ad 117), .ref (ad 182), .ref (ad 195), .int (iI (σ 221 0)), .int (iI (σ 222 0)), .int (iI (σ 223 0)), .int (iI (σ 220 0)), .int (iI (σ 219 0)), .int (iI (σ 231 0)), .int (iI (σ 227 0)), .ref (ad 201), .ref (ad 202), .long (jI (σ 233 0))]) := rfl
theorem cx_101 (ad : Nat → Nat) (G : Nat → Nat) (σ : Sg) : cell ad G σ 101 = .inl (G 0, (σ 202 0 * σ 203 0 + 1).toNat, .inl (fun j => iI (if (j : Int) = σ 202 0 * σ 203 0 then σ 204 0 else σ 201 j))) := rfl
theorem cx_102 (ad : Nat → Nat) (G : Nat → Nat) (σ : Sg) : cell ad G σ 102 = .inl (G 0, 80, .inl (fun j => iI (if j % 2 = 0 then σ 228 ((j / 2 : Nat) : Int) else σ 229 ((j / 2 : Nat) : Int)))) := rfl
theorem cx_103 (ad : Nat → Nat) (G : Nat → Nat) (σ : Sg) : cell ad G σ 103 = .inl (G 4, 12, .inr (.inr (.inr (.inr (fun j => some (ad (104 + j))))))) := rfl
theorem cx_116 (ad : Nat → Nat) (G : Nat → Nat) (σ : Sg) : cell ad G σ 116 = .inl (G 1, 64, .inr (.inl (fJ (σ 210)))) := rfl
theorem cx_117 (ad : Nat → Nat) (G : Nat → Nat) (σ : Sg) : cell ad G σ 117 = .inl (G 4, 64, .inr (.inr (.inr (.inr (fun j => some (ad (118 + j))))))) := rfl
theorem cx_182 (ad : Nat → Nat) (G : Nat → Nat) (σ : Sg) : cell ad G σ 182 = .inl (G 4, 12, .inr (.inr (.inr (.inr (fun j => some (ad (183 + j))))))) := rfl
theorem cx_195 (ad : Nat → Nat) (G : Nat → Nat) (σ : Sg) : cell ad G σ 195 = .inl (G 4, 5, .inr (.inr (.inr (.inr (fun j => some (ad (196 + j))))))) := rfl
theorem cx_201 (ad : Nat → Nat) (G : Nat → Nat) (σ : Sg) : cell ad G σ 201 = .inl (G 1, 30, .inr (.inl (fJ (σ 224)))) := rfl
theorem cx_202 (ad : Nat → Nat) (G : Nat → Nat) (σ : Sg) : cell ad G σ 202 = .inl (G 4, 30, .inr (.inr (.inr (.inr (fun j => some (ad (203 + j))))))) := rfl
theorem cx_240 (ad : Nat → Nat) (G : Nat → Nat) (σ : Sg) : cell ad G σ 240 = .inl (G 1, 1, .inr (.inl (fJ (σ 270)))) := rfl
theorem cx_lo (ad : Nat → Nat) (G : Nat → Nat) (σ : Sg) {j : Nat} (hj : j < 11) : cell ad G σ (26 + 5 * j) = .inr (5, [.ref (ad (26 + 5 * j + 1)), .ref (ad (26 + 5 * j + 2)), .ref (ad (26 + 5 * j + 3)), .ref (ad (26 + 5 * j + 4)), .int (iI (σ (40 + 6 * j + 4) 0)), .int (iI (σ (40 + 6 * j + 5) 0))]) := by
  unfold cell
  rw [if_neg (by omega), if_pos (by omega), show (26 + 5 * j - 26) / 5 = j by omega, show (26 + 5 * j - 26) % 5 = 0 by omega]
  rfl
theorem cx_lm (ad : Nat → Nat) (G : Nat → Nat) (σ : Sg) {j : Nat} (hj : j < 11) : cell ad G σ (26 + 5 * j + 1) = .inl (G 0, 18, .inl (fI (σ (40 + 6 * j)))) := by
  unfold cell
  rw [if_neg (by omega), if_pos (by omega), show (26 + 5 * j + 1 - 26) / 5 = j by omega, show (26 + 5 * j + 1 - 26) % 5 = 1 by omega]
  rfl
theorem cx_lt (ad : Nat → Nat) (G : Nat → Nat) (σ : Sg) {j : Nat} (hj : j < 11) : cell ad G σ (26 + 5 * j + 2) = .inl (G 2, 18, .inl (fI (σ (40 + 6 * j + 1)))) := by
  unfold cell
  rw [if_neg (by omega), if_pos (by omega), show (26 + 5 * j + 2 - 26) / 5 = j by omega, show (26 + 5 * j + 2 - 26) % 5 = 2 by omega]
  rfl
theorem cx_lr (ad : Nat → Nat) (G : Nat → Nat) (σ : Sg) {j : Nat} (hj : j < 11) : cell ad G σ (26 + 5 * j + 3) = .inl (G 0, 18, .inl (fI (σ (40 + 6 * j + 2)))) := by
  unfold cell
  rw [if_neg (by omega), if_pos (by omega), show (26 + 5 * j + 3 - 26) / 5 = j by omega, show (26 + 5 * j + 3 - 26) % 5 = 3 by omega]
  rfl
theorem cx_lp (ad : Nat → Nat) (G : Nat → Nat) (σ : Sg) {j : Nat} (hj : j < 11) : cell ad G σ (26 + 5 * j + 4) = .inl (G 2, 18, .inl (fI (σ (40 + 6 * j + 3)))) := by
  unfold cell
  rw [if_neg (by omega), if_pos (by omega), show (26 + 5 * j + 4 - 26) / 5 = j by omega, show (26 + 5 * j + 4 - 26) % 5 = 4 by omega]
  rfl
theorem cx_li (ad : Nat → Nat) (G : Nat → Nat) (σ : Sg) {i : Nat} (hi : i < 12) : cell ad G σ (104 + i) = .inl (G 0, 75, .inl (fI (σ (240 + i)))) := by
  unfold cell
  rw [if_neg (by omega), if_neg (by omega), if_neg (by omega), if_pos (by omega), show 104 + i - 104 = i by omega]
theorem cx_ts (ad : Nat → Nat) (G : Nat → Nat) (σ : Sg) {i : Nat} (hi : i < 64) : cell ad G σ (118 + i) = .inl (G 0, 4, .inl (rowF σ 211 4 (i : Int))) := by
  unfold cell
  rw [if_neg (by omega), if_neg (by omega), if_neg (by omega), if_neg (by omega), if_neg (by omega), if_neg (by omega), if_pos (by omega), show 118 + i - 118 = i by omega]
theorem cx_tr (ad : Nat → Nat) (G : Nat → Nat) (σ : Sg) {i : Nat} (hi : i < 12) : cell ad G σ (183 + i) = .inl (G 0, 75, .inl (fI (σ (255 + i)))) := by
  unfold cell
  rw [if_neg (by omega), if_neg (by omega), if_neg (by omega), if_neg (by omega), if_neg (by omega), if_neg (by omega), if_neg (by omega), if_neg (by omega), if_pos (by omega), show 183 + i - 183 = i by omega]
theorem cx_ki (ad : Nat → Nat) (G : Nat → Nat) (σ : Sg) {i : Nat} (hi : i < 5) : cell ad G σ (196 + i) = .inl (G 0, 2, .inl (rowF σ 217 2 (i : Int))) := by
  unfold cell
  rw [if_neg (by omega), if_neg (by omega), if_neg (by omega), if_neg (by omega), if_neg (by omega), if_neg (by omega), if_neg (by omega), if_neg (by omega), if_neg (by omega), if_neg (by omega), if_pos (by omega), show 196 + i - 196 = i by omega]
theorem cx_pg (ad : Nat → Nat) (G : Nat → Nat) (σ : Sg) {i : Nat} (hi : i < 30) : cell ad G σ (203 + i) = .inl (G 0, 2, .inl (rowF σ 225 2 (i : Int))) := by
  unfold cell
  rw [if_neg (by omega), if_neg (by omega), if_neg (by omega), if_neg (by omega), if_neg (by omega), if_neg (by omega), if_neg (by omega), if_neg (by omega), if_neg (by omega), if_neg (by omega), if_neg (by omega), if_neg (by omega), if_neg (by omega), if_pos (by omega), show 203 + i - 203 = i by omega]
/-- which cell a register lies in -/
def own (r : Nat) : Nat := if r < 40 then ([999, 2, 1, 1, 1, 3, 3, 3, 3, 4, 5, 6, 7, 8, 9, 11, 12, 15, 16, 13, 13, 13, 13, 13, 18, 19, 20, 17, 22, 23, 21, 999, 999, 999, 999, 999, 999, 999, 999, 999] : List Nat).getD r 999 else if r < 106 then 26 + 5 * ((r - 40) / 6) + ([1, 2, 3, 4, 0, 0] : List Nat).getD ((r - 40) % 6) 0 else if r < 200 then 999 else if r < 240 then ([999, 101, 100, 100, 101, 100, 100, 100, 100, 100, 116, 999, 999, 999, 999, 999, 999, 999, 999, 100, 100, 100, 100, 100, 201, 999, 999, 100, 102, 102, 100, 100, 100, 100, 999, 999, 999, 999, 999, 999] : List Nat).getD (r - 200) 999 else if r < 252 then 104 + (r - 240) else if r < 255 then 999 else if r < 267 then 183 + (r - 255) else if r = 270 then 240 else 999
/-- cell k speaks of the whole register r -/
def dp (k r : Nat) : Prop := own r = k ∨ (k = 101 ∧ (r = 202 ∨ r = 203))
/-- cell k speaks of the place i of register r -/
def dq (k r i : Nat) : Prop := (k = 118 + i ∧ 211 ≤ r ∧ r < 215) ∨ (k = 196 + i ∧ 217 ≤ r ∧ r < 219) ∨ (k = 203 + i ∧ 225 ≤ r ∧ r < 227)
theorem own_list {j i : Nat} (hj : j < 11) (hi : i < 6) : own (40 + 6 * j + i) = 26 + 5 * j + ([1, 2, 3, 4, 0, 0] : List Nat).getD i 0 := by
  unfold own
  rw [if_neg (by omega), if_pos (by omega), show (40 + 6 * j + i - 40) / 6 = j by omega, show (40 + 6 * j + i - 40) % 6 = i by omega]
theorem own_li {i : Nat} (hi : i < 12) : own (240 + i) = 104 + i := by
  unfold own
  rw [if_neg (by omega), if_neg (by omega), if_neg (by omega), if_neg (by omega), if_pos (by omega), show 240 + i - 240 = i by omega]
theorem own_tr {i : Nat} (hi : i < 12) : own (255 + i) = 183 + i := by
  unfold own
  rw [if_neg (by omega), if_neg (by omega), if_neg (by omega), if_neg (by omega), if_neg (by omega), if_neg (by omega), if_pos (by omega), show 255 + i - 255 = i by omega]
theorem cd_0 (ad : Nat → Nat) (G : Nat → Nat) {σ σ1 : Sg} (h : ∀ r, dp 0 r → σ1 r = σ r) : cell ad G σ1 0 = cell ad G σ 0 := by
  rw [cx_0, cx_0]
theorem cd_1 (ad : Nat → Nat) (G : Nat → Nat) {σ σ1 : Sg} (h : ∀ r, dp 1 r → σ1 r = σ r) : cell ad G σ1 1 = cell ad G σ 1 := by
  rw [cx_1, cx_1]
  rw [h 2 (Or.inl rfl), h 3 (Or.inl rfl), h 4 (Or.inl rfl)]
theorem cd_2 (ad : Nat → Nat) (G : Nat → Nat) {σ σ1 : Sg} (h : ∀ r, dp 2 r → σ1 r = σ r) : cell ad G σ1 2 = cell ad G σ 2 := by
  rw [cx_2, cx_2]
  rw [h 1 (Or.inl rfl)]
theorem cd_3 (ad : Nat → Nat) (G : Nat → Nat) {σ σ1 : Sg} (h : ∀ r, dp 3 r → σ1 r = σ r) : cell ad G σ1 3 = cell ad G σ 3 := by
  rw [cx_3, cx_3]
  rw [h 5 (Or.inl rfl), h 6 (Or.inl rfl), h 7 (Or.inl rfl), h 8 (Or.inl rfl)]
theorem cd_4 (ad : Nat → Nat) (G : Nat → Nat) {σ σ1 : Sg} (h : ∀ r, dp 4 r → σ1 r = σ r) : cell ad G σ1 4 = cell ad G σ 4 := by
  rw [cx_4, cx_4]
  rw [h 9 (Or.inl rfl)]
theorem cd_5 (ad : Nat → Nat) (G : Nat → Nat) {σ σ1 : Sg} (h : ∀ r, dp 5 r → σ1 r = σ r) : cell ad G σ1 5 = cell ad G σ 5 := by
  rw [cx_5, cx_5]
  rw [h 10 (Or.inl rfl)]
theorem cd_6 (ad : Nat → Nat) (G : Nat → Nat) {σ σ1 : Sg} (h : ∀ r, dp 6 r → σ1 r = σ r) : cell ad G σ1 6 = cell ad G σ 6 := by
  rw [cx_6, cx_6]
  rw [h 11 (Or.inl rfl)]
theorem cd_7 (ad : Nat → Nat) (G : Nat → Nat) {σ σ1 : Sg} (h : ∀ r, dp 7 r → σ1 r = σ r) : cell ad G σ1 7 = cell ad G σ 7 := by
  rw [cx_7, cx_7]
  rw [h 12 (Or.inl rfl)]
theorem cd_8 (ad : Nat → Nat) (G : Nat → Nat) {σ σ1 : Sg} (h : ∀ r, dp 8 r → σ1 r = σ r) : cell ad G σ1 8 = cell ad G σ 8 := by
  rw [cx_8, cx_8]
  rw [h 13 (Or.inl rfl)]
theorem cd_9 (ad : Nat → Nat) (G : Nat → Nat) {σ σ1 : Sg} (h : ∀ r, dp 9 r → σ1 r = σ r) : cell ad G σ1 9 = cell ad G σ 9 := by
  rw [cx_9, cx_9]
  rw [h 14 (Or.inl rfl)]
theorem cd_10 (ad : Nat → Nat) (G : Nat → Nat) {σ σ1 : Sg} (h : ∀ r, dp 10 r → σ1 r = σ r) : cell ad G σ1 10 = cell ad G σ 10 := by
  rw [cx_10, cx_10]
theorem cd_11 (ad : Nat → Nat) (G : Nat → Nat) {σ σ1 : Sg} (h : ∀ r, dp 11 r → σ1 r = σ r) : cell ad G σ1 11 = cell ad G σ 11 := by
  rw [cx_11, cx_11]
  rw [h 15 (Or.inl rfl)]
theorem cd_12 (ad : Nat → Nat) (G : Nat → Nat) {σ σ1 : Sg} (h : ∀ r, dp 12 r → σ1 r = σ r) : cell ad G σ1 12 = cell ad G σ 12 := by
  rw [cx_12, cx_12]
  rw [h 16 (Or.inl rfl)]
theorem cd_13 (ad : Nat → Nat) (G : Nat → Nat) {σ σ1 : Sg} (h : ∀ r, dp 13 r → σ1 r = σ r) : cell ad G σ1 13 = cell ad G σ 13 := by
  rw [cx_13, cx_13]
  rw [h 19 (Or.inl rfl), h 20 (Or.inl rfl), h 21 (Or.inl rfl), h 22 (Or.inl rfl), h 23 (Or.inl rfl)]
theorem cd_14 (ad : Nat → Nat) (G : Nat → Nat) {σ σ1 : Sg} (h : ∀ r, dp 14 r → σ1 r = σ r) : cell ad G σ1 14 = cell ad G σ 14 := by
  rw [cx_14, cx_14]
theorem cd_15 (ad : Nat → Nat) (G : Nat → Nat) {σ σ1 : Sg} (h : ∀ r, dp 15 r → σ1 r = σ r) : cell ad G σ1 15 = cell ad G σ 15 := by
  rw [cx_15, cx_15]
  rw [h 17 (Or.inl rfl)]
theorem cd_16 (ad : Nat → Nat) (G : Nat → Nat) {σ σ1 : Sg} (h : ∀ r, dp 16 r → σ1 r = σ r) : cell ad G σ1 16 = cell ad G σ 16 := by
  rw [cx_16, cx_16]
  rw [h 18 (Or.inl rfl)]
theorem cd_17 (ad : Nat → Nat) (G : Nat → Nat) {σ σ1 : Sg} (h : ∀ r, dp 17 r → σ1 r = σ r) : cell ad G σ1 17 = cell ad G σ 17 := by
  rw [cx_17, cx_17]
  rw [h 27 (Or.inl rfl)]
theorem cd_18 (ad : Nat → Nat) (G : Nat → Nat) {σ σ1 : Sg} (h : ∀ r, dp 18 r → σ1 r = σ r) : cell ad G σ1 18 = cell ad G σ 18 := by
  rw [cx_18, cx_18]
  rw [h 24 (Or.inl rfl)]
theorem cd_19 (ad : Nat → Nat) (G : Nat → Nat) {σ σ1 : Sg} (h : ∀ r, dp 19 r → σ1 r = σ r) : cell ad G σ1 19 = cell ad G σ 19 := by
  rw [cx_19, cx_19]
  rw [h 25 (Or.inl rfl)]
theorem cd_20 (ad : Nat → Nat) (G : Nat → Nat) {σ σ1 : Sg} (h : ∀ r, dp 20 r → σ1 r = σ r) : cell ad G σ1 20 = cell ad G σ 20 := by
  rw [cx_20, cx_20]
  rw [h 26 (Or.inl rfl)]
theorem cd_21 (ad : Nat → Nat) (G : Nat → Nat) {σ σ1 : Sg} (h : ∀ r, dp 21 r → σ1 r = σ r) : cell ad G σ1 21 = cell ad G σ 21 := by
  rw [cx_21, cx_21]
  rw [h 30 (Or.inl rfl)]
theorem cd_22 (ad : Nat → Nat) (G : Nat → Nat) {σ σ1 : Sg} (h : ∀ r, dp 22 r → σ1 r = σ r) : cell ad G σ1 22 = cell ad G σ 22 := by
  rw [cx_22, cx_22]
  rw [h 28 (Or.inl rfl)]
theorem cd_23 (ad : Nat → Nat) (G : Nat → Nat) {σ σ1 : Sg} (h : ∀ r, dp 23 r → σ1 r = σ r) : cell ad G σ1 23 = cell ad G σ 23 := by
  rw [cx_23, cx_23]
  rw [h 29 (Or.inl rfl)]
theorem cd_24 (ad : Nat → Nat) (G : Nat → Nat) {σ σ1 : Sg} (h : ∀ r, dp 24 r → σ1 r = σ r) : cell ad G σ1 24 = cell ad G σ 24 := by
  rw [cx_24, cx_24]
theorem cd_25 (ad : Nat → Nat) (G : Nat → Nat) {σ σ1 : Sg} (h : ∀ r, dp 25 r → σ1 r = σ r) : cell ad G σ1 25 = cell ad G σ 25 := by
  rw [cx_25, cx_25]
theorem cd_100 (ad : Nat → Nat) (G : Nat → Nat) {σ σ1 : Sg} (h : ∀ r, dp 100 r → σ1 r = σ r) : cell ad G σ1 100 = cell ad G σ 100 := by
  rw [cx_100, cx_100]
  simp only [h 202 (Or.inl rfl), h 203 (Or.inl rfl), h 205 (Or.inl rfl), h 206 (Or.inl rfl), h 207 (Or.inl rfl), h 208 (Or.inl rfl), h 209 (Or.inl rfl), h 219 (Or.inl rfl), h 220 (Or.inl rfl), h 221 (Or.inl rfl), h 222 (Or.inl rfl), h 223 (Or.inl rfl), h 227 (Or.inl rfl), h 230 (Or.inl rfl), h 231 (Or.inl rfl), h 232 (Or.inl rfl), h 233 (Or.inl rfl)]
theorem cd_101 (ad : Nat → Nat) (G : Nat → Nat) {σ σ1 : Sg} (h : ∀ r, dp 101 r → σ1 r = σ r) : cell ad G σ1 101 = cell ad G σ 101 := by
  rw [cx_101, cx_101]
  simp only [h 201 (Or.inl rfl), h 202 (Or.inr ⟨rfl, by decide⟩), h 203 (Or.inr ⟨rfl, by decide⟩), h 204 (Or.inl rfl)]
theorem cd_102 (ad : Nat → Nat) (G : Nat → Nat) {σ σ1 : Sg} (h : ∀ r, dp 102 r → σ1 r = σ r) : cell ad G σ1 102 = cell ad G σ 102 := by
  rw [cx_102, cx_102]
  simp only [h 228 (Or.inl rfl), h 229 (Or.inl rfl)]
theorem cd_103 (ad : Nat → Nat) (G : Nat → Nat) {σ σ1 : Sg} (h : ∀ r, dp 103 r → σ1 r = σ r) : cell ad G σ1 103 = cell ad G σ 103 := by
  rw [cx_103, cx_103]
theorem cd_116 (ad : Nat → Nat) (G : Nat → Nat) {σ σ1 : Sg} (h : ∀ r, dp 116 r → σ1 r = σ r) : cell ad G σ1 116 = cell ad G σ 116 := by
  rw [cx_116, cx_116]
  rw [h 210 (Or.inl rfl)]
theorem cd_117 (ad : Nat → Nat) (G : Nat → Nat) {σ σ1 : Sg} (h : ∀ r, dp 117 r → σ1 r = σ r) : cell ad G σ1 117 = cell ad G σ 117 := by
  rw [cx_117, cx_117]
theorem cd_182 (ad : Nat → Nat) (G : Nat → Nat) {σ σ1 : Sg} (h : ∀ r, dp 182 r → σ1 r = σ r) : cell ad G σ1 182 = cell ad G σ 182 := by
  rw [cx_182, cx_182]
theorem cd_195 (ad : Nat → Nat) (G : Nat → Nat) {σ σ1 : Sg} (h : ∀ r, dp 195 r → σ1 r = σ r) : cell ad G σ1 195 = cell ad G σ 195 := by
  rw [cx_195, cx_195]
theorem cd_201 (ad : Nat → Nat) (G : Nat → Nat) {σ σ1 : Sg} (h : ∀ r, dp 201 r → σ1 r = σ r) : cell ad G σ1 201 = cell ad G σ 201 := by
  rw [cx_201, cx_201]
  rw [h 224 (Or.inl rfl)]
theorem cd_202 (ad : Nat → Nat) (G : Nat → Nat) {σ σ1 : Sg} (h : ∀ r, dp 202 r → σ1 r = σ r) : cell ad G σ1 202 = cell ad G σ 202 := by
  rw [cx_202, cx_202]
theorem cell_dep (ad : Nat → Nat) (G : Nat → Nat) {σ σ1 : Sg} (k : Nat) (h : ∀ r, dp k r → σ1 r = σ r) (h2 : ∀ r i : Nat, dq k r i → σ1 r (i : Int) = σ r (i : Int)) (hk : k < 81 ∨ (100 ≤ k ∧ k < 233) ∨ k = 240) : cell ad G σ1 k = cell ad G σ k := by
  by_cases g1 : k < 26
  · match k, g1 with
    | 0, _ => exact cd_0 ad G h
    | 1, _ => exact cd_1 ad G h
    | 2, _ => exact cd_2 ad G h
    | 3, _ => exact cd_3 ad G h
    | 4, _ => exact cd_4 ad G h
    | 5, _ => exact cd_5 ad G h
    | 6, _ => exact cd_6 ad G h
    | 7, _ => exact cd_7 ad G h
    | 8, _ => exact cd_8 ad G h
    | 9, _ => exact cd_9 ad G h
    | 10, _ => exact cd_10 ad G h
    | 11, _ => exact cd_11 ad G h
    | 12, _ => exact cd_12 ad G h
    | 13, _ => exact cd_13 ad G h
    | 14, _ => exact cd_14 ad G h
    | 15, _ => exact cd_15 ad G h
    | 16, _ => exact cd_16 ad G h
    | 17, _ => exact cd_17 ad G h
    | 18, _ => exact cd_18 ad G h
    | 19, _ => exact cd_19 ad G h
    | 20, _ => exact cd_20 ad G h
    | 21, _ => exact cd_21 ad G h
    | 22, _ => exact cd_22 ad G h
    | 23, _ => exact cd_23 ad G h
    | 24, _ => exact cd_24 ad G h
    | 25, _ => exact cd_25 ad G h
    | n + 26, q => exact absurd q (by omega)
  by_cases g2 : k < 81
  · obtain ⟨j, i, hj, hi, rfl⟩ : ∃ j i, j < 11 ∧ i < 5 ∧ k = 26 + 5 * j + i := ⟨(k - 26) / 5, (k - 26) % 5, by omega, by omega, by omega⟩
    have ho := fun i hi => @own_list j i hj hi
    match i, hi with
    | 0, _ => rw [Nat.add_zero, cx_lo _ _ _ hj, cx_lo _ _ _ hj, h (40 + 6 * j + 4) (Or.inl (ho 4 (by decide))), h (40 + 6 * j + 5) (Or.inl (ho 5 (by decide)))]
    | 1, _ => rw [cx_lm _ _ _ hj, cx_lm _ _ _ hj, h (40 + 6 * j) (Or.inl (ho 0 (by decide)))]
    | 2, _ => rw [cx_lt _ _ _ hj, cx_lt _ _ _ hj, h (40 + 6 * j + 1) (Or.inl (ho 1 (by decide)))]
    | 3, _ => rw [cx_lr _ _ _ hj, cx_lr _ _ _ hj, h (40 + 6 * j + 2) (Or.inl (ho 2 (by decide)))]
    | 4, _ => rw [cx_lp _ _ _ hj, cx_lp _ _ _ hj, h (40 + 6 * j + 3) (Or.inl (ho 3 (by decide)))]
  have g3 : 100 ≤ k := by omega
  by_cases g4 : k < 104
  · obtain ⟨i, rfl⟩ : ∃ i, k = 100 + i := ⟨k - 100, by omega⟩
    match i, g4 with
    | 0, _ => exact cd_100 ad G h
    | 1, _ => exact cd_101 ad G h
    | 2, _ => exact cd_102 ad G h
    | 3, _ => exact cd_103 ad G h
    | n + 4, q => exact absurd q (by omega)
  by_cases g5 : k < 116
  · obtain ⟨i, hi, rfl⟩ : ∃ i, i < 12 ∧ k = 104 + i := ⟨k - 104, by omega, by omega⟩
    rw [cx_li _ _ _ hi, cx_li _ _ _ hi, h _ (Or.inl (own_li hi))]
  by_cases g6 : k = 116
  · subst g6; exact cd_116 ad G h
  by_cases g7 : k = 117
  · subst g7; exact cd_117 ad G h
  by_cases g8 : k < 182
  · obtain ⟨i, hi, rfl⟩ : ∃ i, i < 64 ∧ k = 118 + i := ⟨k - 118, by omega, by omega⟩
    rw [cx_ts _ _ _ hi, cx_ts _ _ _ hi, rowF_dep (fun j hj => h2 (211 + j) i (Or.inl ⟨rfl, by omega, by omega⟩))]
  by_cases g9 : k = 182
  · subst g9; exact cd_182 ad G h
  by_cases g10 : k < 195
  · obtain ⟨i, hi, rfl⟩ : ∃ i, i < 12 ∧ k = 183 + i := ⟨k - 183, by omega, by omega⟩
    rw [cx_tr _ _ _ hi, cx_tr _ _ _ hi, h _ (Or.inl (own_tr hi))]
  by_cases g11 : k = 195
  · subst g11; exact cd_195 ad G h
  by_cases g12 : k < 201
  · obtain ⟨i, hi, rfl⟩ : ∃ i, i < 5 ∧ k = 196 + i := ⟨k - 196, by omega, by omega⟩
    rw [cx_ki _ _ _ hi, cx_ki _ _ _ hi, rowF_dep (fun j hj => h2 (217 + j) i (Or.inr (Or.inl ⟨rfl, by omega, by omega⟩)))]
  by_cases g13 : k = 201
  · subst g13; exact cd_201 ad G h
  by_cases g14 : k = 202
  · subst g14; exact cd_202 ad G h
  by_cases g15 : k < 233
  · obtain ⟨i, hi, rfl⟩ : ∃ i, i < 30 ∧ k = 203 + i := ⟨k - 203, by omega, by omega⟩
    rw [cx_pg _ _ _ hi, cx_pg _ _ _ hi, rowF_dep (fun j hj => h2 (225 + j) i (Or.inr (Or.inr ⟨rfl, by omega, by omega⟩)))]
  have g16 : k = 240 := by omega
  subst g16
  rw [cx_240, cx_240, h 270 (Or.inl rfl)]
theorem oth_1 (ad : Nat → Nat) (G : Nat → Nat) (σ : Sg) {r k : Nat} (f : Fn) (ho : own r = k) (h : r ≠ 202 ∧ r ≠ 203 ∧ ¬ (211 ≤ r ∧ r < 215) ∧ ¬ (217 ≤ r ∧ r < 219) ∧ ¬ (225 ≤ r ∧ r < 227)) : ∀ j, (j < 81 ∨ (100 ≤ j ∧ j < 233) ∨ j = 240) → j ≠ k → cell ad G (upr σ r f) j = cell ad G σ j := by
  intro j hj hne
  refine cell_dep ad G j (fun q hq => upr_ne σ f ?_) (fun q i hq => ?_) hj
  · intro e
    subst e
    rcases hq with hq | ⟨-, hq⟩
    · exact hne (hq.symm.trans ho)
    · omega
  · rw [upr_ne]
    intro e
    subst e
    rcases hq with ⟨-, a, b⟩ | ⟨-, a, b⟩ | ⟨-, a, b⟩ <;> omega
theorem oth_2 (ad : Nat → Nat) (G : Nat → Nat) (σ : Sg) {r i b : Nat} (v : Int) (hb : (b = 118 ∧ 211 ≤ r ∧ r < 215 ∧ i < 64) ∨ (b = 196 ∧ 217 ≤ r ∧ r < 219 ∧ i < 5) ∨ (b = 203 ∧ 225 ≤ r ∧ r < 227 ∧ i < 30)) : ∀ j, (j < 81 ∨ (100 ≤ j ∧ j < 233) ∨ j = 240) → j ≠ b + i → cell ad G (upr σ r (ups (σ r) i v)) j = cell ad G σ j := by
  intro j hj hne
  have ho : own r = 999 := by
    rcases hb with ⟨-, h1, h2, -⟩ | ⟨-, h1, h2, -⟩ | ⟨-, h1, h2, -⟩
    · obtain rfl | rfl | rfl | rfl : r = 211 ∨ r = 212 ∨ r = 213 ∨ r = 214 := by omega
      all_goals rfl
    · obtain rfl | rfl : r = 217 ∨ r = 218 := by omega
      all_goals rfl
    · obtain rfl | rfl : r = 225 ∨ r = 226 := by omega
      all_goals rfl
  refine cell_dep ad G j (fun q hq => upr_ne σ _ ?_) (fun q n hq => ?_) hj
  · intro e
    subst e
    rcases hq with hq | ⟨-, hq⟩
    · omega
    · omega
  · by_cases e : q = r
    · subst e
      rw [upr_eq, ups_ne]
      intro e2
      have e3 : n = i := by omega
      subst e3
      unfold dq at hq
      omega
    · rw [upr_ne _ _ e]
end
section
/-- the tables' words that a callee may be told -/
def WA : List Cond := lw_tbl.filter goodWord
theorem wa_t (n : Nat) {w : Cond} (h : tables_1[n]? = some w) (hg : goodWord w = true) : w ∈ WA := List.mem_filter.mpr ⟨List.mem_append_right _ (List.mem_of_getElem? h), hg⟩
theorem wa_s (n : Nat) {q : MethodName × Nat} (h : lw_privs[n]? = some q) (hg : goodWord (.selects q.1.cls q.1 q.1) = true) : Cond.selects q.1.cls q.1 q.1 ∈ WA := List.mem_filter.mpr ⟨List.mem_append_left _ (List.mem_map.mpr ⟨q, List.mem_of_getElem? h, rfl⟩), hg⟩
def vld (k : Nat) : Prop := k < 81 ∨ (100 ≤ k ∧ k < 233) ∨ k = 240
def WG (ad : Nat → Nat) (G : Nat → Nat) (ids : List Nat) (σ : Sg) : va_W := ids.map (fun k => (ad k, cell ad G σ k))
theorem wg_get (ad : Nat → Nat) (G : Nat → Nat) {ids : List Nat} (σ : Sg) {q k : Nat} (h : ids[q]? = some k) : (WG ad G ids σ)[q]? = some (ad k, cell ad G σ k) := by
  unfold WG
  rw [List.getElem?_map, h]
  rfl
theorem wg_of (ad : Nat → Nat) (G : Nat → Nat) {ids : List Nat} (σ : Sg) {q : Nat} {x : Nat × va_E} (h : (WG ad G ids σ)[q]? = some x) : ∃ k, ids[q]? = some k ∧ x = (ad k, cell ad G σ k) := by
  unfold WG at h
  rw [List.getElem?_map] at h
  cases hq : ids[q]? with
  | none => rw [hq] at h; cases h
  | some k => rw [hq] at h; cases h; exact ⟨k, rfl, rfl⟩
theorem wg_set {ad : Nat → Nat} {G : Nat → Nat} {ids : List Nat} {σ σ1 : Sg} {A : Nat → Prop} {q k : Nat} (hq : ids[q]? = some k) (hD : va_D A (WG ad G ids σ)) (hf : ∀ j, j ∈ ids → j ≠ k → cell ad G σ1 j = cell ad G σ j) : (WG ad G ids σ).set q (ad k, cell ad G σ1 k) = WG ad G ids σ1 := by
  apply List.ext_getElem?
  intro n
  by_cases e : n = q
  · subst e
    rw [List.getElem?_set_self (List.getElem?_eq_some_iff.mp (wg_get ad G σ hq)).1, wg_get ad G σ1 hq]
  · rw [List.getElem?_set_ne (Ne.symm e)]
    cases hn : ids[n]? with
    | none => unfold WG; rw [List.getElem?_map, List.getElem?_map, hn]; rfl
    | some j =>
      rw [wg_get ad G σ hn, wg_get ad G σ1 hn, hf j (List.mem_of_getElem? hn)]
      intro ejk
      subst ejk
      exact e (hD.1 n q _ _ (wg_get ad G σ hn) (wg_get ad G σ hq) rfl)
theorem wd_any {ad : Nat → Nat} {G : Nat → Nat} {ids : List Nat} {σ : Sg} (σ1 : Sg) {A : Nat → Prop} (h : va_D A (WG ad G ids σ)) : va_D A (WG ad G ids σ1) := by
  refine ⟨fun i j p q hi hj e => ?_, fun i p hi => ?_⟩
  · obtain ⟨k1, h1, rfl⟩ := wg_of _ _ _ hi
    obtain ⟨k2, h2, rfl⟩ := wg_of _ _ _ hj
    exact h.1 i j _ _ (wg_get ad G σ h1) (wg_get ad G σ h2) e
  · obtain ⟨k1, h1, rfl⟩ := wg_of _ _ _ hi
    exact h.2 i (ad k1, cell ad G σ k1) (wg_get ad G σ h1)
def AN (ad : Nat → Nat) (ids : List Nat) (sz : Nat) : Nat → Prop := fun q => (∃ k, k ∈ ids ∧ q = ad k) ∨ sz ≤ q
theorem an_A {ad : Nat → Nat} {G : Nat → Nat} {ids : List Nat} {σ : Sg} {sz : Nat} {q : Nat} : va_A (WG ad G ids σ) sz q ↔ AN ad ids sz q := by
  constructor
  · rintro (⟨k, e, h⟩ | h)
    · obtain ⟨j, h1, h2⟩ := wg_of _ _ _ h
      exact Or.inl ⟨j, List.mem_of_getElem? h1, (Prod.ext_iff.mp h2).1⟩
    · exact Or.inr h
  · rintro (⟨k, hk, rfl⟩ | h)
    · obtain ⟨i, hi⟩ := List.getElem?_of_mem hk
      exact Or.inl ⟨i, _, wg_get ad G σ hi⟩
    · exact Or.inr h
theorem wd_self {ad : Nat → Nat} {G : Nat → Nat} {ids : List Nat} {σ : Sg} {sz : Nat} {A : Nat → Prop} (h : va_D A (WG ad G ids σ)) : va_D (AN ad ids sz) (WG ad G ids σ) := ⟨h.1, fun _ _ hk => an_A.mp (va_A.in hk)⟩
abbrev tysX (G : Nat → Nat) : List (ClassId × FieldType) := [(G 0, .int), (G 1, .long), (G 2, .boolean), (G 3, .object "KindlingTree$MoveList"), (G 4, .array .int)]
/-- the calls of nest mates' private methods, as linked -/
def NWL : List Cond := [.methodLinkNest RX11 35 yX2_init "KindlingTree", .methodLinkNest RX11 226 yX10_countWays "KindlingTree", .methodLinkNest RX11 229 yX10_worth "KindlingTree", .methodLinkNest RX11 235 yX10_worthBehind "KindlingTree", .methodLinkNest RX0 37 yX11_fromOf "KindlingTree", .methodLinkNest RX0 41 yX11_toOf "KindlingTree", .methodLinkNest RX7 74 yX6_lookOn "KindlingTree", .methodLinkNest RX10 59 yX6_lookOn "KindlingTree"]
def NW (U : State) : Prop := ∀ w ∈ NWL, va_Nw w U
theorem NW_warm {s U : State} (hW : s.WarmedH U.vm) (h : NW s) : NW U := by
  intro w hw
  have h1 := h w hw
  simp only [NWL, List.mem_cons, List.not_mem_nil, or_false] at hw
  rcases hw with rfl | rfl | rfl | rfl | rfl | rfl | rfl | rfl <;> exact va_Nw.warmM hW h1
theorem NW_vm {s U : State} (hv : s.vm = U.vm) (h : NW s) : NW U := by
  intro w hw
  have h1 := h w hw
  simp only [NWL, List.mem_cons, List.not_mem_nil, or_false] at hw
  rcases hw with rfl | rfl | rfl | rfl | rfl | rfl | rfl | rfl <;> exact va_tabs rfl hv h1
def Cx (p : Program) (s : State) (m : MethodId) (meth : Method) (c : Code) (args : Array Value) (cc : ByteArray) (nL : Nat) (own : String) (D : va_G) (G : Nat → Nat) : Prop :=
  p.tables.exec = Jvm.exec ∧ c.code = cc ∧ c.maxLocals = nL ∧ s.vm.findClass own = some m.cls ∧ (∀ w ∈ WA, w.before args s = true) ∧ va_K D vwCl (tysX G) s ∧ NW s ∧ meth.locks = false
/-- the heap at a point of a method: the world with the registers σ; what isn't A is as at the start -/
def XI (D : va_G) (ad : Nat → Nat) (G : Nat → Nat) (ids : List Nat) (A : Nat → Prop) (H0 H : Heap) (locs : List Loc) (σ : Sg) : Prop :=
  va_P D vwCl (WG ad G ids σ) H ∧ va_D A (WG ad G ids σ) ∧ va_S A H0 H locs ∧ (∀ k, k ∈ ids → vld k)
section XR
variable {p : Program} {l : Launch} {e : Env} {R : Room} {s : State} {m : MethodId} {args : Array Value} {below : List Frame} {meth : Method} {c : Code} {H : Heap} {locs : List Loc} {cells slots : Nat} {Q : State → Prop}
variable {cc : ByteArray} {nL : Nat} {own : String} {D : va_G} {ad : Nat → Nat} {G : Nat → Nat} {ids : List Nat} {A : Nat → Prop} {H0 : Heap} {σ : Sg} {pc : Nat} {ls : Array Slot} {rest : List Value}
theorem x_get (C : Cx p s m meth c args cc nL own D G) (hM : XI D ad G ids A H0 H locs σ) {k ci : Nat} (hk : k ∈ ids) {fs : List Value} {Rn : String} {T : u_T} {N : Nat} (hc : cell ad G σ k = .inr (ci, fs)) (hv : vwCl[ci]? = some (Rn, T, N)) (hin : ∀ w ∈ u_ws Rn T N, w ∈ WA) (f : Nat) (hf : f < N) {idx : Nat} (hw : Cond.fieldLink own idx (T f).1 (T f).2.1 (T f).2.2.1 ∈ WA) {v : Value} (hfv : fs[f]? = some v)
    (hdg : decode cc pc = .ok (.getfield idx, 3)) (kk : W p l e R s m args below meth c H locs cells slots Q (F0 m (pc + 3) ls (v :: rest))) : W p l e R s m args below meth c H locs cells slots Q (F0 m pc ls (.ref (ad k) :: rest)) := by
  obtain ⟨hx, hb, hml, hown, hts, hK, hN, hlk⟩ := C
  obtain ⟨q, hq⟩ := List.getElem?_of_mem hk
  have h1 := wg_get ad G σ hq
  rw [hc] at h1
  exact va_get hx hb hts hin hown hK hM.1 q h1 hv f hf (hts _ hw) (fun _ h9 => h9) hfv hdg kk
theorem x_put (C : Cx p s m meth c args cc nL own D G) (hM : XI D ad G ids A H0 H locs σ) {k ci : Nat} (hk : k ∈ ids) {fs : List Value} {Rn : String} {T : u_T} {N : Nat} (hc : cell ad G σ k = .inr (ci, fs)) (hv : vwCl[ci]? = some (Rn, T, N)) (hin : ∀ w ∈ u_ws Rn T N, w ∈ WA) (ty0 : Nat → FieldType) (hty : ∀ k, k < N → parseFieldDescriptor (T k).2.2.1 = some (ty0 k)) (hnm : ∀ a, a < N → ∀ b, b < N → a ≠ b → (T a).2.1 ≠ (T b).2.1) (f : Nat) (hf : f < N) {idx : Nat} (hw : Cond.fieldLink own idx (T f).1 (T f).2.1 (T f).2.2.1 ∈ WA) (hfin : (T f).2.2.2 = false) {v : Value} {ty : FieldType} (hd : parseFieldDescriptor (T f).2.2.1 = some ty) (hn : narrow ty v = v) (hfit : fits ty v = true) (hl : f < fs.length)
    (σ1 : Sg) (hnew : cell ad G σ1 k = .inr (ci, fs.set f v)) (hoth : ∀ j, vld j → j ≠ k → cell ad G σ1 j = cell ad G σ j)
    (hdg : decode cc pc = .ok (.putfield idx, 3)) (kk : ∀ (H1 : Heap) (locs1 : List Loc), XI D ad G ids A H0 H1 locs1 σ1 → W p l e R s m args below meth c H1 locs1 cells slots Q (F0 m (pc + 3) ls rest)) : W p l e R s m args below meth c H locs cells slots Q (F0 m pc ls (v :: .ref (ad k) :: rest)) := by
  obtain ⟨hx, hb, hml, hown, hts, hK, hN, hlk⟩ := C
  obtain ⟨q, hq⟩ := List.getElem?_of_mem hk
  have h1 := wg_get ad G σ hq
  rw [hc] at h1
  refine va_put hx hb hts hin ty0 hty hnm hown hK hM.1 hM.2.1 hM.2.2.1 q h1 hv f hf (hts _ hw) (fun _ h9 => h9) hfin hd hn hfit hl hdg (fun H1 locs1 hP hD hS => ?_)
  rw [← hnew, wg_set hq hM.2.1 (fun j hj hne => hoth j (hM.2.2.2 j hj) hne)] at hP hD
  exact kk H1 locs1 ⟨hP, hD, hS, hM.2.2.2⟩
/-- an element of a row of ints -/
theorem x_ald (C : Cx p s m meth c args cc nL own D G) (hM : XI D ad G ids A H0 H locs σ) {k : Nat} (hk : k ∈ ids) {n : Nat} {f : Nat → Int32} (hc : cell ad G σ k = .inl (G 0, n, .inl f)) {z : Int} (h0 : 0 ≤ z) (h1 : z < n) (hn : (n : Int) ≤ 2147483647) {v : Int} (hv : f z.toNat = iI v) (hdg : decode cc pc = .ok (.iaload, 1))
    (kk : W p l e R s m args below meth c H locs cells slots Q (F0 m (pc + 1) ls (.int (iI v) :: rest))) : W p l e R s m args below meth c H locs cells slots Q (F0 m pc ls (.int (iI z) :: .ref (ad k) :: rest)) := by
  obtain ⟨hx, hb, hml, hown, hts, hK, hN, hlk⟩ := C
  obtain ⟨q, hq⟩ := List.getElem?_of_mem hk
  have h2 := wg_get ad G σ hq
  rw [hc] at h2
  refine va_iald hx hb hK hM.1 q 0 h2 rfl (iI_in h0 h1 hn) hdg ?_
  rw [iI_clamp ⟨by omega, by omega⟩, hv]
  exact kk
theorem x_zald (C : Cx p s m meth c args cc nL own D G) (hM : XI D ad G ids A H0 H locs σ) {k : Nat} (hk : k ∈ ids) {n : Nat} {f : Nat → Int32} (hc : cell ad G σ k = .inl (G 2, n, .inl f)) {z : Int} (h0 : 0 ≤ z) (h1 : z < n) (hn : (n : Int) ≤ 2147483647) {v : Int} (hv : f z.toNat = iI v) (hdg : decode cc pc = .ok (.baload, 1))
    (kk : W p l e R s m args below meth c H locs cells slots Q (F0 m (pc + 1) ls (.int (iI v) :: rest))) : W p l e R s m args below meth c H locs cells slots Q (F0 m pc ls (.int (iI z) :: .ref (ad k) :: rest)) := by
  obtain ⟨hx, hb, hml, hown, hts, hK, hN, hlk⟩ := C
  obtain ⟨q, hq⟩ := List.getElem?_of_mem hk
  have h2 := wg_get ad G σ hq
  rw [hc] at h2
  refine va_zald hx hb hK hM.1 q 2 h2 rfl (iI_in h0 h1 hn) hdg ?_
  rw [iI_clamp ⟨by omega, by omega⟩, hv]
  exact kk
theorem x_lald (C : Cx p s m meth c args cc nL own D G) (hM : XI D ad G ids A H0 H locs σ) {k : Nat} (hk : k ∈ ids) {n : Nat} {f : Nat → Int64} (hc : cell ad G σ k = .inl (G 1, n, .inr (.inl f))) {z : Int} (h0 : 0 ≤ z) (h1 : z < n) (hn : (n : Int) ≤ 2147483647) {v : Int} (hv : f z.toNat = jI v) (hdg : decode cc pc = .ok (.laload, 1))
    (kk : W p l e R s m args below meth c H locs cells slots Q (F0 m (pc + 1) ls (.long (jI v) :: rest))) : W p l e R s m args below meth c H locs cells slots Q (F0 m pc ls (.int (iI z) :: .ref (ad k) :: rest)) := by
  obtain ⟨hx, hb, hml, hown, hts, hK, hN, hlk⟩ := C
  obtain ⟨q, hq⟩ := List.getElem?_of_mem hk
  have h2 := wg_get ad G σ hq
  rw [hc] at h2
  refine va_lald hx hb hK hM.1 q 1 h2 rfl (iI_in h0 h1 hn) hdg ?_
  rw [iI_clamp ⟨by omega, by omega⟩, hv]
  exact kk
theorem x_ast (C : Cx p s m meth c args cc nL own D G) (hM : XI D ad G ids A H0 H locs σ) {k : Nat} (hk : k ∈ ids) {n : Nat} {f : Nat → Int32} (hc : cell ad G σ k = .inl (G 0, n, .inl f)) {z v : Int} (h0 : 0 ≤ z) (h1 : z < n) (hn : (n : Int) ≤ 2147483647)
    (σ1 : Sg) (hnew : cell ad G σ1 k = .inl (G 0, n, .inl (upd f (iI z).toNatClampNeg (iI v)))) (hoth : ∀ j, vld j → j ≠ k → cell ad G σ1 j = cell ad G σ j) (hdg : decode cc pc = .ok (.iastore, 1))
    (kk : ∀ (H1 : Heap) (locs1 : List Loc), XI D ad G ids A H0 H1 locs1 σ1 → W p l e R s m args below meth c H1 locs1 cells slots Q (F0 m (pc + 1) ls rest)) : W p l e R s m args below meth c H locs cells slots Q (F0 m pc ls (.int (iI v) :: .int (iI z) :: .ref (ad k) :: rest)) := by
  obtain ⟨hx, hb, hml, hown, hts, hK, hN, hlk⟩ := C
  obtain ⟨q, hq⟩ := List.getElem?_of_mem hk
  have h2 := wg_get ad G σ hq
  rw [hc] at h2
  refine va_iast hx hb hK hM.1 hM.2.1 hM.2.2.1 q 0 h2 rfl (iI_in h0 h1 hn) hdg (fun H1 locs1 hP hD hS => ?_)
  rw [← hnew, wg_set hq hM.2.1 (fun j hj hne => hoth j (hM.2.2.2 j hj) hne)] at hP hD
  exact kk H1 locs1 ⟨hP, hD, hS, hM.2.2.2⟩
theorem x_zast (C : Cx p s m meth c args cc nL own D G) (hM : XI D ad G ids A H0 H locs σ) {k : Nat} (hk : k ∈ ids) {n : Nat} {f : Nat → Int32} (hc : cell ad G σ k = .inl (G 2, n, .inl f)) {z v : Int} (h0 : 0 ≤ z) (h1 : z < n) (hn : (n : Int) ≤ 2147483647) (hz : v = 0 ∨ v = 1)
    (σ1 : Sg) (hnew : cell ad G σ1 k = .inl (G 2, n, .inl (upd f (iI z).toNatClampNeg (iI v)))) (hoth : ∀ j, vld j → j ≠ k → cell ad G σ1 j = cell ad G σ j) (hdg : decode cc pc = .ok (.bastore, 1))
    (kk : ∀ (H1 : Heap) (locs1 : List Loc), XI D ad G ids A H0 H1 locs1 σ1 → W p l e R s m args below meth c H1 locs1 cells slots Q (F0 m (pc + 1) ls rest)) : W p l e R s m args below meth c H locs cells slots Q (F0 m pc ls (.int (iI v) :: .int (iI z) :: .ref (ad k) :: rest)) := by
  obtain ⟨hx, hb, hml, hown, hts, hK, hN, hlk⟩ := C
  obtain ⟨q, hq⟩ := List.getElem?_of_mem hk
  have h2 := wg_get ad G σ hq
  rw [hc] at h2
  refine va_zast hx hb hK hM.1 hM.2.1 hM.2.2.1 q 2 h2 rfl (iI_in h0 h1 hn) hdg (fun H1 locs1 hP hD hS => ?_)
  rw [nar_b hz, ← hnew, wg_set hq hM.2.1 (fun j hj hne => hoth j (hM.2.2.2 j hj) hne)] at hP hD
  exact kk H1 locs1 ⟨hP, hD, hS, hM.2.2.2⟩
theorem x_last (C : Cx p s m meth c args cc nL own D G) (hM : XI D ad G ids A H0 H locs σ) {k : Nat} (hk : k ∈ ids) {n : Nat} {f : Nat → Int64} (hc : cell ad G σ k = .inl (G 1, n, .inr (.inl f))) {z v : Int} (h0 : 0 ≤ z) (h1 : z < n) (hn : (n : Int) ≤ 2147483647)
    (σ1 : Sg) (hnew : cell ad G σ1 k = .inl (G 1, n, .inr (.inl (vp_updL f (iI z).toNatClampNeg (jI v))))) (hoth : ∀ j, vld j → j ≠ k → cell ad G σ1 j = cell ad G σ j) (hdg : decode cc pc = .ok (.lastore, 1))
    (kk : ∀ (H1 : Heap) (locs1 : List Loc), XI D ad G ids A H0 H1 locs1 σ1 → W p l e R s m args below meth c H1 locs1 cells slots Q (F0 m (pc + 1) ls rest)) : W p l e R s m args below meth c H locs cells slots Q (F0 m pc ls (.long (jI v) :: .int (iI z) :: .ref (ad k) :: rest)) := by
  obtain ⟨hx, hb, hml, hown, hts, hK, hN, hlk⟩ := C
  obtain ⟨q, hq⟩ := List.getElem?_of_mem hk
  have h2 := wg_get ad G σ hq
  rw [hc] at h2
  refine va_last hx hb hK hM.1 hM.2.1 hM.2.2.1 q 1 h2 rfl (iI_in h0 h1 hn) hdg (fun H1 locs1 hP hD hS => ?_)
  rw [← hnew, wg_set hq hM.2.1 (fun j hj hne => hoth j (hM.2.2.2 j hj) hne)] at hP hD
  exact kk H1 locs1 ⟨hP, hD, hS, hM.2.2.2⟩
theorem x_alen (C : Cx p s m meth c args cc nL own D G) (hM : XI D ad G ids A H0 H locs σ) {k : Nat} (hk : k ∈ ids) {g : Nat} (hg : g < 5) {x : vp_A} (hc : cell ad G σ k = .inl (G g, x)) {n : Nat} (hn : x.1 = n) (hdg : decode cc pc = .ok (.arraylength, 1))
    (kk : W p l e R s m args below meth c H locs cells slots Q (F0 m (pc + 1) ls (.int (iI n) :: rest))) : W p l e R s m args below meth c H locs cells slots Q (F0 m pc ls (.ref (ad k) :: rest)) := by
  obtain ⟨hx, hb, hml, hown, hts, hK, hN, hlk⟩ := C
  obtain ⟨q, hq⟩ := List.getElem?_of_mem hk
  have h2 := wg_get ad G σ hq
  rw [hc] at h2
  have e1 : Int32.ofNat x.1 = iI (n : Int) := by rw [hn]; unfold iI; exact (Int32.ofInt_eq_ofNat).symm
  match g, hg with
  | 0, _ => exact va_alen hx hb hK hM.1 q 0 h2 rfl e1 hdg kk
  | 1, _ => exact va_alen hx hb hK hM.1 q 1 h2 rfl e1 hdg kk
  | 2, _ => exact va_alen hx hb hK hM.1 q 2 h2 rfl e1 hdg kk
  | 3, _ => exact va_alen hx hb hK hM.1 q 3 h2 rfl e1 hdg kk
  | 4, _ => exact va_alen hx hb hK hM.1 q 4 h2 rfl e1 hdg kk
/-- a place of a row of references: a row of the world -/
theorem x_aald (C : Cx p s m meth c args cc nL own D G) (hM : XI D ad G ids A H0 H locs σ) {k : Nat} (hk : k ∈ ids) {g : Nat} (hg : g = 3 ∨ g = 4) {n : Nat} {f : Nat → Option Nat} (hc : cell ad G σ k = .inl (G g, n, .inr (.inr (.inr (.inr f))))) {z : Int} (h0 : 0 ≤ z) (h1 : z < n) (hn : (n : Int) ≤ 2147483647) {v : Nat} (hv : f z.toNat = some v) (hdg : decode cc pc = .ok (.aaload, 1))
    (kk : W p l e R s m args below meth c H locs cells slots Q (F0 m (pc + 1) ls (.ref v :: rest))) : W p l e R s m args below meth c H locs cells slots Q (F0 m pc ls (.int (iI z) :: .ref (ad k) :: rest)) := by
  obtain ⟨hx, hb, hml, hown, hts, hK, hN, hlk⟩ := C
  obtain ⟨q, hq⟩ := List.getElem?_of_mem hk
  have h2 := wg_get ad G σ hq
  rw [hc] at h2
  have hlt : (iI z).toNatClampNeg < n := by rw [iI_clamp ⟨by omega, by omega⟩]; omega
  have e1 : f (iI z).toNatClampNeg = some v := by rw [iI_clamp ⟨by omega, by omega⟩, hv]
  rcases hg with rfl | rfl
  · refine va_aldq hx hb hK hM.1 q 3 h2 rfl (iI_in h0 h1 hn) hdg ?_
    rw [e1]
    exact kk
  · exact W.aald (v := .ref v) (ty := .array .int) hx hb (hM.1 q _ h2) ((hK.2 4 _ rfl).1 n (fun j => va_rf (f j))) rfl (fun q => by cases q) (by show ¬ (iI z < 0 ∨ (arrV _ _ _).slots.size ≤ _); rw [arrV_size]; exact iI_in h0 h1 hn) (by show (arrV _ _ _).slots[_]? = _; rw [arrV_read _ _ hlt, e1]; rfl) rfl rfl hdg kk
end XR
end
section
/-! contracts over the world, entries, ends, calls -/
abbrev rmh (h : Nat) : Room := { frames := h, cells := 0, slots := 0, locals := 40 * h }
def PB (D : va_G) (ad : Nat → Nat) (G : Nat → Nat) (ids : List Nat) (σ : Sg) (sz : Nat) : State → Prop := fun U =>
  U.heap.size = sz ∧ va_P D vwCl (WG ad G ids σ) U.heap ∧ (va_K D vwCl (tysX G) U ∧ NW U) ∧ va_D (fun _ => True) (WG ad G ids σ) ∧ ∀ k, k ∈ ids → vld k
abbrev QI (D : va_G) (ad : Nat → Nat) (G : Nat → Nat) (ids : List Nat) (post : Int → Sg → Prop) (sz : Nat) : Array Value → State → Outcome → State → Prop :=
  va_Qi (fun r (u : Int × Sg) => r = iI u.1 ∧ post u.1 u.2) (fun u t => va_P D vwCl (WG ad G ids u.2) t.heap) (AN ad ids sz)
abbrev QL (D : va_G) (ad : Nat → Nat) (G : Nat → Nat) (ids : List Nat) (post : Int → Sg → Prop) (sz : Nat) : Array Value → State → Outcome → State → Prop :=
  va_Ql (fun r (u : Int × Sg) => r = jI u.1 ∧ post u.1 u.2) (fun u t => va_P D vwCl (WG ad G ids u.2) t.heap) (AN ad ids sz)
abbrev QV (D : va_G) (ad : Nat → Nat) (G : Nat → Nat) (ids : List Nat) (post : Sg → Prop) (sz : Nat) : Array Value → State → Outcome → State → Prop :=
  va_Qv post (fun u t => va_P D vwCl (WG ad G ids u) t.heap) (AN ad ids sz)
abbrev QR (D : va_G) (ad : Nat → Nat) (G : Nat → Nat) (ids : List Nat) (post : Nat → Sg → Prop) (sz : Nat) : Array Value → State → Outcome → State → Prop :=
  va_Qr (fun (u : Nat × Sg) => post u.1 u.2) (fun u a t => a = ad u.1 ∧ va_P D vwCl (WG ad G ids u.2) t.heap) (AN ad ids sz)
/-- method y, from the registers σ, at the height h (frames that it may open) -/
def MET (l : Launch) (y : MethodName) (b : ByteArray) (nL : Nat) (ret : Option FieldType) (h : Nat) (av : List Value) (D : va_G) (ad : Nat → Nat) (G : Nat → Nat) (ids : List Nat) (σ : Sg) (Qc : Nat → Array Value → State → Outcome → State → Prop) : Prop :=
  ∀ sz : Nat, Met l y (Cond.code y b nL ret :: WA) (rmh h) (va_Pc av (PB D ad G ids σ sz)) (Qc sz) 0 0 (AN ad ids sz)
theorem x_enter {l : Launch} {y : MethodName} {b : ByteArray} {nL : Nat} {ret : Option FieldType} {h : Nat} {av : List Value} {D : va_G} {ad : Nat → Nat} {G : Nat → Nat} {ids : List Nat} {σ : Sg} {Qc : Nat → Array Value → State → Outcome → State → Prop} (hy : plainName y.cls = true) (hlen : (lg_sl av).length ≤ nL)
    (body : ∀ (p : Program) (e : Env) (s : State) (m : MethodId) (args : Array Value) (below : List Frame) (meth : Method) (c : Code), Cx p s m meth c args b nL y.cls D G → meth.sig.returnType = ret → ∀ ls : Array Slot, lv_has ls nL (lv_args 0 av) → XI D ad G ids (AN ad ids s.heap.size) s.heap s.heap [] σ →
      W p l e (rmh h) s m args below meth c s.heap [] 0 0 (MQ below (Qc s.heap.size) args s 0 0 (AN ad ids s.heap.size)) (F0 m 0 ls [])) : MET l y b nL ret h av D ad G ids σ Qc := by
  intro sz
  refine Met.ofW (cc := b) (maxL := nL) (ret := ret) hy rfl ?_
  intro p e s m args below meth c s₁ B hml hv
  obtain ⟨rfl, hsz, hP, ⟨hK, hN⟩, hD, hV⟩ := hv
  have hts := atoms_spec (ws := Cond.code y b nL ret :: WA) B.pre
  subst hsz
  rw [lg_entry_eq]
  exact body p e s m _ below meth c ⟨B.exec, B.bytes, hml, findClass_of_methodNamed B.named, fun w hw => hts w (List.mem_cons_of_mem _ hw), hK, hN, B.notSynchronized⟩ B.returns _ (lv_entry av hlen) ⟨hP, wd_self hD, va_S.rf, hV⟩
section XE
variable {p : Program} {l : Launch} {e : Env} {R : Room} {s : State} {m : MethodId} {args : Array Value} {below : List Frame} {meth : Method} {c : Code} {H : Heap} {locs : List Loc} {cells slots : Nat} {Q : State → Prop}
variable {cc : ByteArray} {nL : Nat} {own : String} {D : va_G} {ad : Nat → Nat} {G : Nat → Nat} {ids : List Nat} {σ : Sg} {pc : Nat} {ls : Array Slot} {rest : List Value}
theorem x_iret (C : Cx p s m meth c args cc nL own D G) (hr : meth.sig.returnType = some .int) (hM : XI D ad G ids (AN ad ids s.heap.size) s.heap H locs σ) {z : Int} {post : Int → Sg → Prop} (hp : post z σ) (hdg : decode cc pc = .ok (.ireturn, 1)) : W p l e R s m args below meth c H locs cells slots (MQ below (QI D ad G ids post s.heap.size) args s cells slots (AN ad ids s.heap.size)) (F0 m pc ls [.int (iI z)]) :=
  W.iret C.1 C.2.1 hr (fun t ht hW => ⟨⟨iI z, (z, σ), rfl, ⟨rfl, hp⟩, by show va_P D vwCl (WG ad G ids σ) t.heap; rw [ht]; exact hM.1⟩, hM.2.2.1.F ht⟩) hM.2.2.1.2.2 hdg C.2.2.2.2.2.2.2
theorem x_zret (C : Cx p s m meth c args cc nL own D G) (hr : meth.sig.returnType = some .boolean) (hM : XI D ad G ids (AN ad ids s.heap.size) s.heap H locs σ) {z : Int} (hz : z = 0 ∨ z = 1) {post : Int → Sg → Prop} (hp : post z σ) (hdg : decode cc pc = .ok (.ireturn, 1)) : W p l e R s m args below meth c H locs cells slots (MQ below (QI D ad G ids post s.heap.size) args s cells slots (AN ad ids s.heap.size)) (F0 m pc ls [.int (iI z)]) :=
  W.zret C.1 C.2.1 hr (nar_z hz) (fun t ht hW => ⟨⟨iI z, (z, σ), rfl, ⟨rfl, hp⟩, by show va_P D vwCl (WG ad G ids σ) t.heap; rw [ht]; exact hM.1⟩, hM.2.2.1.F ht⟩) hM.2.2.1.2.2 hdg C.2.2.2.2.2.2.2
theorem x_lret (C : Cx p s m meth c args cc nL own D G) (hr : meth.sig.returnType = some .long) (hM : XI D ad G ids (AN ad ids s.heap.size) s.heap H locs σ) {z : Int} {post : Int → Sg → Prop} (hp : post z σ) (hdg : decode cc pc = .ok (.lreturn, 1)) : W p l e R s m args below meth c H locs cells slots (MQ below (QL D ad G ids post s.heap.size) args s cells slots (AN ad ids s.heap.size)) (F0 m pc ls [.long (jI z)]) :=
  W.lret C.1 C.2.1 hr (fun t ht hW => ⟨⟨jI z, (z, σ), rfl, ⟨rfl, hp⟩, by show va_P D vwCl (WG ad G ids σ) t.heap; rw [ht]; exact hM.1⟩, hM.2.2.1.F ht⟩) hM.2.2.1.2.2 hdg C.2.2.2.2.2.2.2
theorem x_vret (C : Cx p s m meth c args cc nL own D G) (hr : meth.sig.returnType = none) (hM : XI D ad G ids (AN ad ids s.heap.size) s.heap H locs σ) {post : Sg → Prop} (hp : post σ) (hdg : decode cc pc = .ok (.return_, 1)) : W p l e R s m args below meth c H locs cells slots (MQ below (QV D ad G ids post s.heap.size) args s cells slots (AN ad ids s.heap.size)) (F0 m pc ls []) :=
  W.vret C.1 C.2.1 hr (fun t ht hW => ⟨⟨σ, rfl, hp, by show va_P D vwCl (WG ad G ids σ) t.heap; rw [ht]; exact hM.1⟩, hM.2.2.1.F ht⟩) hM.2.2.1.2.2 hdg C.2.2.2.2.2.2.2
theorem x_aret (C : Cx p s m meth c args cc nL own D G) {rt : FieldType} (hr : meth.sig.returnType = some rt) (hrt : (∃ n, rt = .object n) ∨ ∃ t, rt = .array t) (hM : XI D ad G ids (AN ad ids s.heap.size) s.heap H locs σ) {k : Nat} {post : Nat → Sg → Prop} (hp : post k σ) (hdg : decode cc pc = .ok (.areturn, 1)) : W p l e R s m args below meth c H locs cells slots (MQ below (QR D ad G ids post s.heap.size) args s cells slots (AN ad ids s.heap.size)) (F0 m pc ls [.ref (ad k)]) :=
  W.aret C.1 C.2.1 hr hrt (Or.inr ⟨_, rfl⟩) (fun t ht hW => ⟨⟨(k, σ), ad k, rfl, hp, rfl, by show va_P D vwCl (WG ad G ids σ) t.heap; rw [ht]; exact hM.1⟩, hM.2.2.1.F ht⟩) hM.2.2.1.2.2 hdg C.2.2.2.2.2.2.2
theorem pb_blind {av : List Value} {sz : Nat} : FrameBlind (va_Pc av (PB D ad G ids σ sz)) := by
  intro a U g mk q
  obtain ⟨q0, q1, qP, ⟨qK, qN⟩, qD, qV⟩ := q
  exact ⟨q0, q1, qP, ⟨va_K.moved (u := U) (U := U.calling g mk a) (Vm.Alike.refl U.vm) qK, NW_vm (s := U) (U := U.calling g mk a) rfl qN⟩, qD, qV⟩
theorem pb_at (C : Cx p s m meth c args cc nL own D G) {A : Nat → Prop} {H0 : Heap} (hM : XI D ad G ids A H0 H locs σ) {av : List Value} : ∀ U : State, U.heap = H → s.WarmedH U.vm → va_Pc av (PB D ad G ids σ H.size) av.toArray U := by
  intro U hU hW
  obtain ⟨hx, hb, hml, hown, hts, hK, hN, hlk⟩ := C
  exact ⟨rfl, by rw [hU], by rw [hU]; exact hM.1, ⟨va_K.moved hW.alike hK, NW_warm hW hN⟩, hM.2.1.weaken (fun _ _ _ _ => trivial), hM.2.2.2⟩
/-- the words of a call, by program -/
def CWd (own : String) (idx : Nat) (y : MethodName) (b : ByteArray) (nL : Nat) (ret : Option FieldType) (n : Nat) : Prop :=
  (Cond.methodLink own idx y ∈ WA ∧ Cond.instanceMethod y ∈ WA ∧ Cond.selects y.cls y y ∈ WA ∧ Cond.initialized y.cls ∈ WA ∧ Cond.code y b nL ret ∈ WA) ∧ (y.cls ≠ "java/lang/invoke/MethodHandle" ∧ y.cls ≠ "java/lang/invoke/VarHandle" ∧ (parseMethodDescriptor y.desc).map (fun d => d.parameters.length) = some n) ∧ nL ≤ 21
def CWs (own : String) (idx : Nat) (y : MethodName) (b : ByteArray) (nL : Nat) (ret : Option FieldType) (n : Nat) : Prop :=
  (Cond.methodLink own idx y ∈ WA ∧ Cond.static y ∈ WA ∧ Cond.initialized own ∈ WA ∧ Cond.code y b nL ret ∈ WA) ∧ (y.cls = own ∧ y.cls ≠ "java/lang/invoke/MethodHandle" ∧ y.cls ≠ "java/lang/invoke/VarHandle" ∧ (parseMethodDescriptor y.desc).map (fun d => d.parameters.length) = some n) ∧ nL ≤ 21
def CWn (own : String) (idx : Nat) (y : MethodName) (b : ByteArray) (nL : Nat) (ret : Option FieldType) (n : Nat) : Prop :=
  (Cond.methodLinkNest own idx y "KindlingTree" ∈ NWL ∧ Cond.instanceMethod y ∈ WA ∧ Cond.selects y.cls y y ∈ WA ∧ Cond.initialized y.cls ∈ WA ∧ Cond.code y b nL ret ∈ WA) ∧ (y.cls ≠ "java/lang/invoke/MethodHandle" ∧ y.cls ≠ "java/lang/invoke/VarHandle" ∧ (parseMethodDescriptor y.desc).map (fun d => d.parameters.length) = some n) ∧ nL ≤ 21
def CWns (own : String) (idx : Nat) (y : MethodName) (b : ByteArray) (nL : Nat) (ret : Option FieldType) (n : Nat) : Prop :=
  (Cond.methodLinkNest own idx y "KindlingTree" ∈ NWL ∧ Cond.static y ∈ WA ∧ Cond.initialized y.cls ∈ WA ∧ Cond.code y b nL ret ∈ WA) ∧ (y.cls ≠ "java/lang/invoke/MethodHandle" ∧ y.cls ≠ "java/lang/invoke/VarHandle" ∧ (parseMethodDescriptor y.desc).map (fun d => d.parameters.length) = some n) ∧ nL ≤ 21
theorem wsL_good : WA.all goodWord = true := List.all_eq_true.mpr (fun w h => (List.mem_filter.mp h).2)
theorem gin_code {y : MethodName} {b : ByteArray} {nL : Nat} {ret : Option FieldType} (hc : Cond.code y b nL ret ∈ WA) : GoodIn WA (Cond.code y b nL ret :: WA) := by
  have hg := List.all_eq_true.mp wsL_good
  intro w hw
  rcases List.mem_cons.mp hw with rfl | hw
  · exact ⟨hc, good_of_word (hg _ hc)⟩
  · exact ⟨hw, good_of_word (hg _ hw)⟩
theorem gin_one {w : Cond} (h : w ∈ WA) : w ∈ WA ∧ ((w.onTables && w.keeps) = true ∨ ∃ ty, w = .arrayClass ty) := ⟨h, good_of_word (List.all_eq_true.mp wsL_good _ h)⟩
theorem x_runV (C : Cx p s m meth c args cc nL own D G) {A : Nat → Prop} {H0 : Heap} {h h' idx n nL' k ci : Nat} (hh : h' < h) {y : MethodName} {b : ByteArray} {ret : Option FieldType} {As : List Value} {Qc : Nat → Array Value → State → Outcome → State → Prop} (cw : CWd own idx y b nL' ret n)
    (hc : MET l y b nL' ret h' (.ref (ad k) :: As) D ad G ids σ Qc) (hM : XI D ad G ids A H0 H locs σ) (hk : k ∈ ids) {fs : List Value} {q : vw_C} (hcell : cell ad G σ k = .inr (ci, fs)) (hcl : vwCl[ci]? = some q) (hq1 : q.1 = y.cls) (hn : As.length = n) {st : List Value} (hst : st = As.reverse ++ .ref (ad k) :: rest) (hW : (rest.map fun v => v.category).sum ≤ 8) (hls : ls.size = nL)
    (hdg : decode cc pc = .ok (.invokevirtual idx, 3)) : va_Run p l e (rmh h) s m args below meth c H locs 0 0 0 0 (F0 m pc ls st) rest (Qc H.size (Value.ref (ad k) :: As).toArray) (AN ad ids H.size) := by
  obtain ⟨hx, hb, hml, hown, hts, hK, hN, hlk⟩ := id C
  obtain ⟨⟨w1, w2, w3, w4, w5⟩, hd, hL⟩ := cw
  obtain ⟨i, hi⟩ := List.getElem?_of_mem hk
  have h2 := wg_get ad G σ hi
  rw [hcell] at h2
  have hg : GoodIn WA (wsV own idx y.cls y (Cond.code y b nL' ret :: WA)) := by
    intro w hw
    unfold wsV at hw
    rcases List.mem_append.mp hw with hw | hw
    · simp only [List.mem_cons, List.not_mem_nil, or_false] at hw
      rcases hw with rfl | rfl | rfl | rfl
      · exact gin_one w1
      · exact gin_one w2
      · exact gin_one w3
      · exact gin_one w4
    · exact gin_code w5 w hw
  have hrc := va_recv hK hM.1 hcl h2
  rw [hq1] at hrc
  exact va_runV (As := As) (rest := rest) (nL := nL) (own := own) (C := y.cls) ⟨hx, hb, hml, hown, hts⟩ (hc H.size) (cwV n hts hg rfl rfl rfl ⟨rfl, hd⟩ ⟨hh, by show 8 + (nL' + 11) + 40 * h' ≤ 40 * h; omega⟩) ⟨pb_blind, hrc, pb_at C hM⟩ rfl hn hls hst (lv_room hW) hdg ⟨Nat.le_refl _, Nat.le_refl _⟩
theorem x_runS (C : Cx p s m meth c args cc nL own D G) {A : Nat → Prop} {H0 : Heap} {h h' idx n nL' : Nat} (hh : h' < h) {y : MethodName} {b : ByteArray} {ret : Option FieldType} {As : List Value} {Qc : Nat → Array Value → State → Outcome → State → Prop} (cw : CWs own idx y b nL' ret n)
    (hc : MET l y b nL' ret h' As D ad G ids σ Qc) (hM : XI D ad G ids A H0 H locs σ) (hn : As.length = n) {st : List Value} (hst : st = As.reverse ++ rest) (hW : (rest.map fun v => v.category).sum ≤ 8) (hls : ls.size = nL)
    (hdg : decode cc pc = .ok (.invokestatic idx, 3)) : va_Run p l e (rmh h) s m args below meth c H locs 0 0 0 0 (F0 m pc ls st) rest (Qc H.size As.toArray) (AN ad ids H.size) := by
  obtain ⟨hx, hb, hml, hown, hts, hK, hN, hlk⟩ := id C
  obtain ⟨⟨w1, w2, w4, w5⟩, hd, hL⟩ := cw
  have hg : GoodIn WA (wsS own idx y (Cond.code y b nL' ret :: WA)) := by
    intro w hw
    unfold wsS at hw
    rcases List.mem_append.mp hw with hw | hw
    · simp only [List.mem_cons, List.not_mem_nil, or_false] at hw
      rcases hw with rfl | rfl | rfl
      · exact gin_one w1
      · exact gin_one w2
      · exact gin_one w4
    · exact gin_code w5 w hw
  exact va_runS (As := As) (rest := rest) (nL := nL) (own := own) ⟨hx, hb, hml, hown, hts⟩ (hc H.size) (cwS n hts hg rfl rfl rfl hd ⟨hh, by show 8 + (nL' + 11) + 40 * h' ≤ 40 * h; omega⟩) ⟨pb_blind, pb_at C hM⟩ rfl hn hls hst (lv_room hW) hdg ⟨Nat.le_refl _, Nat.le_refl _⟩
theorem x_runN (C : Cx p s m meth c args cc nL own D G) {A : Nat → Prop} {H0 : Heap} {h h' idx n nL' k ci : Nat} (hh : h' < h) {y : MethodName} {b : ByteArray} {ret : Option FieldType} {As : List Value} {Qc : Nat → Array Value → State → Outcome → State → Prop} (cw : CWn own idx y b nL' ret n)
    (hc : MET l y b nL' ret h' (.ref (ad k) :: As) D ad G ids σ Qc) (hM : XI D ad G ids A H0 H locs σ) (hk : k ∈ ids) {fs : List Value} {q : vw_C} (hcell : cell ad G σ k = .inr (ci, fs)) (hcl : vwCl[ci]? = some q) (hq1 : q.1 = y.cls) (hn : As.length = n) {st : List Value} (hst : st = As.reverse ++ .ref (ad k) :: rest) (hW : (rest.map fun v => v.category).sum ≤ 8) (hls : ls.size = nL)
    (hdg : decode cc pc = .ok (.invokevirtual idx, 3)) : va_Run p l e (rmh h) s m args below meth c H locs 0 0 0 0 (F0 m pc ls st) rest (Qc H.size (Value.ref (ad k) :: As).toArray) (AN ad ids H.size) := by
  obtain ⟨hx, hb, hml, hown, hts, hK, hN, hlk⟩ := id C
  obtain ⟨⟨w1, w2, w3, w4, w5⟩, hd, hL⟩ := cw
  obtain ⟨i, hi⟩ := List.getElem?_of_mem hk
  have h2 := wg_get ad G σ hi
  rw [hcell] at h2
  have hrc := va_recv hK hM.1 hcl h2
  rw [hq1] at hrc
  exact va_runVN (As := As) (rest := rest) (nL := nL) (own := own) (C := y.cls) (host := "KindlingTree") ⟨hx, hb, hml, hown, hts⟩ (hc H.size) ⟨va_cnB n hts (gin_code w5) rfl rfl rfl (hN _ w1) (hts _ w4) hd ⟨hh, by show 8 + (nL' + 11) + 40 * h' ≤ 40 * h; omega⟩, hts _ w2, hts _ w3⟩ ⟨pb_blind, hrc, pb_at C hM⟩ rfl hn hls hst (lv_room hW) hdg ⟨Nat.le_refl _, Nat.le_refl _⟩
theorem x_runNs (C : Cx p s m meth c args cc nL own D G) {A : Nat → Prop} {H0 : Heap} {h h' idx n nL' : Nat} (hh : h' < h) {y : MethodName} {b : ByteArray} {ret : Option FieldType} {As : List Value} {Qc : Nat → Array Value → State → Outcome → State → Prop} (cw : CWns own idx y b nL' ret n)
    (hc : MET l y b nL' ret h' As D ad G ids σ Qc) (hM : XI D ad G ids A H0 H locs σ) (hn : As.length = n) {st : List Value} (hst : st = As.reverse ++ rest) (hW : (rest.map fun v => v.category).sum ≤ 8) (hls : ls.size = nL)
    (hdg : decode cc pc = .ok (.invokestatic idx, 3)) : va_Run p l e (rmh h) s m args below meth c H locs 0 0 0 0 (F0 m pc ls st) rest (Qc H.size As.toArray) (AN ad ids H.size) := by
  obtain ⟨hx, hb, hml, hown, hts, hK, hN, hlk⟩ := id C
  obtain ⟨⟨w1, w2, w4, w5⟩, hd, hL⟩ := cw
  exact va_runSN (As := As) (rest := rest) (nL := nL) (own := own) (host := "KindlingTree") ⟨hx, hb, hml, hown, hts⟩ (hc H.size) ⟨va_cnB n hts (gin_code w5) rfl rfl rfl (hN _ w1) (hts _ w4) hd ⟨hh, by show 8 + (nL' + 11) + 40 * h' ≤ 40 * h; omega⟩, hts _ w2, trivial⟩ ⟨pb_blind, pb_at C hM⟩ rfl hn hls hst (lv_room hW) hdg ⟨Nat.le_refl _, Nat.le_refl _⟩
theorem an_le {ad : Nat → Nat} {ids : List Nat} {a b : Nat} (h : a ≤ b) {q : Nat} (hq : AN ad ids b q) : AN ad ids a q := hq.elim Or.inl (fun h2 => Or.inr (Nat.le_trans h h2))
theorem x_ci {st0 : List Value} {a : Array Value} {post : Int → Sg → Prop} (hr : va_Run p l e R s m args below meth c H locs 0 0 0 0 (F0 m pc ls st0) rest (QI D ad G ids post H.size a) (AN ad ids H.size)) (hM : XI D ad G ids (AN ad ids s.heap.size) s.heap H locs σ)
    (kk : ∀ (z : Int) (σ1 : Sg) (H1 : Heap) (locs1 : List Loc), post z σ1 → XI D ad G ids (AN ad ids s.heap.size) s.heap H1 locs1 σ1 → W p l e R s m args below meth c H1 locs1 0 0 Q (F0 m (pc + 3) ls (.int (iI z) :: rest))) : W p l e R s m args below meth c H locs 0 0 Q (F0 m pc ls st0) := by
  refine va_calli hr hM.2.2.1 (fun q _ h => an_le hM.2.2.1.1 h) (fun q h => an_le hM.2.2.1.1 h) (fun r u t H1 locs1 ht hvm hp hB hz hk hS => ?_)
  obtain ⟨rfl, hp⟩ := hp
  rw [ht] at hB
  exact kk u.1 u.2 H1 locs1 hp ⟨hB, wd_any _ hM.2.1, hS, hM.2.2.2⟩
theorem x_cl {st0 : List Value} {a : Array Value} {post : Int → Sg → Prop} (hr : va_Run p l e R s m args below meth c H locs 0 0 0 0 (F0 m pc ls st0) rest (QL D ad G ids post H.size a) (AN ad ids H.size)) (hM : XI D ad G ids (AN ad ids s.heap.size) s.heap H locs σ)
    (kk : ∀ (z : Int) (σ1 : Sg) (H1 : Heap) (locs1 : List Loc), post z σ1 → XI D ad G ids (AN ad ids s.heap.size) s.heap H1 locs1 σ1 → W p l e R s m args below meth c H1 locs1 0 0 Q (F0 m (pc + 3) ls (.long (jI z) :: rest))) : W p l e R s m args below meth c H locs 0 0 Q (F0 m pc ls st0) := by
  refine va_calll hr hM.2.2.1 (fun q _ h => an_le hM.2.2.1.1 h) (fun q h => an_le hM.2.2.1.1 h) (fun r u t H1 locs1 ht hvm hp hB hz hk hS => ?_)
  obtain ⟨rfl, hp⟩ := hp
  rw [ht] at hB
  exact kk u.1 u.2 H1 locs1 hp ⟨hB, wd_any _ hM.2.1, hS, hM.2.2.2⟩
theorem x_cv {st0 : List Value} {a : Array Value} {post : Sg → Prop} (hr : va_Run p l e R s m args below meth c H locs 0 0 0 0 (F0 m pc ls st0) rest (QV D ad G ids post H.size a) (AN ad ids H.size)) (hM : XI D ad G ids (AN ad ids s.heap.size) s.heap H locs σ)
    (kk : ∀ (σ1 : Sg) (H1 : Heap) (locs1 : List Loc), post σ1 → XI D ad G ids (AN ad ids s.heap.size) s.heap H1 locs1 σ1 → W p l e R s m args below meth c H1 locs1 0 0 Q (F0 m (pc + 3) ls rest)) : W p l e R s m args below meth c H locs 0 0 Q (F0 m pc ls st0) := by
  refine va_callv hr hM.2.2.1 (fun q _ h => an_le hM.2.2.1.1 h) (fun q h => an_le hM.2.2.1.1 h) (fun u t H1 locs1 ht hvm hp hB hz hk hS => ?_)
  rw [ht] at hB
  exact kk u H1 locs1 hp ⟨hB, wd_any _ hM.2.1, hS, hM.2.2.2⟩
theorem x_cr {st0 : List Value} {a : Array Value} {post : Nat → Sg → Prop} (hr : va_Run p l e R s m args below meth c H locs 0 0 0 0 (F0 m pc ls st0) rest (QR D ad G ids post H.size a) (AN ad ids H.size)) (hM : XI D ad G ids (AN ad ids s.heap.size) s.heap H locs σ)
    (kk : ∀ (k : Nat) (σ1 : Sg) (H1 : Heap) (locs1 : List Loc), post k σ1 → XI D ad G ids (AN ad ids s.heap.size) s.heap H1 locs1 σ1 → W p l e R s m args below meth c H1 locs1 0 0 Q (F0 m (pc + 3) ls (.ref (ad k) :: rest))) : W p l e R s m args below meth c H locs 0 0 Q (F0 m pc ls st0) := by
  refine va_callr hr hM.2.2.1 (fun q _ h => an_le hM.2.2.1.1 h) (fun q h => an_le hM.2.2.1.1 h) (fun u a0 t H1 locs1 ht hvm hp hB hz hk hS => ?_)
  obtain ⟨rfl, hB⟩ := hB
  rw [ht] at hB
  exact kk u.1 u.2 H1 locs1 hp ⟨hB, wd_any _ hM.2.1, hS, hM.2.2.2⟩
end XE
end
section
theorem zz_probe : (1 : Nat) = 1 := rfl
end
