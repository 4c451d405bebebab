section
-- ===== PART A: goes FIRST, ahead of the names: the tables' words, and 'selects' of the private methods out of them =====
/-- a private method of a class that the tables say can be made, by its rows of tables_1 -/
def lw_okq (q : MethodName × Nat) : Prop := (q.1.cls ≠ "java/lang/invoke/MethodHandle" ∧ q.1.cls ≠ "java/lang/invoke/VarHandle") ∧ Cond.instantiable q.1.cls q.2 ∈ tables_1 ∧ Cond.privateMethod q.1 ∈ tables_1 ∧ Cond.instanceMethod q.1 ∈ tables_1
theorem lw_p0 : lw_okq (⟨"ChordOverlay", "countLiving", "()I"⟩, 12) := ⟨⟨by decide +kernel, by decide +kernel⟩, List.mem_of_getElem? (i := 15) (by decide +kernel), List.mem_of_getElem? (i := 88) (by decide +kernel), List.mem_of_getElem? (i := 89) (by decide +kernel)⟩
theorem lw_p1 : lw_okq (⟨"ChordOverlay", "isAlive", "(I)Z"⟩, 12) := ⟨⟨by decide +kernel, by decide +kernel⟩, List.mem_of_getElem? (i := 15) (by decide +kernel), List.mem_of_getElem? (i := 92) (by decide +kernel), List.mem_of_getElem? (i := 93) (by decide +kernel)⟩
theorem lw_p2 : lw_okq (⟨"ChordOverlay", "countWrongPointers", "()I"⟩, 12) := ⟨⟨by decide +kernel, by decide +kernel⟩, List.mem_of_getElem? (i := 15) (by decide +kernel), List.mem_of_getElem? (i := 100) (by decide +kernel), List.mem_of_getElem? (i := 101) (by decide +kernel)⟩
theorem lw_p3 : lw_okq (⟨"ChordOverlay", "countWrongPointersOf", "(I)I"⟩, 12) := ⟨⟨by decide +kernel, by decide +kernel⟩, List.mem_of_getElem? (i := 15) (by decide +kernel), List.mem_of_getElem? (i := 104) (by decide +kernel), List.mem_of_getElem? (i := 105) (by decide +kernel)⟩
theorem lw_p4 : lw_okq (⟨"ChordOverlay", "firstLivingSuccessor", "(I)I"⟩, 12) := ⟨⟨by decide +kernel, by decide +kernel⟩, List.mem_of_getElem? (i := 15) (by decide +kernel), List.mem_of_getElem? (i := 108) (by decide +kernel), List.mem_of_getElem? (i := 109) (by decide +kernel)⟩
theorem lw_p5 : lw_okq (⟨"ChordOverlay", "firstLivingUpFrom", "(I)I"⟩, 12) := ⟨⟨by decide +kernel, by decide +kernel⟩, List.mem_of_getElem? (i := 15) (by decide +kernel), List.mem_of_getElem? (i := 119) (by decide +kernel), List.mem_of_getElem? (i := 120) (by decide +kernel)⟩
theorem lw_p6 : lw_okq (⟨"ChordOverlay", "firstLivingDownFrom", "(I)I"⟩, 12) := ⟨⟨by decide +kernel, by decide +kernel⟩, List.mem_of_getElem? (i := 15) (by decide +kernel), List.mem_of_getElem? (i := 123) (by decide +kernel), List.mem_of_getElem? (i := 124) (by decide +kernel)⟩
theorem lw_p7 : lw_okq (⟨"java/lang/Throwable", "fillInStackTrace", "(I)Ljava/lang/Throwable;"⟩, 6) := ⟨⟨by decide +kernel, by decide +kernel⟩, List.mem_of_getElem? (i := 184) (by decide +kernel), List.mem_of_getElem? (i := 182) (by decide +kernel), List.mem_of_getElem? (i := 183) (by decide +kernel)⟩
theorem lw_p8 : lw_okq (⟨"ChordOverlay", "beginLife", "(IIII)V"⟩, 12) := ⟨⟨by decide +kernel, by decide +kernel⟩, List.mem_of_getElem? (i := 15) (by decide +kernel), List.mem_of_getElem? (i := 230) (by decide +kernel), List.mem_of_getElem? (i := 231) (by decide +kernel)⟩
theorem lw_p9 : lw_okq (⟨"ChordOverlay", "setSuccessors", "(IIII)V"⟩, 12) := ⟨⟨by decide +kernel, by decide +kernel⟩, List.mem_of_getElem? (i := 15) (by decide +kernel), List.mem_of_getElem? (i := 234) (by decide +kernel), List.mem_of_getElem? (i := 235) (by decide +kernel)⟩
theorem lw_p10 : lw_okq (⟨"ChordOverlay", "setAlive", "(IZ)V"⟩, 12) := ⟨⟨by decide +kernel, by decide +kernel⟩, List.mem_of_getElem? (i := 15) (by decide +kernel), List.mem_of_getElem? (i := 247) (by decide +kernel), List.mem_of_getElem? (i := 248) (by decide +kernel)⟩
theorem lw_p11 : lw_okq (⟨"ChordOverlay", "requireAlive", "(I)V"⟩, 12) := ⟨⟨by decide +kernel, by decide +kernel⟩, List.mem_of_getElem? (i := 15) (by decide +kernel), List.mem_of_getElem? (i := 259) (by decide +kernel), List.mem_of_getElem? (i := 260) (by decide +kernel)⟩
theorem lw_p12 : lw_okq (⟨"ChordOverlay", "find", "(II)I"⟩, 12) := ⟨⟨by decide +kernel, by decide +kernel⟩, List.mem_of_getElem? (i := 15) (by decide +kernel), List.mem_of_getElem? (i := 264) (by decide +kernel), List.mem_of_getElem? (i := 265) (by decide +kernel)⟩
theorem lw_p13 : lw_okq (⟨"ChordOverlay", "hopTowards", "(III)I"⟩, 12) := ⟨⟨by decide +kernel, by decide +kernel⟩, List.mem_of_getElem? (i := 15) (by decide +kernel), List.mem_of_getElem? (i := 271) (by decide +kernel), List.mem_of_getElem? (i := 272) (by decide +kernel)⟩
theorem lw_p14 : lw_okq (⟨"ChordOverlay", "endLife", "(I)V"⟩, 12) := ⟨⟨by decide +kernel, by decide +kernel⟩, List.mem_of_getElem? (i := 15) (by decide +kernel), List.mem_of_getElem? (i := 285) (by decide +kernel), List.mem_of_getElem? (i := 286) (by decide +kernel)⟩
theorem lw_p15 : lw_okq (⟨"ChordOverlay", "handOver", "(II)V"⟩, 12) := ⟨⟨by decide +kernel, by decide +kernel⟩, List.mem_of_getElem? (i := 15) (by decide +kernel), List.mem_of_getElem? (i := 296) (by decide +kernel), List.mem_of_getElem? (i := 297) (by decide +kernel)⟩
def lw_privs_1 : List (MethodName × Nat) := [(⟨"ChordOverlay", "countLiving", "()I"⟩, 12), (⟨"ChordOverlay", "isAlive", "(I)Z"⟩, 12), (⟨"ChordOverlay", "countWrongPointers", "()I"⟩, 12), (⟨"ChordOverlay", "countWrongPointersOf", "(I)I"⟩, 12), (⟨"ChordOverlay", "firstLivingSuccessor", "(I)I"⟩, 12), (⟨"ChordOverlay", "firstLivingUpFrom", "(I)I"⟩, 12), (⟨"ChordOverlay", "firstLivingDownFrom", "(I)I"⟩, 12), (⟨"java/lang/Throwable", "fillInStackTrace", "(I)Ljava/lang/Throwable;"⟩, 6), (⟨"ChordOverlay", "beginLife", "(IIII)V"⟩, 12), (⟨"ChordOverlay", "setSuccessors", "(IIII)V"⟩, 12), (⟨"ChordOverlay", "setAlive", "(IZ)V"⟩, 12), (⟨"ChordOverlay", "requireAlive", "(I)V"⟩, 12), (⟨"ChordOverlay", "find", "(II)I"⟩, 12), (⟨"ChordOverlay", "hopTowards", "(III)I"⟩, 12), (⟨"ChordOverlay", "endLife", "(I)V"⟩, 12), (⟨"ChordOverlay", "handOver", "(II)V"⟩, 12)]
theorem lw_r1 : ∀ q ∈ lw_privs_1, lw_okq q := List.forall_mem_cons.mpr ⟨lw_p0, List.forall_mem_cons.mpr ⟨lw_p1, List.forall_mem_cons.mpr ⟨lw_p2, List.forall_mem_cons.mpr ⟨lw_p3, List.forall_mem_cons.mpr ⟨lw_p4, List.forall_mem_cons.mpr ⟨lw_p5, List.forall_mem_cons.mpr ⟨lw_p6, List.forall_mem_cons.mpr ⟨lw_p7, List.forall_mem_cons.mpr ⟨lw_p8, List.forall_mem_cons.mpr ⟨lw_p9, List.forall_mem_cons.mpr ⟨lw_p10, List.forall_mem_cons.mpr ⟨lw_p11, List.forall_mem_cons.mpr ⟨lw_p12, List.forall_mem_cons.mpr ⟨lw_p13, List.forall_mem_cons.mpr ⟨lw_p14, List.forall_mem_cons.mpr ⟨lw_p15, fun _ h => absurd h List.not_mem_nil⟩⟩⟩⟩⟩⟩⟩⟩⟩⟩⟩⟩⟩⟩⟩⟩
theorem lw_p16 : lw_okq (⟨"ChordOverlay", "giveCopy", "(III)I"⟩, 12) := ⟨⟨by decide +kernel, by decide +kernel⟩, List.mem_of_getElem? (i := 15) (by decide +kernel), List.mem_of_getElem? (i := 300) (by decide +kernel), List.mem_of_getElem? (i := 301) (by decide +kernel)⟩
theorem lw_p17 : lw_okq (⟨"ChordOverlay", "follow", "(II)V"⟩, 12) := ⟨⟨by decide +kernel, by decide +kernel⟩, List.mem_of_getElem? (i := 15) (by decide +kernel), List.mem_of_getElem? (i := 304) (by decide +kernel), List.mem_of_getElem? (i := 305) (by decide +kernel)⟩
theorem lw_p18 : lw_okq (⟨"ChordOverlay", "dropDeadPredecessor", "(I)V"⟩, 12) := ⟨⟨by decide +kernel, by decide +kernel⟩, List.mem_of_getElem? (i := 15) (by decide +kernel), List.mem_of_getElem? (i := 350) (by decide +kernel), List.mem_of_getElem? (i := 351) (by decide +kernel)⟩
theorem lw_p19 : lw_okq (⟨"ChordOverlay", "mendSuccessors", "(I)V"⟩, 12) := ⟨⟨by decide +kernel, by decide +kernel⟩, List.mem_of_getElem? (i := 15) (by decide +kernel), List.mem_of_getElem? (i := 361) (by decide +kernel), List.mem_of_getElem? (i := 362) (by decide +kernel)⟩
theorem lw_p20 : lw_okq (⟨"ChordOverlay", "notifyOf", "(II)V"⟩, 12) := ⟨⟨by decide +kernel, by decide +kernel⟩, List.mem_of_getElem? (i := 15) (by decide +kernel), List.mem_of_getElem? (i := 365) (by decide +kernel), List.mem_of_getElem? (i := 366) (by decide +kernel)⟩
theorem lw_p21 : lw_okq (⟨"ChordOverlay", "renewFingers", "(I)I"⟩, 12) := ⟨⟨by decide +kernel, by decide +kernel⟩, List.mem_of_getElem? (i := 15) (by decide +kernel), List.mem_of_getElem? (i := 376) (by decide +kernel), List.mem_of_getElem? (i := 377) (by decide +kernel)⟩
theorem lw_p22 : lw_okq (⟨"ChordOverlay", "spreadValues", "(I)I"⟩, 12) := ⟨⟨by decide +kernel, by decide +kernel⟩, List.mem_of_getElem? (i := 15) (by decide +kernel), List.mem_of_getElem? (i := 387) (by decide +kernel), List.mem_of_getElem? (i := 388) (by decide +kernel)⟩
theorem lw_p23 : lw_okq (⟨"ChordOverlay", "spreadValue", "(II)I"⟩, 12) := ⟨⟨by decide +kernel, by decide +kernel⟩, List.mem_of_getElem? (i := 15) (by decide +kernel), List.mem_of_getElem? (i := 391) (by decide +kernel), List.mem_of_getElem? (i := 392) (by decide +kernel)⟩
theorem lw_p24 : lw_okq (⟨"ChordOverlay", "copyToHeirs", "(II)I"⟩, 12) := ⟨⟨by decide +kernel, by decide +kernel⟩, List.mem_of_getElem? (i := 15) (by decide +kernel), List.mem_of_getElem? (i := 395) (by decide +kernel), List.mem_of_getElem? (i := 396) (by decide +kernel)⟩
theorem lw_p25 : lw_okq (⟨"ChordOverlay", "firstHeir", "(II)I"⟩, 12) := ⟨⟨by decide +kernel, by decide +kernel⟩, List.mem_of_getElem? (i := 15) (by decide +kernel), List.mem_of_getElem? (i := 399) (by decide +kernel), List.mem_of_getElem? (i := 400) (by decide +kernel)⟩
theorem lw_p26 : lw_okq (⟨"ChordOverlay", "letRoundGoBy", "(Z)V"⟩, 12) := ⟨⟨by decide +kernel, by decide +kernel⟩, List.mem_of_getElem? (i := 15) (by decide +kernel), List.mem_of_getElem? (i := 410) (by decide +kernel), List.mem_of_getElem? (i := 411) (by decide +kernel)⟩
theorem lw_p27 : lw_okq (⟨"ChordOverlay", "layPointersAside", "()V"⟩, 12) := ⟨⟨by decide +kernel, by decide +kernel⟩, List.mem_of_getElem? (i := 15) (by decide +kernel), List.mem_of_getElem? (i := 494) (by decide +kernel), List.mem_of_getElem? (i := 495) (by decide +kernel)⟩
theorem lw_p28 : lw_okq (⟨"ChordOverlay", "takePointersBack", "()V"⟩, 12) := ⟨⟨by decide +kernel, by decide +kernel⟩, List.mem_of_getElem? (i := 15) (by decide +kernel), List.mem_of_getElem? (i := 505) (by decide +kernel), List.mem_of_getElem? (i := 506) (by decide +kernel)⟩
theorem lw_p29 : lw_okq (⟨"ChordOverlayModel", "fails", "(I)I"⟩, 13) := ⟨⟨by decide +kernel, by decide +kernel⟩, List.mem_of_getElem? (i := 509) (by decide +kernel), List.mem_of_getElem? (i := 566) (by decide +kernel), List.mem_of_getElem? (i := 567) (by decide +kernel)⟩
theorem lw_p30 : lw_okq (⟨"ChordOverlayModel", "countLiving", "()I"⟩, 13) := ⟨⟨by decide +kernel, by decide +kernel⟩, List.mem_of_getElem? (i := 509) (by decide +kernel), List.mem_of_getElem? (i := 570) (by decide +kernel), List.mem_of_getElem? (i := 571) (by decide +kernel)⟩
theorem lw_p31 : lw_okq (⟨"ChordOverlayModel", "begins", "(IIII)V"⟩, 13) := ⟨⟨by decide +kernel, by decide +kernel⟩, List.mem_of_getElem? (i := 509) (by decide +kernel), List.mem_of_getElem? (i := 574) (by decide +kernel), List.mem_of_getElem? (i := 575) (by decide +kernel)⟩
def lw_privs_2 : List (MethodName × Nat) := [(⟨"ChordOverlay", "giveCopy", "(III)I"⟩, 12), (⟨"ChordOverlay", "follow", "(II)V"⟩, 12), (⟨"ChordOverlay", "dropDeadPredecessor", "(I)V"⟩, 12), (⟨"ChordOverlay", "mendSuccessors", "(I)V"⟩, 12), (⟨"ChordOverlay", "notifyOf", "(II)V"⟩, 12), (⟨"ChordOverlay", "renewFingers", "(I)I"⟩, 12), (⟨"ChordOverlay", "spreadValues", "(I)I"⟩, 12), (⟨"ChordOverlay", "spreadValue", "(II)I"⟩, 12), (⟨"ChordOverlay", "copyToHeirs", "(II)I"⟩, 12), (⟨"ChordOverlay", "firstHeir", "(II)I"⟩, 12), (⟨"ChordOverlay", "letRoundGoBy", "(Z)V"⟩, 12), (⟨"ChordOverlay", "layPointersAside", "()V"⟩, 12), (⟨"ChordOverlay", "takePointersBack", "()V"⟩, 12), (⟨"ChordOverlayModel", "fails", "(I)I"⟩, 13), (⟨"ChordOverlayModel", "countLiving", "()I"⟩, 13), (⟨"ChordOverlayModel", "begins", "(IIII)V"⟩, 13)]
theorem lw_r2 : ∀ q ∈ lw_privs_2, lw_okq q := List.forall_mem_cons.mpr ⟨lw_p16, List.forall_mem_cons.mpr ⟨lw_p17, List.forall_mem_cons.mpr ⟨lw_p18, List.forall_mem_cons.mpr ⟨lw_p19, List.forall_mem_cons.mpr ⟨lw_p20, List.forall_mem_cons.mpr ⟨lw_p21, List.forall_mem_cons.mpr ⟨lw_p22, List.forall_mem_cons.mpr ⟨lw_p23, List.forall_mem_cons.mpr ⟨lw_p24, List.forall_mem_cons.mpr ⟨lw_p25, List.forall_mem_cons.mpr ⟨lw_p26, List.forall_mem_cons.mpr ⟨lw_p27, List.forall_mem_cons.mpr ⟨lw_p28, List.forall_mem_cons.mpr ⟨lw_p29, List.forall_mem_cons.mpr ⟨lw_p30, List.forall_mem_cons.mpr ⟨lw_p31, fun _ h => absurd h List.not_mem_nil⟩⟩⟩⟩⟩⟩⟩⟩⟩⟩⟩⟩⟩⟩⟩⟩
theorem lw_p32 : lw_okq (⟨"ChordOverlayModel", "find", "(II)I"⟩, 13) := ⟨⟨by decide +kernel, by decide +kernel⟩, List.mem_of_getElem? (i := 509) (by decide +kernel), List.mem_of_getElem? (i := 582) (by decide +kernel), List.mem_of_getElem? (i := 583) (by decide +kernel)⟩
theorem lw_p33 : lw_okq (⟨"ChordOverlayModel", "liveSuccessorOf", "(I)I"⟩, 13) := ⟨⟨by decide +kernel, by decide +kernel⟩, List.mem_of_getElem? (i := 509) (by decide +kernel), List.mem_of_getElem? (i := 586) (by decide +kernel), List.mem_of_getElem? (i := 587) (by decide +kernel)⟩
theorem lw_p34 : lw_okq (⟨"ChordOverlayModel", "nextHop", "(III)I"⟩, 13) := ⟨⟨by decide +kernel, by decide +kernel⟩, List.mem_of_getElem? (i := 509) (by decide +kernel), List.mem_of_getElem? (i := 596) (by decide +kernel), List.mem_of_getElem? (i := 597) (by decide +kernel)⟩
theorem lw_p35 : lw_okq (⟨"ChordOverlayModel", "refuses", "(I)I"⟩, 13) := ⟨⟨by decide +kernel, by decide +kernel⟩, List.mem_of_getElem? (i := 509) (by decide +kernel), List.mem_of_getElem? (i := 607) (by decide +kernel), List.mem_of_getElem? (i := 608) (by decide +kernel)⟩
theorem lw_p36 : lw_okq (⟨"ChordOverlayModel", "copy", "(III)I"⟩, 13) := ⟨⟨by decide +kernel, by decide +kernel⟩, List.mem_of_getElem? (i := 509) (by decide +kernel), List.mem_of_getElem? (i := 615) (by decide +kernel), List.mem_of_getElem? (i := 616) (by decide +kernel)⟩
theorem lw_p37 : lw_okq (⟨"ChordOverlayModel", "follows", "(II)V"⟩, 13) := ⟨⟨by decide +kernel, by decide +kernel⟩, List.mem_of_getElem? (i := 509) (by decide +kernel), List.mem_of_getElem? (i := 619) (by decide +kernel), List.mem_of_getElem? (i := 620) (by decide +kernel)⟩
theorem lw_p38 : lw_okq (⟨"ChordOverlayModel", "checks", "(I)V"⟩, 13) := ⟨⟨by decide +kernel, by decide +kernel⟩, List.mem_of_getElem? (i := 509) (by decide +kernel), List.mem_of_getElem? (i := 651) (by decide +kernel), List.mem_of_getElem? (i := 652) (by decide +kernel)⟩
theorem lw_p39 : lw_okq (⟨"ChordOverlayModel", "stabilizes", "(I)V"⟩, 13) := ⟨⟨by decide +kernel, by decide +kernel⟩, List.mem_of_getElem? (i := 509) (by decide +kernel), List.mem_of_getElem? (i := 659) (by decide +kernel), List.mem_of_getElem? (i := 660) (by decide +kernel)⟩
theorem lw_p40 : lw_okq (⟨"ChordOverlayModel", "fixes", "(I)I"⟩, 13) := ⟨⟨by decide +kernel, by decide +kernel⟩, List.mem_of_getElem? (i := 509) (by decide +kernel), List.mem_of_getElem? (i := 667) (by decide +kernel), List.mem_of_getElem? (i := 668) (by decide +kernel)⟩
theorem lw_p41 : lw_okq (⟨"ChordOverlayModel", "replicates", "(I)I"⟩, 13) := ⟨⟨by decide +kernel, by decide +kernel⟩, List.mem_of_getElem? (i := 509) (by decide +kernel), List.mem_of_getElem? (i := 675) (by decide +kernel), List.mem_of_getElem? (i := 676) (by decide +kernel)⟩
theorem lw_p42 : lw_okq (⟨"ChordOverlayModel", "spreads", "(II)I"⟩, 13) := ⟨⟨by decide +kernel, by decide +kernel⟩, List.mem_of_getElem? (i := 509) (by decide +kernel), List.mem_of_getElem? (i := 679) (by decide +kernel), List.mem_of_getElem? (i := 680) (by decide +kernel)⟩
theorem lw_p43 : lw_okq (⟨"ChordOverlayModel", "round", "(Z)V"⟩, 13) := ⟨⟨by decide +kernel, by decide +kernel⟩, List.mem_of_getElem? (i := 509) (by decide +kernel), List.mem_of_getElem? (i := 687) (by decide +kernel), List.mem_of_getElem? (i := 688) (by decide +kernel)⟩
theorem lw_p44 : lw_okq (⟨"ChordOverlayModel", "countWrong", "()I"⟩, 13) := ⟨⟨by decide +kernel, by decide +kernel⟩, List.mem_of_getElem? (i := 509) (by decide +kernel), List.mem_of_getElem? (i := 691) (by decide +kernel), List.mem_of_getElem? (i := 692) (by decide +kernel)⟩
theorem lw_p45 : lw_okq (⟨"ChordOverlayModel", "wrongOf", "(I)I"⟩, 13) := ⟨⟨by decide +kernel, by decide +kernel⟩, List.mem_of_getElem? (i := 509) (by decide +kernel), List.mem_of_getElem? (i := 695) (by decide +kernel), List.mem_of_getElem? (i := 696) (by decide +kernel)⟩
theorem lw_p46 : lw_okq (⟨"ChordOverlayModel", "ownerOf", "(I)I"⟩, 13) := ⟨⟨by decide +kernel, by decide +kernel⟩, List.mem_of_getElem? (i := 509) (by decide +kernel), List.mem_of_getElem? (i := 699) (by decide +kernel), List.mem_of_getElem? (i := 700) (by decide +kernel)⟩
theorem lw_p47 : lw_okq (⟨"ChordOverlayModel", "before", "(I)I"⟩, 13) := ⟨⟨by decide +kernel, by decide +kernel⟩, List.mem_of_getElem? (i := 509) (by decide +kernel), List.mem_of_getElem? (i := 703) (by decide +kernel), List.mem_of_getElem? (i := 704) (by decide +kernel)⟩
def lw_privs_3 : List (MethodName × Nat) := [(⟨"ChordOverlayModel", "find", "(II)I"⟩, 13), (⟨"ChordOverlayModel", "liveSuccessorOf", "(I)I"⟩, 13), (⟨"ChordOverlayModel", "nextHop", "(III)I"⟩, 13), (⟨"ChordOverlayModel", "refuses", "(I)I"⟩, 13), (⟨"ChordOverlayModel", "copy", "(III)I"⟩, 13), (⟨"ChordOverlayModel", "follows", "(II)V"⟩, 13), (⟨"ChordOverlayModel", "checks", "(I)V"⟩, 13), (⟨"ChordOverlayModel", "stabilizes", "(I)V"⟩, 13), (⟨"ChordOverlayModel", "fixes", "(I)I"⟩, 13), (⟨"ChordOverlayModel", "replicates", "(I)I"⟩, 13), (⟨"ChordOverlayModel", "spreads", "(II)I"⟩, 13), (⟨"ChordOverlayModel", "round", "(Z)V"⟩, 13), (⟨"ChordOverlayModel", "countWrong", "()I"⟩, 13), (⟨"ChordOverlayModel", "wrongOf", "(I)I"⟩, 13), (⟨"ChordOverlayModel", "ownerOf", "(I)I"⟩, 13), (⟨"ChordOverlayModel", "before", "(I)I"⟩, 13)]
theorem lw_r3 : ∀ q ∈ lw_privs_3, lw_okq q := List.forall_mem_cons.mpr ⟨lw_p32, List.forall_mem_cons.mpr ⟨lw_p33, List.forall_mem_cons.mpr ⟨lw_p34, List.forall_mem_cons.mpr ⟨lw_p35, List.forall_mem_cons.mpr ⟨lw_p36, List.forall_mem_cons.mpr ⟨lw_p37, List.forall_mem_cons.mpr ⟨lw_p38, List.forall_mem_cons.mpr ⟨lw_p39, List.forall_mem_cons.mpr ⟨lw_p40, List.forall_mem_cons.mpr ⟨lw_p41, List.forall_mem_cons.mpr ⟨lw_p42, List.forall_mem_cons.mpr ⟨lw_p43, List.forall_mem_cons.mpr ⟨lw_p44, List.forall_mem_cons.mpr ⟨lw_p45, List.forall_mem_cons.mpr ⟨lw_p46, List.forall_mem_cons.mpr ⟨lw_p47, fun _ h => absurd h List.not_mem_nil⟩⟩⟩⟩⟩⟩⟩⟩⟩⟩⟩⟩⟩⟩⟩⟩
theorem lw_p48 : lw_okq (⟨"ChordOverlayModel", "refusesLookup", "(II)I"⟩, 13) := ⟨⟨by decide +kernel, by decide +kernel⟩, List.mem_of_getElem? (i := 509) (by decide +kernel), List.mem_of_getElem? (i := 711) (by decide +kernel), List.mem_of_getElem? (i := 712) (by decide +kernel)⟩
theorem lw_p49 : lw_okq (⟨"ChordOverlayModel", "keptAt", "(II)I"⟩, 13) := ⟨⟨by decide +kernel, by decide +kernel⟩, List.mem_of_getElem? (i := 509) (by decide +kernel), List.mem_of_getElem? (i := 731) (by decide +kernel), List.mem_of_getElem? (i := 732) (by decide +kernel)⟩
def lw_privs_4 : List (MethodName × Nat) := [(⟨"ChordOverlayModel", "refusesLookup", "(II)I"⟩, 13), (⟨"ChordOverlayModel", "keptAt", "(II)I"⟩, 13)]
theorem lw_r4 : ∀ q ∈ lw_privs_4, lw_okq q := List.forall_mem_cons.mpr ⟨lw_p48, List.forall_mem_cons.mpr ⟨lw_p49, fun _ h => absurd h List.not_mem_nil⟩⟩
def lw_privs : List (MethodName × Nat) := lw_privs_1 ++ (lw_privs_2 ++ (lw_privs_3 ++ (lw_privs_4)))
def lw_tbl : List Cond := k2_sels lw_privs ++ tables_1
theorem lw_privs_ok : ∀ q ∈ lw_privs, lw_okq q := by
  show ∀ q ∈ lw_privs_1 ++ (lw_privs_2 ++ (lw_privs_3 ++ (lw_privs_4))), lw_okq q
  exact List.forall_mem_append.mpr ⟨lw_r1, List.forall_mem_append.mpr ⟨lw_r2, List.forall_mem_append.mpr ⟨lw_r3, lw_r4⟩⟩⟩
end
section
/-! ===== BEGIN words of one list among another's, by their places ===== -/
theorem goodIn_r {big : List Cond} (ws : List Cond) (ps : List Nat) (hp : ws = ps.filterMap (fun i => big[i]?)) (h : ws.all goodWord = true) : GoodIn big ws := by
  intro w hw
  have h1 := List.all_eq_true.mp h w hw
  rw [hp] at hw
  obtain ⟨i, -, hi⟩ := List.mem_filterMap.mp hw
  have hm : w ∈ big := by first | exact List.mem_of_getElem? hi | exact List.getElem?_mem hi
  exact ⟨hm, good_of_word h1⟩
theorem goodIn_app {big a b : List Cond} (ha : GoodIn big a) (hb : GoodIn big b) : GoodIn big (a ++ b) := fun w h => (List.mem_append.mp h).elim (ha w) (hb w)
theorem goodIn_ca {big a b : List Cond} {c : Cond} (ha : GoodIn big (c :: a)) (hb : GoodIn big b) : GoodIn big (c :: (a ++ b)) := fun w h => (List.mem_cons.mp h).elim (fun e => ha w (List.mem_cons.mpr (Or.inl e))) (fun h => (List.mem_append.mp h).elim (fun h => ha w (List.mem_cons.mpr (Or.inr h))) (hb w))
theorem goodIn_sub {big ws : List Cond} (hm : ∀ w ∈ ws, w ∈ big) (h : ws.all goodWord = true) : GoodIn big ws := fun w hw => ⟨hm w hw, good_of_word (List.all_eq_true.mp h w hw)⟩
/-! ===== END ===== -/

/-! ===== BEGIN exceptions that leave a method, and their catching by the caller (launches without stack traces) ===== -/
section VXA
/-! The laws vx_back, vx_callV, vx_callS, vx_callSW, vx_throw0, vx_throwS follow proofs of the library, with one case more: JvmDerived/Free/Laws.lean (Back.of_free), Shelf42/LK1.lean (callV, callS), Shelf/KitTraced.lean (throwNew0V, throwNewS). -/
/-- where a method has thrown q: the class by its name, the cell, what was written, the world -/
def vx_T (XC : String → State → State → Prop) (st : State) (q : Addr) (t : State) (mc ms : Nat) (free : Addr → Prop) : Prop :=
  ∃ (E : String) (ce : Cell) (L : List Loc), XC E st t ∧ t.heap[q]? = some ce ∧ ce.vm = .none ∧ st.vm.findClass E = some ce.cls ∧ st.WarmedH t.vm ∧ st.sameButNew ({ t with vm := st.vm } : State) L mc ms ∧ ∀ z ∈ L, free z.base
def vx_Q (Qc : Array Value → State → Outcome → State → Prop) (XC : String → State → State → Prop) (mc ms : Nat) (free : Addr → Prop) : Array Value → State → Outcome → State → Prop := fun a st o t =>
  (Qc a st o t ∧ ∃ L, FrameEnd st o t L mc ms ∧ ∀ q ∈ L, free q.base) ∨ ∃ q, o = .threw q ∧ vx_T XC st q t mc ms free
/-- a callee that returns or throws -/
def vx_Met (l : Launch) (y : MethodName) (ws : List Cond) (rm : Room) (Pc : Array Value → State → Prop) (Qc : Array Value → State → Outcome → State → Prop) (XC : String → State → State → Prop) (mc ms : Nat) (free : Addr → Prop) : Prop :=
  MetFree l y (headSpec ws rm) Pc (fun _ _ _ _ _ => True) (vx_Q Qc XC mc ms free)
def vx_Post (XC : String → State → State → Prop) (mc ms : Nat) (free : Addr → Prop) : Pt → Array Value → Addr → Pt → Prop := fun A a q B =>
  ∃ (g : JFrame) (mk : MethodId) (t : State) (L : List Loc) (E : String) (ce : Cell), B.U.heap = t.heap ∧ B.U.vm = t.vm ∧ XC E (A.U.calling g mk a) t ∧ t.heap[q]? = some ce ∧ ce.vm = .none ∧ A.U.vm.findClass E = some ce.cls ∧ B.locs = A.locs ++ L ∧ (∀ z ∈ L, free z.base) ∧ B.cells = A.cells + mc ∧ B.slots = A.slots + ms
def vx_Back (l : Launch) (R : Room) (p : Program) (e : Env) (below : List Frame) (s : State) (sargs : Array Value) (y : MethodName) (len W9 : Nat)
    (Pre : Pt → Array Value → Prop) (Post : Pt → Array Value → Option Value → Pt → Prop) (PostX : Pt → Array Value → Addr → Pt → Prop) : Prop :=
  ∀ (m : MethodId) (meth : Method) (c : Code) (A : Pt) (g : JFrame) (ig : Instr) (mk : MethodId) (a : Array Value),
    Stand p l e R s m sargs below meth c A.U A.locs A.cells A.slots → g.method = m → g.locals.size = c.maxLocals → decode c.code g.pc = .ok (ig, len) →
    2 * g.monitorRoom + (g.stack.map fun v => v.category).sum ≤ W9 → A.U.methodNamed? y = some mk → Pre A a →
    (∃ (v : Option Value) (B : Pt), Stand p l e R s m sargs below meth c B.U B.locs B.cells B.slots ∧ Post A a v B ∧
      Steps p.tables e below (doInvoke e (A.U.setTop g) [] mk a).1 (B.U.setTop { g with pc := g.pc + len, stack := v.toList ++ g.stack })) ∨
    (∃ (q : Addr) (B : Pt), Stand p l e R s m sargs below meth c B.U B.locs B.cells B.slots ∧ PostX A a q B ∧
      Steps p.tables e below (doInvoke e (A.U.setTop g) [] mk a).1 ((B.U.setTop g).pushFrame (.throwing q)))
section Payer
variable {l : Launch} {R : Room} {p : Program} {e : Env} {below : List Frame} {s : State} {sargs : Array Value} {y : MethodName} {len W9 : Nat}
theorem vx_back {ws : List Cond} {rm : Room} {Pc : Array Value → State → Prop} {Qc : Array Value → State → Outcome → State → Prop} {XC : String → State → State → Prop} {mc ms : Nat} {free : Addr → Prop} {bytes : ByteArray} {maxL : Nat} {ret : Option FieldType}
    (hM : vx_Met l y ws rm Pc Qc XC mc ms free) (hblind : FrameBlind Pc) (hrc : rm.cells = mc) (hrs : rm.slots = ms)
    (hframes : rm.frames + 1 ≤ R.frames) (hlocals : W9 + (maxL + 11) + rm.locals ≤ R.locals)
    (hws : ∀ w ∈ ws, ∀ a' U, s.WarmedH U.vm → w.before a' U = true) (hcode : Cond.code y bytes maxL ret ∈ ws) (hinit : ∀ a' U, s.WarmedH U.vm → (Cond.initialized y.cls).before a' U = true) :
    vx_Back l R p e below s sargs y len W9 (PreOf R mc ms Pc) (PostOf Qc mc ms free) (vx_Post XC mc ms free) := by
  intro m meth c A g ig mk a X hg hsize hdg hW hn hp
  have h1 : (headSpec ws rm).pre.before a A.U = true := atoms_intro fun w hw => hws w hw _ _ X.warmed
  have h2 : (Cond.code y bytes maxL ret).before a A.U = true := hws _ hcode _ _ X.warmed
  have h3 : (Cond.initialized y.cls).before a A.U = true := hinit _ _ X.warmed
  have h4 : A.cells + (headSpec ws rm).room.cells ≤ R.cells := by rw [show (headSpec ws rm).room.cells = mc from hrc]; exact hp.1
  have h5 : A.slots + (headSpec ws rm).room.slots ≤ R.slots := by rw [show (headSpec ws rm).room.slots = ms from hrs]; exact hp.2.1
  have hPc : Pc a (A.U.calling g mk a) := hblind _ _ _ _ hp.2.2
  obtain ⟨U, Ls, c0, s0⟩ := A
  dsimp only [Pt.U, Pt.locs, Pt.cells, Pt.slots] at h1 h2 h3 h4 h5 X hn hPc ⊢
  obtain ⟨methY, cY, hmY, hcY, -, hlY, -, -, -, -⟩ := Cond.code_spec hn h2
  obtain ⟨kY, hkY, -⟩ := className_of_methodNamed hn
  have hinitY : kY.init = .initialized := Cond.initialized_spec (findClass_of_methodNamed hn) hkY h3
  have h : At U g.method c below := by rw [hg]; exact X.here
  have hlocals9 : W9 + (maxL + 11) + (headSpec ws rm).room.locals ≤ R.locals := hlocals
  have happ : (headSpec ws rm).appliesLoose y e.platform (U.calling g mk a) = true :=
    Spec.appliesLoose_calling (g := g) h hdg hn hkY hinitY
      (X.room_calling (g := g) (R' := (headSpec ws rm).room) hsize hmY hcY hframes (by rw [hlY]; omega) h4 h5) h1
  obtain ⟨mid, hmid⟩ := h.above
  have hfr : (U.setTop g).frames = (.java g :: mid) ++ below := by rw [State.frames_setTop' g h.top, hmid]; rfl
  obtain ⟨o, s₂, hsteps, -, hend, hq⟩ := Steps.callFree hM p X.admits X.cas X.clock (acts := []) hfr happ hPc trivial
  have hq' : vx_Q Qc XC mc ms free a (U.calling g mk a) o s₂ := hq
  rw [State.frames_setTop' g h.top] at hend
  obtain ⟨g₀, hg0⟩ := Option.isSome_iff_exists.mp h.top
  obtain ⟨r, hr⟩ := State.topJava?_eq_some.mp hg0
  have hr' : (({ U with heap := s₂.heap, slotsUsed := s₂.slotsUsed } : State).setVm s₂.vm).frames = .java g₀ :: r := hr
  rcases hq' with ⟨hqc, L, hfe, hL⟩ | ⟨q, rfl, E, ce, L, hx, hce, hcv, hcl, hW₂, hsm, hL⟩
  · obtain ⟨⟨v, rfl⟩, hW₂, e2, q2, q3, q4, q5, q6⟩ := id hfe
    have e3 : s₂ = ({ (U.calling g mk a).setFrames s₂.frames with heap := s₂.heap, slotsUsed := s₂.slotsUsed } : State).setVm s₂.vm := by
      have : s₂ = ({ s₂ with vm := (U.calling g mk a).vm } : State).setVm s₂.vm := rfl
      rw [e2] at this
      exact this
    obtain ⟨c₂, i₂, len₂, hc₂, hd₂, hf₂⟩ := hend
    have hW' : U.WarmedH s₂.vm := hW₂
    have hcc : c₂ = c := by
      have h1 : s₂.code? g.method = U.code? g.method := by
        rw [State.code?_eq, State.code?_eq, hW'.alike.method?]
      exact Option.some.inj (hc₂.symm.trans (h1.trans h.code))
    subst hcc
    have hlen : len₂ = len := by rw [hdg] at hd₂; cases hd₂; rfl
    subst hlen
    have hs₂ : s₂ = (({ U with heap := s₂.heap, slotsUsed := s₂.slotsUsed } : State).setVm s₂.vm).setTop { g with pc := g.pc + len₂, stack := v.toList ++ g.stack } := by
      refine e3.trans ?_
      rw [hf₂, State.calling_eq h.top, State.setFrames_setFrames, State.setTop_of_frames _ hr', hr]
      rfl
    have hsame : U.sameButNew ({ U with heap := s₂.heap, slotsUsed := s₂.slotsUsed } : State) L mc ms := by
      refine ⟨?_, q2, q3, q4, q5, q6⟩
      obtain ⟨t, ht, -⟩ := State.frames_cons hr
      show ({ U with heap := s₂.heap, slotsUsed := s₂.slotsUsed } : State) = { U.setFrames U.frames with heap := s₂.heap, slotsUsed := s₂.slotsUsed }
      rw [State.setFrames_self ht]
    subst hg
    refine Or.inl ⟨v, ⟨(({ U with heap := s₂.heap, slotsUsed := s₂.slotsUsed } : State).setVm s₂.vm), Ls ++ L, c0 + mc, s0 + ms⟩,
      ⟨X.admits, X.cas, X.clock, X.frames, X.room, X.hears, X.method, X.code, (X.here.setHeapUsed s₂.heap s₂.slotsUsed).setVm hW'.alike, X.tail, State.WarmedH.trans X.warmed hW', X.limits, X.bytes, X.same.trans (hsame.setVm s.vm)⟩,
      ⟨g, mk, s₂, L, rfl, rfl, hqc, rfl, hL, rfl, rfl⟩, ?_⟩
    show Steps p.tables e below _ ((({ U with heap := s₂.heap, slotsUsed := s₂.slotsUsed } : State).setVm s₂.vm).setTop { g with pc := g.pc + len₂, stack := v.toList ++ g.stack })
    rw [← hs₂]
    exact hsteps
  · obtain ⟨e2, q2, q3, q4, q5, q6⟩ := id hsm
    have e3 : s₂ = ({ (U.calling g mk a).setFrames s₂.frames with heap := s₂.heap, slotsUsed := s₂.slotsUsed } : State).setVm s₂.vm := by
      have : s₂ = ({ s₂ with vm := (U.calling g mk a).vm } : State).setVm s₂.vm := rfl
      rw [e2] at this
      exact this
    have hf₂ : s₂.frames = .throwing q :: .java g :: U.frames.tail := hend
    have hW' : U.WarmedH s₂.vm := hW₂
    have hs₂ : s₂ = ((({ U with heap := s₂.heap, slotsUsed := s₂.slotsUsed } : State).setVm s₂.vm).setTop g).pushFrame (.throwing q) := by
      refine e3.trans ?_
      rw [hf₂, State.calling_eq h.top, State.setFrames_setFrames, State.pushFrame, State.frames_setTop _ hr', State.setTop_of_frames _ hr', State.setFrames_setFrames, hr]
      rfl
    have hsame : U.sameButNew ({ U with heap := s₂.heap, slotsUsed := s₂.slotsUsed } : State) L mc ms := by
      refine ⟨?_, q2, q3, q4, q5, q6⟩
      obtain ⟨t, ht, -⟩ := State.frames_cons hr
      show ({ U with heap := s₂.heap, slotsUsed := s₂.slotsUsed } : State) = { U.setFrames U.frames with heap := s₂.heap, slotsUsed := s₂.slotsUsed }
      rw [State.setFrames_self ht]
    subst hg
    refine Or.inr ⟨q, ⟨(({ U with heap := s₂.heap, slotsUsed := s₂.slotsUsed } : State).setVm s₂.vm), Ls ++ L, c0 + mc, s0 + ms⟩,
      ⟨X.admits, X.cas, X.clock, X.frames, X.room, X.hears, X.method, X.code, (X.here.setHeapUsed s₂.heap s₂.slotsUsed).setVm hW'.alike, X.tail, State.WarmedH.trans X.warmed hW', X.limits, X.bytes, X.same.trans (hsame.setVm s.vm)⟩,
      ⟨g, mk, s₂, L, E, ce, rfl, rfl, hx, hce, hcv, hcl, rfl, hL, rfl, rfl⟩, ?_⟩
    show Steps p.tables e below _ (((({ U with heap := s₂.heap, slotsUsed := s₂.slotsUsed } : State).setVm s₂.vm).setTop g).pushFrame (.throwing q))
    rw [← hs₂]
    exact hsteps
end Payer
section Calls
variable {p : Program} {l : Launch} {e : Env} {R : Room} {s : State} {m : MethodId} {args : Array Value} {below : List Frame} {meth : Method} {c : Code} {T : State} {locs : List Loc} {cells slots : Nat}
theorem vx_callV (X : Stand p l e R s m args below meth c T locs cells slots) (hexec : p.tables.exec = Jvm.exec) {own C : String} {index : Nat} {y : MethodName} {bytes : ByteArray} {maxL : Nat} {ret : Option FieldType}
    (hown : s.vm.findClass own = some m.cls) (hlink : (Cond.methodLink own index y).before args s = true) (hinst : (Cond.instanceMethod y).before args s = true) (hsel : (Cond.selects C y y).before args s = true)
    (hcode : (Cond.code y bytes maxL ret).before args s = true) (hy : y.cls ≠ "java/lang/invoke/MethodHandle" ∧ y.cls ≠ "java/lang/invoke/VarHandle")
    {W9 : Nat} {Pre : Pt → Array Value → Prop} {Post : Pt → Array Value → Option Value → Pt → Prop} {PostX : Pt → Array Value → Addr → Pt → Prop} (hK : vx_Back l R p e below s args y 3 W9 Pre Post PostX)
    {b : Addr} {cellB : Cell} (hcell : T.heap[b]? = some cellB) (hobj : cellB.vm.isStatics = false) (hcls : s.vm.findClass C = some cellB.cls)
    {g : JFrame} (hg : g.method = m) (hsize : g.locals.size = c.maxLocals) {argsL rest : List Value} (hlen : ∀ sig, parseMethodDescriptor y.desc = some sig → argsL.length = sig.parameters.length)
    (hstack : g.stack = argsL.reverse ++ .ref b :: rest) (hW : 2 * g.monitorRoom + (rest.map fun v => v.category).sum ≤ W9) (hdg : decode c.code g.pc = .ok (.invokevirtual index, 3))
    (hpre : ∀ vm₁, s.WarmedH vm₁ → Pre ⟨T.setVm vm₁, locs, cells, slots⟩ (Value.ref b :: argsL).toArray) :
    (∃ (v : Option Value) (vm₁ : Vm) (B : Pt), s.WarmedH vm₁ ∧ Stand p l e R s m args below meth c B.U B.locs B.cells B.slots ∧ Post ⟨T.setVm vm₁, locs, cells, slots⟩ (Value.ref b :: argsL).toArray v B ∧
      ∀ target, Steps p.tables e below (B.U.setTop { g with pc := g.pc + 3, stack := v.toList ++ rest }) target → Steps p.tables e below (T.setTop g) target) ∨
    (∃ (q : Addr) (vm₁ : Vm) (B : Pt), s.WarmedH vm₁ ∧ Stand p l e R s m args below meth c B.U B.locs B.cells B.slots ∧ PostX ⟨T.setVm vm₁, locs, cells, slots⟩ (Value.ref b :: argsL).toArray q B ∧
      Steps p.tables e below (T.setTop g) ((B.U.setTop { g with stack := rest }).pushFrame (.throwing q))) := by
  obtain ⟨mk, methM, hnamed, hmethM, hstM, habM⟩ := Cond.instanceMethod_spec hinst
  obtain ⟨methM', cM, hmethM', -, -, -, -, -, -, hsigM⟩ := Cond.code_spec hnamed hcode
  cases hmethM.symm.trans hmethM'
  obtain ⟨c2, r2, m2, q1, q2, q3, q4, kP, hkP, hkPi⟩ := Cond.selects_spec hsel
  cases hcls.symm.trans q1
  cases (State.methodFound?_of_named hnamed hy).symm.trans q2
  cases hnamed.symm.trans q3
  have hselP : selectMethod e.platform s.vm cellB.cls mk = .method mk := by rw [Launch.admits_selectMethod X.admits]; exact q4
  obtain ⟨vm₁, X₁, hstep₁⟩ := X.invokevirtual hexec hown hlink hnamed hmethM hstM hkP hkPi hy (a := b) (cell := cellB) hcell
    (fun z h => by rw [h] at hobj; cases hobj) hselP hmethM habM hkP hkPi (g := g) hg (argsL := argsL) (rest := rest) (hlen _ hsigM) hstack hdg
  rcases hK m meth c ⟨T.setVm vm₁, locs, cells, slots⟩ { g with stack := rest } (.invokevirtual index) mk (Value.ref b :: argsL).toArray X₁ hg hsize hdg hW (X₁.named hnamed) (hpre vm₁ X₁.warmed) with ⟨v, B, X', hpost, hsteps⟩ | ⟨q, B, X', hpost, hsteps⟩
  · exact Or.inl ⟨v, vm₁, B, X₁.warmed, X', hpost, fun target h => hstep₁ _ fun acts => by rw [doInvoke_state]; exact hsteps.trans h⟩
  · exact Or.inr ⟨q, vm₁, B, X₁.warmed, X', hpost, hstep₁ _ fun acts => by rw [doInvoke_state]; exact hsteps⟩
theorem vx_callS (X : Stand p l e R s m args below meth c T locs cells slots) (hexec : p.tables.exec = Jvm.exec) {own : String} {index : Nat} {y : MethodName} {bytes : ByteArray} {maxL : Nat} {ret : Option FieldType}
    (hown : s.vm.findClass own = some m.cls) (hlink : (Cond.methodLink own index y).before args s = true) (hstat : (Cond.static y).before args s = true) (hinit : (Cond.initialized y.cls).before args s = true)
    (hcode : (Cond.code y bytes maxL ret).before args s = true) (hy : y.cls ≠ "java/lang/invoke/MethodHandle" ∧ y.cls ≠ "java/lang/invoke/VarHandle")
    {W9 : Nat} {Pre : Pt → Array Value → Prop} {Post : Pt → Array Value → Option Value → Pt → Prop} {PostX : Pt → Array Value → Addr → Pt → Prop} (hK : vx_Back l R p e below s args y 3 W9 Pre Post PostX)
    {g : JFrame} (hg : g.method = m) (hsize : g.locals.size = c.maxLocals) {argsL rest : List Value} (hlen : ∀ sig, parseMethodDescriptor y.desc = some sig → argsL.length = sig.parameters.length)
    (hstack : g.stack = argsL.reverse ++ rest) (hW : 2 * g.monitorRoom + (rest.map fun v => v.category).sum ≤ W9) (hdg : decode c.code g.pc = .ok (.invokestatic index, 3))
    (hpre : ∀ vm₁, s.WarmedH vm₁ → Pre ⟨T.setVm vm₁, locs, cells, slots⟩ argsL.toArray) :
    (∃ (v : Option Value) (vm₁ : Vm) (B : Pt), s.WarmedH vm₁ ∧ Stand p l e R s m args below meth c B.U B.locs B.cells B.slots ∧ Post ⟨T.setVm vm₁, locs, cells, slots⟩ argsL.toArray v B ∧
      ∀ target, Steps p.tables e below (B.U.setTop { g with pc := g.pc + 3, stack := v.toList ++ rest }) target → Steps p.tables e below (T.setTop g) target) ∨
    (∃ (q : Addr) (vm₁ : Vm) (B : Pt), s.WarmedH vm₁ ∧ Stand p l e R s m args below meth c B.U B.locs B.cells B.slots ∧ PostX ⟨T.setVm vm₁, locs, cells, slots⟩ argsL.toArray q B ∧
      Steps p.tables e below (T.setTop g) ((B.U.setTop { g with stack := rest }).pushFrame (.throwing q))) := by
  obtain ⟨mk, hnamed⟩ := Cond.code_named hcode
  obtain ⟨methM, cM, hmethM, -, -, -, -, -, -, hsigM⟩ := Cond.code_spec hnamed hcode
  have hstatic : methM.isStatic = true := Cond.static_spec hnamed hmethM hstat
  obtain ⟨kP, hkP, -⟩ := className_of_methodNamed hnamed
  have hinitP : kP.init = .initialized := Cond.initialized_spec (findClass_of_methodNamed hnamed) hkP hinit
  obtain ⟨vm₁, X₁, hstep₁⟩ := X.invokestatic hexec hown hlink hnamed hmethM hstatic hkP hinitP hy (g := g) hg (argsL := argsL) (rest := rest) (hlen _ hsigM) hstack hdg
  rcases hK m meth c ⟨T.setVm vm₁, locs, cells, slots⟩ { g with stack := rest } (.invokestatic index) mk argsL.toArray X₁ hg hsize hdg hW (X₁.named hnamed) (hpre vm₁ X₁.warmed) with ⟨v, B, X', hpost, hsteps⟩ | ⟨q, B, X', hpost, hsteps⟩
  · exact Or.inl ⟨v, vm₁, B, X₁.warmed, X', hpost, fun target h => hstep₁ _ fun acts => by rw [doInvoke_state]; exact hsteps.trans h⟩
  · exact Or.inr ⟨q, vm₁, B, X₁.warmed, X', hpost, hstep₁ _ fun acts => by rw [doInvoke_state]; exact hsteps⟩
end Calls
theorem vx_cls {s : State} {T : State} {vm₁ : Vm} {E : String} {k : ClassId} (hW : s.WarmedH vm₁) (h : (T.setVm vm₁).vm.findClass E = some k) : s.vm.findClass E = some k := by
  have h1 : vm₁.findClass E = some k := h
  rw [hW.alike.findClass] at h1
  exact h1
/-- the method's frame g, with q thrown over it -/
def vx_W (p : Program) (l : Launch) (e : Env) (R : Room) (s : State) (m : MethodId) (args : Array Value) (below : List Frame) (meth : Method) (c : Code) (H : Heap) (locs : List Loc) (cells slots : Nat) (Q : State → Prop) (g : JFrame) (q : Addr) : Prop :=
  ∀ T : State, T.heap = H → Stand p l e R s m args below meth c T locs cells slots → ∃ t, Steps p.tables e below ((T.setTop g).pushFrame (.throwing q)) t ∧ Q t
def vx_Run (p : Program) (l : Launch) (e : Env) (R : Room) (s : State) (m : MethodId) (args : Array Value) (below : List Frame) (meth : Method) (c : Code) (H : Heap) (locs : List Loc) (cells slots mc ms : Nat) (g : JFrame) (rest : List Value) (Qa : State → Outcome → State → Prop) (XC : String → State → State → Prop) (free : Addr → Prop) : Prop :=
  ∀ T : State, T.heap = H → Stand p l e R s m args below meth c T locs cells slots →
    (∃ (v : Option Value) (st₀ t T' : State) (L : List Loc), st₀.heap = H ∧ Stand p l e R s m args below meth c T' (locs ++ L) (cells + mc) (slots + ms) ∧ (∀ q ∈ L, free q.base) ∧ T'.heap = t.heap ∧ T'.vm = t.vm ∧ Qa st₀ (.returned v) t ∧
      Goes p e below T g T' { g with pc := g.pc + 3, stack := v.toList ++ rest }) ∨
    (∃ (q : Addr) (st₀ t T' : State) (L : List Loc) (E : String) (ce : Cell), st₀.heap = H ∧ Stand p l e R s m args below meth c T' (locs ++ L) (cells + mc) (slots + ms) ∧ (∀ z ∈ L, free z.base) ∧ T'.heap = t.heap ∧ T'.vm = t.vm ∧ XC E st₀ t ∧ t.heap[q]? = some ce ∧ ce.vm = .none ∧ s.vm.findClass E = some ce.cls ∧
      Steps p.tables e below (T.setTop g) ((T'.setTop { g with stack := rest }).pushFrame (.throwing q)))
def vx_X {S : Type} (px : S → Prop) (B : String → S → State → Prop) (A : Nat → Prop) : String → State → State → Prop := fun E st t => ∃ u : S, px u ∧ B E u t ∧ va_F A st t
section Runs
variable {p : Program} {l : Launch} {e : Env} {R : Room} {s : State} {m : MethodId} {args : Array Value} {below : List Frame} {meth : Method} {c : Code} {H : Heap} {locs : List Loc} {cells slots : Nat}
variable {y : MethodName} {bytes cc : ByteArray} {maxL nL mc ms n index : Nat} {ret : Option FieldType} {ws : List Cond} {rm : Room} {Pc : Array Value → State → Prop} {Qc : Array Value → State → Outcome → State → Prop} {XC : String → State → State → Prop} {free : Addr → Prop} {Ts : List Cond} {own C : String} {b : Addr} {As rest : List Value} {g : JFrame}
theorem vx_callBack (cb : CallB R s args own index y bytes maxL ret ws rm mc ms n) (hM : vx_Met l y ws rm Pc Qc XC mc ms free) (hbl : FrameBlind Pc) : vx_Back l R p e below s args y 3 8 (PreOf R mc ms Pc) (PostOf Qc mc ms free) (vx_Post XC mc ms free) := by
  obtain ⟨hrc, hrs, hfr, hlo, hws, hcw, -, hini, -⟩ := cb
  exact vx_back (bytes := bytes) (maxL := maxL) (ret := ret) hM hbl hrc hrs hfr hlo hws hcw (fun a' U hW => word_at hW (Or.inl (by first | rfl | simp [Cond.onTables, Cond.keeps, Cond.steady])) hini)
theorem vx_runV (S : CallFix p m c cc nL s args Ts own) (hM : vx_Met l y ws rm Pc Qc XC mc ms free) (cw : CallW R s args own C index y bytes maxL ret ws rm mc ms n) (hp : PreV s H C b Pc As)
    (hg : g.method = m) (hn : As.length = n) (hsize : g.locals.size = nL) (hstack : g.stack = As.reverse ++ .ref b :: rest) (hW : 2 * g.monitorRoom + (rest.map fun v => v.category).sum ≤ 8) (hdg : decode cc g.pc = .ok (.invokevirtual index, 3)) (hf : cells + mc ≤ R.cells ∧ slots + ms ≤ R.slots) :
    vx_Run p l e R s m args below meth c H locs cells slots mc ms g rest (Qc (Value.ref b :: As).toArray) XC free := by
  have hK : vx_Back l R p e below s args y 3 8 (PreOf R mc ms Pc) (PostOf Qc mc ms free) (vx_Post XC mc ms free) := vx_callBack cw.1 hM hp.1
  obtain ⟨⟨-, -, -, -, -, -, hcode, -, hy, hlen, hl⟩, hin, hse⟩ := cw
  obtain ⟨hx, hb, hml, ho, -⟩ := S
  obtain ⟨-, ⟨cellB, hcB, hoB, hclB⟩, hPc⟩ := hp
  intro T hT X
  rcases vx_callV X hx (C := C) (bytes := bytes) (maxL := maxL) (ret := ret) ho hl hin hse hcode hy hK (by rw [hT]; exact hcB) hoB hclB hg (hsize.trans hml.symm) (argsL := As) (rest := rest) (fun sig h => hn.trans (hlen sig h)) hstack hW (by rw [hb]; exact hdg)
    (fun vm₁ hW₁ => ⟨hf.1, hf.2, hPc (T.setVm vm₁) hT hW₁⟩) with ⟨v, vm₁, ⟨U', l2, c2, s2⟩, hW₁, X', ⟨g', mk, t, L, e1, e2, hq, h1, hL, h2, h3⟩, st⟩ | ⟨q, vm₁, ⟨U', l2, c2, s2⟩, hW₁, X', ⟨g', mk, t, L, E, ce, e1, e2, hq, hce, hcv, hcl, h1, hL, h2, h3⟩, st⟩
  · dsimp only [Pt.U, Pt.locs, Pt.cells, Pt.slots] at X' e1 e2 h1 h2 h3 st
    subst h1; subst h2; subst h3
    exact Or.inl ⟨v, (T.setVm vm₁).calling g' mk (Value.ref b :: As).toArray, t, U', L, hT, X', hL, e1, e2, hq, st⟩
  · dsimp only [Pt.U, Pt.locs, Pt.cells, Pt.slots] at X' e1 e2 h1 h2 h3 st hcl
    subst h1; subst h2; subst h3
    exact Or.inr ⟨q, (T.setVm vm₁).calling g' mk (Value.ref b :: As).toArray, t, U', L, E, ce, hT, X', hL, e1, e2, hq, hce, hcv, vx_cls hW₁ hcl, st⟩
theorem vx_runS (S : CallFix p m c cc nL s args Ts own) (hM : vx_Met l y ws rm Pc Qc XC mc ms free) (cw : CallB R s args own index y bytes maxL ret ws rm mc ms n ∧ (Cond.static y).before args s = true) (hp : PreS s H Pc As)
    (hg : g.method = m) (hn : As.length = n) (hsize : g.locals.size = nL) (hstack : g.stack = As.reverse ++ rest) (hW : 2 * g.monitorRoom + (rest.map fun v => v.category).sum ≤ 8) (hdg : decode cc g.pc = .ok (.invokestatic index, 3)) (hf : cells + mc ≤ R.cells ∧ slots + ms ≤ R.slots) :
    vx_Run p l e R s m args below meth c H locs cells slots mc ms g rest (Qc As.toArray) XC free := by
  have hK : vx_Back l R p e below s args y 3 8 (PreOf R mc ms Pc) (PostOf Qc mc ms free) (vx_Post XC mc ms free) := vx_callBack cw.1 hM hp.1
  obtain ⟨⟨-, -, -, -, -, -, hcode, hini, hy, hlen, hl⟩, hstt⟩ := cw
  obtain ⟨hx, hb, hml, ho, -⟩ := S
  intro T hT X
  rcases vx_callS X hx (bytes := bytes) (maxL := maxL) (ret := ret) ho hl hstt hini hcode hy hK hg (hsize.trans hml.symm) (argsL := As) (rest := rest) (fun sig h => hn.trans (hlen sig h)) hstack hW (by rw [hb]; exact hdg)
    (fun vm₁ hW₁ => ⟨hf.1, hf.2, hp.2 (T.setVm vm₁) hT hW₁⟩) with ⟨v, vm₁, ⟨U', l2, c2, s2⟩, hW₁, X', ⟨g', mk, t, L, e1, e2, hq, h1, hL, h2, h3⟩, st⟩ | ⟨q, vm₁, ⟨U', l2, c2, s2⟩, hW₁, X', ⟨g', mk, t, L, E, ce, e1, e2, hq, hce, hcv, hcl, h1, hL, h2, h3⟩, st⟩
  · dsimp only [Pt.U, Pt.locs, Pt.cells, Pt.slots] at X' e1 e2 h1 h2 h3 st
    subst h1; subst h2; subst h3
    exact Or.inl ⟨v, (T.setVm vm₁).calling g' mk As.toArray, t, U', L, hT, X', hL, e1, e2, hq, st⟩
  · dsimp only [Pt.U, Pt.locs, Pt.cells, Pt.slots] at X' e1 e2 h1 h2 h3 st hcl
    subst h1; subst h2; subst h3
    exact Or.inr ⟨q, (T.setVm vm₁).calling g' mk As.toArray, t, U', L, E, ce, hT, X', hL, e1, e2, hq, hce, hcv, vx_cls hW₁ hcl, st⟩
end Runs
section Rows
variable {p : Program} {l : Launch} {e : Env} {R : Room} {s : State} {m : MethodId} {args : Array Value} {below : List Frame} {meth : Method} {c : Code} {H : Heap} {locs : List Loc} {cells slots : Nat} {Q : State → Prop}
variable {mc ms : Nat} {free : Addr → Prop} {A0 A1 : Nat → Prop} {H0 : Heap} {a : Array Value} {pc : Nat} {ls : Array Slot} {st0 rest : List Value}
theorem vx_keep {st₀ t T' : State} {L : List Loc} (h0 : st₀.heap = H) (e1 : T'.heap = t.heap) (hS : va_S A0 H0 H locs) (hA : ∀ q, q < H.size → A1 q → A0 q) (hf : ∀ q, free q → A0 q) (hL : ∀ q ∈ L, free q.base) (hF : va_F A1 st₀ t) :
    H.size ≤ T'.heap.size ∧ (∀ q : Nat, q < H.size → ¬ A1 q → T'.heap[q]? = H[q]?) ∧ va_S A0 H0 T'.heap (locs ++ L) := by
  obtain ⟨hz, hk⟩ := hF
  rw [h0] at hz hk
  exact ⟨by rw [e1]; exact hz, fun q h1 h2 => by rw [e1]; exact hk q h1 h2,
    ⟨Nat.le_trans hS.1 (by rw [e1]; exact hz), fun q h1 h2 => by rw [e1, hk q (Nat.lt_of_lt_of_le h1 hS.1) (fun z => h2 (hA q (Nat.lt_of_lt_of_le h1 hS.1) z))]; exact hS.2.1 q h1 h2, fun q hq => by
      rcases List.mem_append.mp hq with h | h
      · exact hS.2.2 q h
      · exact hf _ (hL q h)⟩⟩
theorem vx_calli {S SX : Type} {post : Int32 → S → Prop} {px : SX → Prop} {B : S → State → Prop} {BX : String → SX → State → Prop} {AX : Nat → Prop} (hr : vx_Run p l e R s m args below meth c H locs cells slots mc ms (F0 m pc ls st0) rest (va_Qi post B A1 a) (vx_X px BX AX) free) (hS : va_S A0 H0 H locs) (hA : ∀ q, q < H.size → A1 q → A0 q) (hf : ∀ q, free q → A0 q) (hAX : ∀ q, q < H.size → AX q → A0 q)
    (kx : ∀ (E : String) (ce : Cell) (q9 : Addr) (u : SX) (t : State) (H1 : Heap) (locs1 : List Loc), t.heap = H1 → s.vm.Alike t.vm → px u → BX E u t → H.size ≤ H1.size → (∀ q : Nat, q < H.size → ¬ AX q → H1[q]? = H[q]?) → va_S A0 H0 H1 locs1 → H1[q9]? = some ce → ce.vm = .none → s.vm.findClass E = some ce.cls → vx_W p l e R s m args below meth c H1 locs1 (cells + mc) (slots + ms) Q (F0 m pc ls rest) q9)
    (kk : ∀ (r : Int32) (u : S) (t : State) (H1 : Heap) (locs1 : List Loc), t.heap = H1 → s.vm.Alike t.vm → post r u → B u t → H.size ≤ H1.size → (∀ q : Nat, q < H.size → ¬ A1 q → H1[q]? = H[q]?) → va_S A0 H0 H1 locs1 → W p l e R s m args below meth c H1 locs1 (cells + mc) (slots + ms) Q (F0 m (pc + 3) ls (.int r :: rest))) : W p l e R s m args below meth c H locs cells slots Q (F0 m pc ls st0) := by
  intro T hT X
  rcases hr T hT X with ⟨v, st₀, t, T', L, h0, X', hL, e1, e2, ⟨⟨r, u, hv, hp, hb⟩, hF⟩, st⟩ | ⟨q, st₀, t, T', L, E, ce, h0, X', hL, e1, e2, ⟨u, hp, hb, hF⟩, hce, hcv, hcl, st⟩
  · cases hv
    obtain ⟨k1, k2, k3⟩ := vx_keep h0 e1 hS hA hf hL hF
    obtain ⟨t2, a1, b1⟩ := kk r u t T'.heap (locs ++ L) e1.symm (by rw [← e2]; exact X'.warmed.alike) hp hb k1 k2 k3 T' rfl X'
    exact ⟨t2, st t2 a1, b1⟩
  · obtain ⟨k1, k2, k3⟩ := vx_keep h0 e1 hS hAX hf hL hF
    obtain ⟨t2, a1, b1⟩ := kx E ce q u t T'.heap (locs ++ L) e1.symm (by rw [← e2]; exact X'.warmed.alike) hp hb k1 k2 k3 (by rw [e1]; exact hce) hcv hcl T' rfl X'
    exact ⟨t2, st.trans a1, b1⟩
theorem vx_calll {S SX : Type} {post : Int64 → S → Prop} {px : SX → Prop} {B : S → State → Prop} {BX : String → SX → State → Prop} {AX : Nat → Prop} (hr : vx_Run p l e R s m args below meth c H locs cells slots mc ms (F0 m pc ls st0) rest (va_Ql post B A1 a) (vx_X px BX AX) free) (hS : va_S A0 H0 H locs) (hA : ∀ q, q < H.size → A1 q → A0 q) (hf : ∀ q, free q → A0 q) (hAX : ∀ q, q < H.size → AX q → A0 q)
    (kx : ∀ (E : String) (ce : Cell) (q9 : Addr) (u : SX) (t : State) (H1 : Heap) (locs1 : List Loc), t.heap = H1 → s.vm.Alike t.vm → px u → BX E u t → H.size ≤ H1.size → (∀ q : Nat, q < H.size → ¬ AX q → H1[q]? = H[q]?) → va_S A0 H0 H1 locs1 → H1[q9]? = some ce → ce.vm = .none → s.vm.findClass E = some ce.cls → vx_W p l e R s m args below meth c H1 locs1 (cells + mc) (slots + ms) Q (F0 m pc ls rest) q9)
    (kk : ∀ (r : Int64) (u : S) (t : State) (H1 : Heap) (locs1 : List Loc), t.heap = H1 → s.vm.Alike t.vm → post r u → B u t → H.size ≤ H1.size → (∀ q : Nat, q < H.size → ¬ A1 q → H1[q]? = H[q]?) → va_S A0 H0 H1 locs1 → W p l e R s m args below meth c H1 locs1 (cells + mc) (slots + ms) Q (F0 m (pc + 3) ls (.long r :: rest))) : W p l e R s m args below meth c H locs cells slots Q (F0 m pc ls st0) := by
  intro T hT X
  rcases hr T hT X with ⟨v, st₀, t, T', L, h0, X', hL, e1, e2, ⟨⟨r, u, hv, hp, hb⟩, hF⟩, st⟩ | ⟨q, st₀, t, T', L, E, ce, h0, X', hL, e1, e2, ⟨u, hp, hb, hF⟩, hce, hcv, hcl, st⟩
  · cases hv
    obtain ⟨k1, k2, k3⟩ := vx_keep h0 e1 hS hA hf hL hF
    obtain ⟨t2, a1, b1⟩ := kk r u t T'.heap (locs ++ L) e1.symm (by rw [← e2]; exact X'.warmed.alike) hp hb k1 k2 k3 T' rfl X'
    exact ⟨t2, st t2 a1, b1⟩
  · obtain ⟨k1, k2, k3⟩ := vx_keep h0 e1 hS hAX hf hL hF
    obtain ⟨t2, a1, b1⟩ := kx E ce q u t T'.heap (locs ++ L) e1.symm (by rw [← e2]; exact X'.warmed.alike) hp hb k1 k2 k3 (by rw [e1]; exact hce) hcv hcl T' rfl X'
    exact ⟨t2, st.trans a1, b1⟩
theorem vx_callf {S SX : Type} {post : UInt32 → S → Prop} {px : SX → Prop} {B : S → State → Prop} {BX : String → SX → State → Prop} {AX : Nat → Prop} (hr : vx_Run p l e R s m args below meth c H locs cells slots mc ms (F0 m pc ls st0) rest (va_Qf post B A1 a) (vx_X px BX AX) free) (hS : va_S A0 H0 H locs) (hA : ∀ q, q < H.size → A1 q → A0 q) (hf : ∀ q, free q → A0 q) (hAX : ∀ q, q < H.size → AX q → A0 q)
    (kx : ∀ (E : String) (ce : Cell) (q9 : Addr) (u : SX) (t : State) (H1 : Heap) (locs1 : List Loc), t.heap = H1 → s.vm.Alike t.vm → px u → BX E u t → H.size ≤ H1.size → (∀ q : Nat, q < H.size → ¬ AX q → H1[q]? = H[q]?) → va_S A0 H0 H1 locs1 → H1[q9]? = some ce → ce.vm = .none → s.vm.findClass E = some ce.cls → vx_W p l e R s m args below meth c H1 locs1 (cells + mc) (slots + ms) Q (F0 m pc ls rest) q9)
    (kk : ∀ (r : UInt32) (u : S) (t : State) (H1 : Heap) (locs1 : List Loc), t.heap = H1 → s.vm.Alike t.vm → post r u → B u t → H.size ≤ H1.size → (∀ q : Nat, q < H.size → ¬ A1 q → H1[q]? = H[q]?) → va_S A0 H0 H1 locs1 → W p l e R s m args below meth c H1 locs1 (cells + mc) (slots + ms) Q (F0 m (pc + 3) ls (.float r :: rest))) : W p l e R s m args below meth c H locs cells slots Q (F0 m pc ls st0) := by
  intro T hT X
  rcases hr T hT X with ⟨v, st₀, t, T', L, h0, X', hL, e1, e2, ⟨⟨r, u, hv, hp, hb⟩, hF⟩, st⟩ | ⟨q, st₀, t, T', L, E, ce, h0, X', hL, e1, e2, ⟨u, hp, hb, hF⟩, hce, hcv, hcl, st⟩
  · cases hv
    obtain ⟨k1, k2, k3⟩ := vx_keep h0 e1 hS hA hf hL hF
    obtain ⟨t2, a1, b1⟩ := kk r u t T'.heap (locs ++ L) e1.symm (by rw [← e2]; exact X'.warmed.alike) hp hb k1 k2 k3 T' rfl X'
    exact ⟨t2, st t2 a1, b1⟩
  · obtain ⟨k1, k2, k3⟩ := vx_keep h0 e1 hS hAX hf hL hF
    obtain ⟨t2, a1, b1⟩ := kx E ce q u t T'.heap (locs ++ L) e1.symm (by rw [← e2]; exact X'.warmed.alike) hp hb k1 k2 k3 (by rw [e1]; exact hce) hcv hcl T' rfl X'
    exact ⟨t2, st.trans a1, b1⟩
theorem vx_calld {S SX : Type} {post : UInt64 → S → Prop} {px : SX → Prop} {B : S → State → Prop} {BX : String → SX → State → Prop} {AX : Nat → Prop} (hr : vx_Run p l e R s m args below meth c H locs cells slots mc ms (F0 m pc ls st0) rest (va_Qd post B A1 a) (vx_X px BX AX) free) (hS : va_S A0 H0 H locs) (hA : ∀ q, q < H.size → A1 q → A0 q) (hf : ∀ q, free q → A0 q) (hAX : ∀ q, q < H.size → AX q → A0 q)
    (kx : ∀ (E : String) (ce : Cell) (q9 : Addr) (u : SX) (t : State) (H1 : Heap) (locs1 : List Loc), t.heap = H1 → s.vm.Alike t.vm → px u → BX E u t → H.size ≤ H1.size → (∀ q : Nat, q < H.size → ¬ AX q → H1[q]? = H[q]?) → va_S A0 H0 H1 locs1 → H1[q9]? = some ce → ce.vm = .none → s.vm.findClass E = some ce.cls → vx_W p l e R s m args below meth c H1 locs1 (cells + mc) (slots + ms) Q (F0 m pc ls rest) q9)
    (kk : ∀ (r : UInt64) (u : S) (t : State) (H1 : Heap) (locs1 : List Loc), t.heap = H1 → s.vm.Alike t.vm → post r u → B u t → H.size ≤ H1.size → (∀ q : Nat, q < H.size → ¬ A1 q → H1[q]? = H[q]?) → va_S A0 H0 H1 locs1 → W p l e R s m args below meth c H1 locs1 (cells + mc) (slots + ms) Q (F0 m (pc + 3) ls (.double r :: rest))) : W p l e R s m args below meth c H locs cells slots Q (F0 m pc ls st0) := by
  intro T hT X
  rcases hr T hT X with ⟨v, st₀, t, T', L, h0, X', hL, e1, e2, ⟨⟨r, u, hv, hp, hb⟩, hF⟩, st⟩ | ⟨q, st₀, t, T', L, E, ce, h0, X', hL, e1, e2, ⟨u, hp, hb, hF⟩, hce, hcv, hcl, st⟩
  · cases hv
    obtain ⟨k1, k2, k3⟩ := vx_keep h0 e1 hS hA hf hL hF
    obtain ⟨t2, a1, b1⟩ := kk r u t T'.heap (locs ++ L) e1.symm (by rw [← e2]; exact X'.warmed.alike) hp hb k1 k2 k3 T' rfl X'
    exact ⟨t2, st t2 a1, b1⟩
  · obtain ⟨k1, k2, k3⟩ := vx_keep h0 e1 hS hAX hf hL hF
    obtain ⟨t2, a1, b1⟩ := kx E ce q u t T'.heap (locs ++ L) e1.symm (by rw [← e2]; exact X'.warmed.alike) hp hb k1 k2 k3 (by rw [e1]; exact hce) hcv hcl T' rfl X'
    exact ⟨t2, st.trans a1, b1⟩
theorem vx_callv {S SX : Type} {post : S → Prop} {px : SX → Prop} {B : S → State → Prop} {BX : String → SX → State → Prop} {AX : Nat → Prop} (hr : vx_Run p l e R s m args below meth c H locs cells slots mc ms (F0 m pc ls st0) rest (va_Qv post B A1 a) (vx_X px BX AX) free) (hS : va_S A0 H0 H locs) (hA : ∀ q, q < H.size → A1 q → A0 q) (hf : ∀ q, free q → A0 q) (hAX : ∀ q, q < H.size → AX q → A0 q)
    (kx : ∀ (E : String) (ce : Cell) (q9 : Addr) (u : SX) (t : State) (H1 : Heap) (locs1 : List Loc), t.heap = H1 → s.vm.Alike t.vm → px u → BX E u t → H.size ≤ H1.size → (∀ q : Nat, q < H.size → ¬ AX q → H1[q]? = H[q]?) → va_S A0 H0 H1 locs1 → H1[q9]? = some ce → ce.vm = .none → s.vm.findClass E = some ce.cls → vx_W p l e R s m args below meth c H1 locs1 (cells + mc) (slots + ms) Q (F0 m pc ls rest) q9)
    (kk : ∀ (u : S) (t : State) (H1 : Heap) (locs1 : List Loc), t.heap = H1 → s.vm.Alike t.vm → post u → B u t → H.size ≤ H1.size → (∀ q : Nat, q < H.size → ¬ A1 q → H1[q]? = H[q]?) → va_S A0 H0 H1 locs1 → W p l e R s m args below meth c H1 locs1 (cells + mc) (slots + ms) Q (F0 m (pc + 3) ls (rest))) : W p l e R s m args below meth c H locs cells slots Q (F0 m pc ls st0) := by
  intro T hT X
  rcases hr T hT X with ⟨v, st₀, t, T', L, h0, X', hL, e1, e2, ⟨⟨u, hv, hp, hb⟩, hF⟩, st⟩ | ⟨q, st₀, t, T', L, E, ce, h0, X', hL, e1, e2, ⟨u, hp, hb, hF⟩, hce, hcv, hcl, st⟩
  · cases hv
    obtain ⟨k1, k2, k3⟩ := vx_keep h0 e1 hS hA hf hL hF
    obtain ⟨t2, a1, b1⟩ := kk u t T'.heap (locs ++ L) e1.symm (by rw [← e2]; exact X'.warmed.alike) hp hb k1 k2 k3 T' rfl X'
    exact ⟨t2, st t2 a1, b1⟩
  · obtain ⟨k1, k2, k3⟩ := vx_keep h0 e1 hS hAX hf hL hF
    obtain ⟨t2, a1, b1⟩ := kx E ce q u t T'.heap (locs ++ L) e1.symm (by rw [← e2]; exact X'.warmed.alike) hp hb k1 k2 k3 (by rw [e1]; exact hce) hcv hcl T' rfl X'
    exact ⟨t2, st.trans a1, b1⟩
/-- caught by the row x of this method's table; the rows ahead don't take it -/
theorem vx_catch {own name : String} {E : String} {ce : Cell} {q : Addr} (hown : s.vm.findClass own = some m.cls) (pre : List ExceptionTableEntry) (x : ExceptionTableEntry) (suf : List ExceptionTableEntry) (hsplit : c.exceptionTable.toList = pre ++ x :: suf)
    (hpass : ∀ z ∈ pre, covers z pc = false ∨ (z.catchType ≠ 0 ∧ ∃ nm : String, (Cond.classLink own z.catchType nm).before args s = true ∧ va_Nc E nm s)) (hx : covers x pc = true) (h0 : x.catchType ≠ 0)
    (hlink : (Cond.classLink own x.catchType name).before args s = true) (hcast : (Cond.castable E name).before args s = true) (hcell : H[q]? = some ce) (hv : ce.vm = .none) (hcl : s.vm.findClass E = some ce.cls)
    (kk : W p l e R s m args below meth c H locs cells slots Q (F0 m x.handlerPc ls [.ref q])) : vx_W p l e R s m args below meth c H locs cells slots Q (F0 m pc ls rest) q := by
  intro T hT X
  have hpl : e.platform.magicAccessors = ({} : Platform).magicAccessors := by rw [X.admits.platform]
  obtain ⟨c3, c4, hc3, hc4, hasg⟩ := Cond.castable_spec hcast
  cases Option.some.inj (hc3.symm.trans hcl)
  obtain ⟨c5, hc5, hcl5⟩ := Cond.classLink_spec hown hlink e.platform hpl
  cases Option.some.inj (hc4.symm.trans hc5)
  obtain ⟨vm', X', st⟩ := X.thenCaughtThrough q (g := F0 m pc ls rest) rfl (Steps.refl _) (by rw [hT]; exact hcell) (by rw [hv]; rfl) (by obtain ⟨k9, h9, -⟩ := Vm.findClass_spec hcl; exact ⟨k9, h9⟩) pre x suf hsplit
    (fun z hz => by
      rcases hpass z hz with h | ⟨hz0, nm, hl1, hn1⟩
      · exact Or.inl h
      · obtain ⟨c6, hc6, hcl6⟩ := Cond.classLink_spec hown hl1 e.platform hpl
        obtain ⟨a8, b8, h1, h2, h3⟩ := hn1
        cases Option.some.inj (h1.symm.trans hcl)
        cases Option.some.inj (h2.symm.trans hc6)
        exact Or.inr ⟨hz0, _, hcl6, h3⟩) hx (Or.inr ⟨h0, c4, hcl5, hasg⟩)
  obtain ⟨t, a1, b1⟩ := kk (T.setVm vm') hT X'
  exact ⟨t, st.trans a1, b1⟩
end Rows
section Ends
variable {p : Program} {l : Launch} {e : Env} {R : Room} {s : State} {m : MethodId} {args : Array Value} {below : List Frame} {meth : Method} {c : Code} {H : Heap} {locs : List Loc} {cells slots : Nat} {Q : State → Prop}
variable {mc ms : Nat} {free : Addr → Prop} {A0 A1 : Nat → Prop} {H0 : Heap} {a : Array Value} {ls : Array Slot} {st0 rest : List Value}
variable {Qc : Array Value → State → Outcome → State → Prop} {XC : String → State → State → Prop}
/-- what a body that may throw owes at its end -/
def vx_MQ (below : List Frame) (Qc : Array Value → State → Outcome → State → Prop) (XC : String → State → State → Prop) (a : Array Value) (s : State) (mc ms : Nat) (free : Addr → Prop) : State → Prop := fun t =>
  ∃ o, t.status = .running ∧ Ended t below o ∧ vx_Q Qc XC mc ms free a s o t
theorem vx_ret {g : JFrame} {mc ms : Nat} (k : W p l e R s m args below meth c H locs cells slots (MQ below Qc args s mc ms free) g) : W p l e R s m args below meth c H locs cells slots (vx_MQ below Qc XC args s mc ms free) g := by
  intro T hT X
  obtain ⟨t, a1, o, b1, b2, b3, b4⟩ := k T hT X
  exact ⟨t, a1, o, b1, b2, Or.inl ⟨b3, b4⟩⟩
/-- not caught here: it goes on to the caller -/
theorem vx_widen {g : JFrame} {q : Addr} {k n : Nat} (h1 : cells ≤ k) (h2 : slots ≤ n) (kk : vx_W p l e R s m args below meth c H locs k n Q g q) : vx_W p l e R s m args below meth c H locs cells slots Q g q := fun T hT X => kk T hT (stand_widen X h1 h2)
theorem vx_out {pc : Nat} {E : String} {ce : Cell} {q : Addr} {mc ms : Nat} (hout : ∀ x ∈ c.exceptionTable.toList, covers x pc = false) (hlocks : meth.locks = false) (hcell : H[q]? = some ce) (hv : ce.vm = .none) (hcl : s.vm.findClass E = some ce.cls)
    (hx : ∀ t : State, t.heap = H → s.vm.Alike t.vm → XC E s t) (hf : ∀ z ∈ locs, free z.base) (hc : cells ≤ mc) (hs : slots ≤ ms) :
    vx_W p l e R s m args below meth c H locs cells slots (vx_MQ below Qc XC args s mc ms free) (F0 m pc ls rest) q := by
  intro T hT X
  obtain ⟨st1, hrun, hend, hW, hsm⟩ := X.leaveThrown q (g := F0 m pc ls rest) rfl rfl rfl hout hlocks
  have hcell9 : (T.setFrames (.throwing q :: below)).heap[q]? = some ce := by
    show T.heap[q]? = some ce
    rw [hT]; exact hcell
  exact ⟨_, st1, .threw q, hrun, hend, Or.inr ⟨q, rfl, E, ce, locs, hx _ hT hW.alike, hcell9, hv, hcl, hW, hsm.mono hc hs, hf⟩⟩
theorem vx_frame {U : State} {k n : Nat} (h : s.sameButNew ({ U with vm := s.vm } : State) locs k n) : s.heap.size ≤ U.heap.size ∧ ∀ q : Nat, q < s.heap.size → (∀ z ∈ locs, z.base ≠ q) → U.heap[q]? = s.heap[q]? := by
  obtain ⟨-, h2, -, -, -, h6⟩ := h
  refine ⟨h2, fun q hq hz => ?_⟩
  obtain ⟨c9, e1, e2, e3, e4⟩ := h6 q _ (Array.getElem?_eq_getElem hq)
  have hs : c9.slots = (s.heap[q]).slots := Array.ext_getElem? fun i => e4 i fun hm => hz _ hm rfl
  have h9 : c9 = s.heap[q] := by
    rw [hs] at e2
    exact e2
  have e5 : U.heap[q]? = some c9 := e1
  rw [e5, h9, Array.getElem?_eq_getElem hq]
/-- the words of a throw but the four that speak of the heap -/
def vx_no (w : Cond) : Bool := decide (w ≠ .isRef (.static Bundle.tN "UNASSIGNED_STACK" Bundle.steD)) && decide (w ≠ .isRef (.static Bundle.tN "SUPPRESSED_SENTINEL" Bundle.listD)) && decide (w ≠ .laysStatic Bundle.tN "UNASSIGNED_STACK" Bundle.steD) && decide (w ≠ .laysStatic Bundle.tN "SUPPRESSED_SENTINEL" Bundle.listD)
def vx_at0 (own : String) (ic : Nat) (X : String) (names : List String) : List Cond := (Bundle.ownAtoms0 own ic X names).filter vx_no
def vx_atS (own : String) (ic : Nat) (X : String) (names : List String) : List Cond := (Bundle.ownAtoms own ic X names).filter vx_no
/-- a word that the tables alone decide, or a good one -/
def vx_ot (w : Cond) : Bool := w.onTables || goodWord w
theorem vx_ot_at {args a' : Array Value} {s U : State} {w : Cond} (hW : s.WarmedH U.vm) (hvm : s.vm = U.vm) (hg : vx_ot w = true) (h : w.before args s = true) : w.before a' U = true := by
  simp only [vx_ot, Bool.or_eq_true] at hg
  rcases hg with hg | hg
  · exact va_tabs hg hvm h
  · exact word_at hW (good_of_word hg) h
/-- a list's words: the good ones out of the method's own list, the others by premises of their own -/
theorem vx_hat {args : Array Value} {s : State} {L B : List Cond} (h1 : ∀ w ∈ L.filter goodWord, w.before args s = true) (h2 : ∀ w ∈ L.filter (fun w => !goodWord w), w ∈ B) (h3 : ∀ w ∈ B, w.before args s = true) : ∀ w ∈ L, w.before args s = true := by
  intro w hw
  by_cases g : goodWord w = true
  · exact h1 w (List.mem_filter.mpr ⟨hw, g⟩)
  · refine h3 w (h2 w (List.mem_filter.mpr ⟨hw, ?_⟩))
    show (!goodWord w) = true
    cases hgw : goodWord w
    · rfl
    · exact absurd hgw g
theorem vx_c {args : Array Value} {s : State} {w : Cond} {B : List Cond} (h : w.before args s = true) (t : ∀ w ∈ B, w.before args s = true) : ∀ w' ∈ w :: B, w'.before args s = true := fun w' h' => (List.mem_cons.mp h').elim (fun e => by rw [e]; exact h) (t w')
theorem vx_n {args : Array Value} {s : State} : ∀ w ∈ ([] : List Cond), w.before args s = true := fun _ h => nomatch h
theorem vx_own {args : Array Value} {s : State} {L : List Cond} (h1 : ∀ w ∈ L.filter vx_no, w.before args s = true)
    (hU : (Cond.isRef (.static Bundle.tN "UNASSIGNED_STACK" Bundle.steD)).before args s = true) (hN : (Cond.isRef (.static Bundle.tN "SUPPRESSED_SENTINEL" Bundle.listD)).before args s = true)
    (lU : (Cond.laysStatic Bundle.tN "UNASSIGNED_STACK" Bundle.steD).before args s = true) (lN : (Cond.laysStatic Bundle.tN "SUPPRESSED_SENTINEL" Bundle.listD).before args s = true) : ∀ w ∈ L, w.before args s = true := by
  intro w hw
  by_cases e1 : w = .isRef (.static Bundle.tN "UNASSIGNED_STACK" Bundle.steD)
  · rw [e1]; exact hU
  · by_cases e2 : w = .isRef (.static Bundle.tN "SUPPRESSED_SENTINEL" Bundle.listD)
    · rw [e2]; exact hN
    · by_cases e3 : w = .laysStatic Bundle.tN "UNASSIGNED_STACK" Bundle.steD
      · rw [e3]; exact lU
      · by_cases e4 : w = .laysStatic Bundle.tN "SUPPRESSED_SENTINEL" Bundle.listD
        · rw [e4]; exact lN
        · exact h1 w (List.mem_filter.mpr ⟨hw, by unfold vx_no; rw [decide_eq_true e1, decide_eq_true e2, decide_eq_true e3, decide_eq_true e4]; rfl⟩)
/-- where a static field lies, its class's statics cell in H -/
def vx_L (C n d : String) (A : Nat → Prop) (U : State) (H : Heap) : Prop := ∃ (c : ClassId) (k : Class) (i : Nat) (f : Field) (a : Nat) (cell : Cell), U.vm.findClass C = some c ∧ U.fieldFound? C n d = some (c, k, i, f) ∧ f.isStatic = true ∧ k.statics = some a ∧ H[a]? = some cell ∧ cell.vm.isStatics = true ∧ cell.cls = c ∧ f.slot < cell.slots.size ∧ k.staticTypes[f.slot]? = some f.type ∧ ¬ A a
theorem vx_L.moved {C n d : String} {A : Nat → Prop} {u U : State} {H : Heap} (hvm : u.vm.Alike U.vm) (h : vx_L C n d A u H) : vx_L C n d A U H := by
  obtain ⟨c, k, i, f, a, cell, h1, h2, h3, h4, h5, h6, h7, h8, h9, h10⟩ := h
  obtain ⟨k', hi', he⟩ := State.fieldFound?_setVm hvm h2
  exact ⟨c, k', i, f, a, cell, by rw [hvm.findClass]; exact h1, hi', h3, by rw [he]; exact h4, h5, h6, h7, h8, by rw [he]; exact h9, h10⟩
theorem vx_L.kept {C n d : String} {A : Nat → Prop} {U : State} {H H1 : Heap} (h : vx_L C n d A U H) (hq : ∀ a : Nat, a < H.size → ¬ A a → H1[a]? = H[a]?) : vx_L C n d A U H1 := by
  obtain ⟨c, k, i, f, a, cell, h1, h2, h3, h4, h5, h6, h7, h8, h9, h10⟩ := h
  exact ⟨c, k, i, f, a, cell, h1, h2, h3, h4, by rw [hq a (Array.getElem?_eq_some_iff.mp h5).1 h10]; exact h5, h6, h7, h8, h9, h10⟩
theorem vx_L.narrow {C n d : String} {A B : Nat → Prop} {U : State} {H : Heap} (h : vx_L C n d A U H) (hAB : ∀ q, B q → A q) : vx_L C n d B U H := by
  obtain ⟨c, k, i, f, a, cell, h1, h2, h3, h4, h5, h6, h7, h8, h9, h10⟩ := h
  exact ⟨c, k, i, f, a, cell, h1, h2, h3, h4, h5, h6, h7, h8, h9, fun z => h10 (hAB _ z)⟩
theorem vx_L.word {C n d : String} {A : Nat → Prop} {s : State} {args : Array Value} (h : vx_L C n d A s s.heap) : (Cond.laysStatic C n d).before args s = true := by
  obtain ⟨c, k, i, f, a, cell, h1, h2, h3, h4, h5, h6, h7, h8, h9, -⟩ := h
  show (Cond.laysStatic C n d).holds args s none s [] = true
  exact Cond.laysStatic_of h1 h2 h3 h4 h5 h6 h7 h8 h9
/-- .. and what it holds: null or some reference -/
def vx_Zq (C n d : String) (A : Nat → Prop) (U : State) (H : Heap) : Prop := va_Zq C n d A U H ∧ vx_L C n d A U H
theorem vx_Zq.moved {C n d : String} {A : Nat → Prop} {u U : State} {H : Heap} (hvm : u.vm.Alike U.vm) (h : vx_Zq C n d A u H) : vx_Zq C n d A U H := ⟨va_Zq.moved hvm h.1, vx_L.moved hvm h.2⟩
theorem vx_Zq.kept {C n d : String} {A : Nat → Prop} {U : State} {H H1 : Heap} (h : vx_Zq C n d A U H) (hq : ∀ a : Nat, a < H.size → ¬ A a → H1[a]? = H[a]?) : vx_Zq C n d A U H1 := ⟨va_Zq.kept h.1 hq, vx_L.kept h.2 hq⟩
theorem vx_Zq.narrow {C n d : String} {A B : Nat → Prop} {U : State} {H : Heap} (h : vx_Zq C n d A U H) (hAB : ∀ q, B q → A q) : vx_Zq C n d B U H := ⟨va_Zq.narrow h.1 hAB, vx_L.narrow h.2 hAB⟩
theorem vx_Zqof {args : Array Value} {s : State} {C n d : String} {A : Nat → Prop} (hl : (Cond.laysStatic C n d).before args s = true) (hini : (Cond.initialized C).before args s = true) (h : (Cond.isRef (.static C n d)).before args s = true) (hA : ∀ a : Nat, a < s.heap.size → ¬ A a) : vx_Zq C n d A s s.heap := by
  refine ⟨va_Zqof hl hini h hA, ?_⟩
  obtain ⟨c, k, i, f, a, cell, h1, h2, h3, h4, h5, h6, h7, h8, h9⟩ := Cond.laysStatic_spec hl
  exact ⟨c, k, i, f, a, cell, h1, h2, h3, h4, h5, h6, h7, h8, h9, hA a (Array.getElem?_eq_some_iff.mp h5).1⟩
theorem vx_isRef {C n d : String} {v : Value} {A : Nat → Prop} {s : State} {args : Array Value} (h : va_Z C n d v A s s.heap) (hv : v.isRef = true) : (Cond.isRef (.static C n d)).before args s = true := by
  obtain ⟨cf, kf, fi, f, a, cell, h1, h2, h3, h4, h5, h6, h7, -⟩ := h
  have he : (Term.static C n d).eval args s none [] s = some v := by
    simp [Term.eval, State.fieldNamed?, h1, h2, h4, h5, h6, h7]
  simp only [Cond.before, Cond.holds, Cond.value, he]
  cases v <;> simp_all [Value.isRef]
theorem vx_isRefq {C n d : String} {A : Nat → Prop} {s : State} {args : Array Value} (h : va_Zq C n d A s s.heap) : (Cond.isRef (.static C n d)).before args s = true := by
  rcases h with h | ⟨t, h⟩
  · exact vx_isRef h rfl
  · exact vx_isRef h rfl
/-- the same frame, seen from here: as if the method were called anew in this heap -/
theorem vx_rebase {T : State} (X : Stand p l e R s m args below meth c T locs cells slots) {R' : Room} (hf : R'.frames ≤ R.frames) (hl : R'.locals ≤ R.locals) (hc : cells + R'.cells ≤ R.cells) (hs : slots + R'.slots ≤ R.slots) :
    Stand p l e R' ((T.setVm s.vm).setFrames (.invoking m args :: below)) m args below meth c T [] 0 0 := by
  have htop : (T.setVm s.vm).topJava?.isSome := X.here.top
  have hF : ((T.setVm s.vm).setFrames (.invoking m args :: below)).frames = .invoking m args :: below := State.frames_setFrames _ (State.cur_lt_of_top htop)
  obtain ⟨g₀, hg0⟩ := Option.isSome_iff_exists.mp htop
  obtain ⟨r, hr⟩ := State.topJava?_eq_some.mp hg0
  have hl9 : e.platform.stackLimits (T.setVm s.vm).me = e.platform.stackLimits s.me := X.limits
  have hb9 : (T.setVm s.vm).me.stackBytes = s.me.stackBytes := X.bytes
  refine ⟨X.admits, X.cas, X.clock, hF, ?_, X.hears, X.method, X.code, X.here, X.tail, X.warmed, ?_, ?_, ?_⟩
  · have h := X.room
    have hU : ((T.setVm s.vm).setFrames (.invoking m args :: below)).localsInUse = s.localsInUse := by
      rw [State.localsInUse_invoking hF (meth := meth) (c := c) X.method X.code, State.localsInUse_invoking X.frames X.method X.code]
    simp only [State.hasRoom, Bool.and_eq_true, decide_eq_true_eq] at h ⊢
    obtain ⟨⟨⟨⟨h1, h2, h3, h4, h5, h6⟩, h7⟩, h8⟩, h9⟩ := h
    rw [X.frames, List.length_cons] at h2 h3
    have q1 := X.heapSize
    have q2 := X.used
    simp only [hF, hU, List.length_cons, State.stackLimits_setFrames, State.stackBytes_setFrames, hl9, hb9]
    refine ⟨⟨⟨⟨by omega, by omega, by omega, by omega, by omega, h6⟩, ?_⟩, ?_⟩, X.book⟩
    · show T.heap.size + R'.cells ≤ e.platform.maxCells
      omega
    · show T.slotsUsed + R'.slots ≤ e.platform.maxSlots
      omega
  · rw [State.stackLimits_setFrames]; rfl
  · rw [State.stackBytes_setFrames]; rfl
  · refine ⟨?_, Nat.le_refl _, Nat.le_refl _, ?_, ?_, fun a c9 h9 => ⟨c9, h9, rfl, rfl, fun _ _ => rfl⟩⟩
    · obtain ⟨t, ht, -⟩ := State.frames_cons hr
      show T.setVm s.vm = { ((T.setVm s.vm).setFrames (.invoking m args :: below)).setFrames (T.setVm s.vm).frames with heap := T.heap, slotsUsed := T.slotsUsed }
      rw [State.setFrames_setFrames, State.setFrames_self ht]
      rfl
    · show T.slotsUsed = T.slotsUsed + ((T.heap.toList.drop T.heap.size).map (·.slots.size)).sum
      rw [List.drop_eq_nil_of_le (Nat.le_of_eq Array.length_toList)]
      rfl
    · show ((T.heap.toList.drop T.heap.size).map (·.slots.size)).sum ≤ 0
      rw [List.drop_eq_nil_of_le (Nat.le_of_eq Array.length_toList)]
      exact Nat.le_refl _
/-- 'throw new E()': new; dup; invokespecial; athrow -/
theorem vx_throw0 {cc : ByteArray} {pc : Nat} (hexec : p.tables.exec = Jvm.exec) (hb : c.code = cc) (hl : l.stackTraces = false) {own cls : String} {names : List String} {ik ic mc ms : Nat} {A : Nat → Prop}
    (hown : s.vm.findClass own = some m.cls) (hcls : Bundle.fit cls = true) (hnames : ∀ n ∈ names, Bundle.fit n = true)
    (hk : (Cond.classLink own ik cls).before args s = true) (hini : (Cond.initialized cls).before args s = true) (hat : ∀ w ∈ vx_at0 own ic cls names, w.before args s = true)
    (hgood : ∀ w ∈ Cond.classLink own ik cls :: Cond.initialized cls :: vx_at0 own ic cls names, vx_ot w = true)
    (hU : vx_Zq Bundle.tN "UNASSIGNED_STACK" Bundle.steD A s s.heap) (hN : vx_Zq Bundle.tN "SUPPRESSED_SENTINEL" Bundle.listD A s s.heap) (hS : va_S A s.heap H locs) (hsize : ls.size = c.maxLocals)
    (d0 : decode cc pc = .ok (.new ik, 3)) (d3 : decode cc (pc + 3) = .ok (.dup, 1)) (d4 : decode cc (pc + 4) = .ok (.invokespecial ic, 3)) (d7 : decode cc (pc + 7) = .ok (.athrow, 1))
    (hout : ∀ x ∈ c.exceptionTable.toList, covers x (pc + 7) = false)
    (hRframes : names.length + 3 < R.frames) (hRlocals : (rest.map fun v => v.category).sum + (13 * (names.length + 1) + 42) ≤ R.locals) (hRcells : cells + 1 ≤ R.cells) (hRslots : slots + 6 ≤ R.slots) (hlocks : meth.locks = false)
    (hx : ∀ t : State, s.vm.Alike t.vm → H.size ≤ t.heap.size → (∀ q : Nat, q < H.size → t.heap[q]? = H[q]?) → XC cls s t)
    (hf : ∀ z ∈ locs, free z.base) (hc : cells + 1 ≤ mc) (hs : slots + 6 ≤ ms) :
    W p l e R s m args below meth c H locs cells slots (vx_MQ below Qc XC args s mc ms free) (F0 m pc ls rest) := by
  intro T hT X
  have htr : e.platform.stackTraces = false := (show e.platform.stackTraces = l.stackTraces by rw [X.admits.platform]).trans hl
  have Y := vx_rebase X (R' := { frames := R.frames, locals := R.locals, cells := 1, slots := 6 }) (Nat.le_refl _) (Nat.le_refl _) hRcells hRslots
  obtain ⟨s', hA⟩ : ∃ z, z = (T.setVm s.vm).setFrames (.invoking m args :: below) := ⟨_, rfl⟩
  rw [← hA] at Y
  have hvm : s'.vm = s.vm := by rw [hA]; rfl
  have hhp : s'.heap = H := by rw [hA]; exact hT
  have hW0 : s.WarmedH s'.vm := by rw [hvm]; exact State.WarmedH.refl s
  have hat' : ∀ w ∈ vx_at0 own ic cls names, w.before args s' = true := fun w hw => vx_ot_at hW0 hvm.symm (hgood w (List.mem_cons_of_mem _ (List.mem_cons_of_mem _ hw))) (hat w hw)
  have hk' : (Cond.classLink own ik cls).before args s' = true := vx_ot_at hW0 hvm.symm (hgood _ List.mem_cons_self) hk
  have hini' : (Cond.initialized cls).before args s' = true := vx_ot_at hW0 hvm.symm (hgood _ (List.mem_cons_of_mem _ List.mem_cons_self)) hini
  have hU' : vx_Zq Bundle.tN "UNASSIGNED_STACK" Bundle.steD A s' s'.heap := by rw [hhp]; exact vx_Zq.moved hW0.alike (hU.kept hS.2.1)
  have hN' : vx_Zq Bundle.tN "SUPPRESSED_SENTINEL" Bundle.listD A s' s'.heap := by rw [hhp]; exact vx_Zq.moved hW0.alike (hN.kept hS.2.1)
  have h : ∀ w ∈ Bundle.ownAtoms0 own ic cls names, w.before args s' = true := vx_own hat' (vx_isRefq hU'.1) (vx_isRefq hN'.1) hU'.2.word hN'.2.word
  have hown' : s'.vm.findClass own = some m.cls := by rw [hvm]; exact hown
  have hins : (Cond.instantiable cls 6).before args s' = true := h _ (by simp [Bundle.ownAtoms0])
  obtain ⟨vm₁, cX, kX, hfX, hkX, -, -, X₁, st1⟩ := Y.newCold hexec (own := own) (C := cls) (index := ik) (n := 6) hown' hk' hins hini'
    (g := F0 m pc ls rest) rfl (by rw [hb]; exact d0) (Nat.le_refl _) (Nat.le_refl _)
  generalize hT1 : (T.setVm vm₁).pushCell { cls := cX, slots := kX.instanceTypes.map defaultValue, vm := .none } = T1 at X₁ st1
  have hcat : (Value.ref T.heap.size).category = 1 := rfl
  have hcellA : T1.heap[T.heap.size]? = some (freshCell cX kX) := by rw [← hT1]; exact State.heap_pushCell_size _ _
  have d3' : decode c.code (pc + 3) = .ok (.dup, 1) := by rw [hb]; exact d3
  obtain ⟨U, hsteps, hrun, hend, hW, hsame, ce, hce, hO⟩ := X₁.ctorThrow0 hexec htr (own := own) (cls := cls) (names := names) (ic := ic) hown' hcls hnames h (fun x hx => nomatch hx) hfX hkX hcellA (by rw [hhp, hT]; exact Nat.le_refl _)
    (g := { method := m, pc := pc + 4, locals := ls, stack := .ref T.heap.size :: .ref T.heap.size :: rest, locked := none }) rfl hsize rfl rfl (rest := rest) rfl
    (by rw [hb]; exact d4) (by rw [hb]; exact d7) hout hRframes (by simp only [List.map_cons, List.sum_cons, hcat]; omega) hlocks
  obtain ⟨f1, f2⟩ := vx_frame hsame
  rw [hhp] at f1 f2
  have hWs : s.WarmedH U.vm := State.WarmedH.trans hW0 hW
  have hcl : s.vm.findClass cls = some ce.cls := by
    have h9 := hO.cls
    rw [hvm] at h9
    exact h9
  have hall : s.sameButNew ({ U with vm := s.vm } : State) locs mc ms := by
    subst hA
    obtain ⟨e1, e2⟩ := hsame
    rw [State.setFrames_setFrames] at e1
    have h2 : (T.setVm s.vm).sameButNew ({ U with vm := s.vm } : State) [] (0 + 1) (0 + 6) := ⟨e1, e2⟩
    have h3 := X.same.trans h2
    rw [List.append_nil] at h3
    exact h3.mono hc hs
  refine ⟨U, ?_, .threw T.heap.size, hrun, hend, Or.inr ⟨T.heap.size, rfl, cls, ce, locs, hx U hWs.alike f1 (fun q hq => f2 q hq (fun z hz => nomatch hz)), hce, hO.vm, hcl, hWs, hall, hf⟩⟩
  refine st1 _ ?_
  show Steps p.tables e below (T1.setTop { method := m, pc := pc + 3, locals := ls, stack := .ref T.heap.size :: rest, locked := none }) _
  jvm_step X₁.here [X₁.here.top, hexec, d3', Value.category]
  exact hsteps
/-- 'throw new E("text")': new; dup; ldc; invokespecial; athrow -/
theorem vx_throwS {cc : ByteArray} {pc : Nat} (hexec : p.tables.exec = Jvm.exec) (hb : c.code = cc) (hl : l.stackTraces = false) {own cls text : String} {names : List String} {ik is ic mc ms sa : Nat} {A : Nat → Prop}
    (hown : s.vm.findClass own = some m.cls) (hcls : Bundle.fit cls = true) (hnames : ∀ n ∈ names, Bundle.fit n = true)
    (hk : (Cond.classLink own ik cls).before args s = true) (hini : (Cond.initialized cls).before args s = true) (hstr : vk_R own is text sa s) (hat : ∀ w ∈ vx_atS own ic cls names, w.before args s = true)
    (hgood : ∀ w ∈ Cond.classLink own ik cls :: Cond.initialized cls :: vx_atS own ic cls names, vx_ot w = true)
    (hU : vx_Zq Bundle.tN "UNASSIGNED_STACK" Bundle.steD A s s.heap) (hN : vx_Zq Bundle.tN "SUPPRESSED_SENTINEL" Bundle.listD A s s.heap) (hS : va_S A s.heap H locs) (hsize : ls.size = c.maxLocals)
    (d0 : decode cc pc = .ok (.new ik, 3)) (d3 : decode cc (pc + 3) = .ok (.dup, 1)) (d4 : decode cc (pc + 4) = .ok (.ldc is, 2)) (d6 : decode cc (pc + 6) = .ok (.invokespecial ic, 3)) (d9 : decode cc (pc + 9) = .ok (.athrow, 1))
    (hout : ∀ x ∈ c.exceptionTable.toList, covers x (pc + 9) = false)
    (hRframes : names.length + 3 < R.frames) (hRlocals : (rest.map fun v => v.category).sum + (13 * (names.length + 1) + 43) ≤ R.locals) (hRcells : cells + 1 ≤ R.cells) (hRslots : slots + 6 ≤ R.slots) (hlocks : meth.locks = false)
    (hx : ∀ t : State, s.vm.Alike t.vm → H.size ≤ t.heap.size → (∀ q : Nat, q < H.size → t.heap[q]? = H[q]?) → XC cls s t)
    (hf : ∀ z ∈ locs, free z.base) (hc : cells + 1 ≤ mc) (hs : slots + 6 ≤ ms) :
    W p l e R s m args below meth c H locs cells slots (vx_MQ below Qc XC args s mc ms free) (F0 m pc ls rest) := by
  intro T hT X
  have htr : e.platform.stackTraces = false := (show e.platform.stackTraces = l.stackTraces by rw [X.admits.platform]).trans hl
  have Y := vx_rebase X (R' := { frames := R.frames, locals := R.locals, cells := 1, slots := 6 }) (Nat.le_refl _) (Nat.le_refl _) hRcells hRslots
  obtain ⟨s', hA⟩ : ∃ z, z = (T.setVm s.vm).setFrames (.invoking m args :: below) := ⟨_, rfl⟩
  rw [← hA] at Y
  have hvm : s'.vm = s.vm := by rw [hA]; rfl
  have hhp : s'.heap = H := by rw [hA]; exact hT
  have hW0 : s.WarmedH s'.vm := by rw [hvm]; exact State.WarmedH.refl s
  have hat' : ∀ w ∈ vx_atS own ic cls names, w.before args s' = true := fun w hw => vx_ot_at hW0 hvm.symm (hgood w (List.mem_cons_of_mem _ (List.mem_cons_of_mem _ hw))) (hat w hw)
  have hk' : (Cond.classLink own ik cls).before args s' = true := vx_ot_at hW0 hvm.symm (hgood _ List.mem_cons_self) hk
  have hini' : (Cond.initialized cls).before args s' = true := vx_ot_at hW0 hvm.symm (hgood _ (List.mem_cons_of_mem _ List.mem_cons_self)) hini
  have hU' : vx_Zq Bundle.tN "UNASSIGNED_STACK" Bundle.steD A s' s'.heap := by rw [hhp]; exact vx_Zq.moved hW0.alike (hU.kept hS.2.1)
  have hN' : vx_Zq Bundle.tN "SUPPRESSED_SENTINEL" Bundle.listD A s' s'.heap := by rw [hhp]; exact vx_Zq.moved hW0.alike (hN.kept hS.2.1)
  have h : ∀ w ∈ Bundle.ownAtoms own ic cls names, w.before args s' = true := vx_own hat' (vx_isRefq hU'.1) (vx_isRefq hN'.1) hU'.2.word hN'.2.word
  have hown' : s'.vm.findClass own = some m.cls := by rw [hvm]; exact hown
  have hins : (Cond.instantiable cls 6).before args s' = true := h _ (by simp [Bundle.ownAtoms])
  obtain ⟨vm₁, cX, kX, hfX, hkX, -, -, X₁, st1⟩ := Y.newCold hexec (own := own) (C := cls) (index := ik) (n := 6) hown' hk' hins hini'
    (g := F0 m pc ls rest) rfl (by rw [hb]; exact d0) (Nat.le_refl _) (Nat.le_refl _)
  generalize hT1 : (T.setVm vm₁).pushCell { cls := cX, slots := kX.instanceTypes.map defaultValue, vm := .none } = T1 at X₁ st1
  have hcat : (Value.ref T.heap.size).category = 1 := rfl
  have hcellA : T1.heap[T.heap.size]? = some (freshCell cX kX) := by rw [← hT1]; exact State.heap_pushCell_size _ _
  have d3' : decode c.code (pc + 3) = .ok (.dup, 1) := by rw [hb]; exact d3
  have d4' : decode c.code (pc + 4) = .ok (.ldc is, 2) := by rw [hb]; exact d4
  have hstr' : vk_R own is text sa s' := vk_R.warm hW0 hstr
  obtain ⟨U, hsteps, hrun, hend, hW, hsame, ce, hce, hO⟩ := X₁.ctorThrowS hexec htr (own := own) (cls := cls) (names := names) (ic := ic) hown' hcls hnames h (fun x hx => nomatch hx) hfX hkX hcellA (by rw [hhp, hT]; exact Nat.le_refl _) (msg := .ref sa) rfl
    (g := { method := m, pc := pc + 6, locals := ls, stack := .ref sa :: .ref T.heap.size :: .ref T.heap.size :: rest, locked := none }) rfl hsize rfl rfl (rest := rest) rfl
    (by rw [hb]; exact d6) (by rw [hb]; exact d9) hout hRframes (by simp only [List.map_cons, List.sum_cons, hcat]; omega) hlocks
  obtain ⟨f1, f2⟩ := vx_frame hsame
  rw [hhp] at f1 f2
  have hWs : s.WarmedH U.vm := State.WarmedH.trans hW0 hW
  have hcl : s.vm.findClass cls = some ce.cls := by
    have h9 := hO.cls
    rw [hvm] at h9
    exact h9
  have hall : s.sameButNew ({ U with vm := s.vm } : State) locs mc ms := by
    subst hA
    obtain ⟨e1, e2⟩ := hsame
    rw [State.setFrames_setFrames] at e1
    have h2 : (T.setVm s.vm).sameButNew ({ U with vm := s.vm } : State) [] (0 + 1) (0 + 6) := ⟨e1, e2⟩
    have h3 := X.same.trans h2
    rw [List.append_nil] at h3
    exact h3.mono hc hs
  refine ⟨U, ?_, .threw T.heap.size, hrun, hend, Or.inr ⟨T.heap.size, rfl, cls, ce, locs, hx U hWs.alike f1 (fun q hq => f2 q hq (fun z hz => nomatch hz)), hce, hO.vm, hcl, hWs, hall, hf⟩⟩
  refine st1 _ ?_
  show Steps p.tables e below (T1.setTop { method := m, pc := pc + 3, locals := ls, stack := .ref T.heap.size :: rest, locked := none }) _
  jvm_step X₁.here [X₁.here.top, hexec, d3', Value.category]
  exact X₁.ldcString hexec (own := own) (text := text) (index := is) (a := sa) hown' hstr'.1 hstr'.2
    (g := { method := m, pc := pc + 4, locals := ls, stack := .ref T.heap.size :: .ref T.heap.size :: rest, locked := none }) rfl d4' _ hsteps
/-- 'throw new E("text")', the text by a wide index -/
theorem vx_throwSW {cc : ByteArray} {pc : Nat} (hexec : p.tables.exec = Jvm.exec) (hb : c.code = cc) (hl : l.stackTraces = false) {own cls text : String} {names : List String} {ik is ic mc ms sa : Nat} {A : Nat → Prop}
    (hown : s.vm.findClass own = some m.cls) (hcls : Bundle.fit cls = true) (hnames : ∀ n ∈ names, Bundle.fit n = true)
    (hk : (Cond.classLink own ik cls).before args s = true) (hini : (Cond.initialized cls).before args s = true) (hstr : vk_R own is text sa s) (hat : ∀ w ∈ vx_atS own ic cls names, w.before args s = true)
    (hgood : ∀ w ∈ Cond.classLink own ik cls :: Cond.initialized cls :: vx_atS own ic cls names, vx_ot w = true)
    (hU : vx_Zq Bundle.tN "UNASSIGNED_STACK" Bundle.steD A s s.heap) (hN : vx_Zq Bundle.tN "SUPPRESSED_SENTINEL" Bundle.listD A s s.heap) (hS : va_S A s.heap H locs) (hsize : ls.size = c.maxLocals)
    (d0 : decode cc pc = .ok (.new ik, 3)) (d3 : decode cc (pc + 3) = .ok (.dup, 1)) (d4 : decode cc (pc + 4) = .ok (.ldc_w is, 3)) (d7 : decode cc (pc + 7) = .ok (.invokespecial ic, 3)) (d10 : decode cc (pc + 10) = .ok (.athrow, 1))
    (hout : ∀ x ∈ c.exceptionTable.toList, covers x (pc + 10) = false)
    (hRframes : names.length + 3 < R.frames) (hRlocals : (rest.map fun v => v.category).sum + (13 * (names.length + 1) + 43) ≤ R.locals) (hRcells : cells + 1 ≤ R.cells) (hRslots : slots + 6 ≤ R.slots) (hlocks : meth.locks = false)
    (hx : ∀ t : State, s.vm.Alike t.vm → H.size ≤ t.heap.size → (∀ q : Nat, q < H.size → t.heap[q]? = H[q]?) → XC cls s t)
    (hf : ∀ z ∈ locs, free z.base) (hc : cells + 1 ≤ mc) (hs : slots + 6 ≤ ms) :
    W p l e R s m args below meth c H locs cells slots (vx_MQ below Qc XC args s mc ms free) (F0 m pc ls rest) := by
  intro T hT X
  have htr : e.platform.stackTraces = false := (show e.platform.stackTraces = l.stackTraces by rw [X.admits.platform]).trans hl
  have Y := vx_rebase X (R' := { frames := R.frames, locals := R.locals, cells := 1, slots := 6 }) (Nat.le_refl _) (Nat.le_refl _) hRcells hRslots
  obtain ⟨s', hA⟩ : ∃ z, z = (T.setVm s.vm).setFrames (.invoking m args :: below) := ⟨_, rfl⟩
  rw [← hA] at Y
  have hvm : s'.vm = s.vm := by rw [hA]; rfl
  have hhp : s'.heap = H := by rw [hA]; exact hT
  have hW0 : s.WarmedH s'.vm := by rw [hvm]; exact State.WarmedH.refl s
  have hat' : ∀ w ∈ vx_atS own ic cls names, w.before args s' = true := fun w hw => vx_ot_at hW0 hvm.symm (hgood w (List.mem_cons_of_mem _ (List.mem_cons_of_mem _ hw))) (hat w hw)
  have hk' : (Cond.classLink own ik cls).before args s' = true := vx_ot_at hW0 hvm.symm (hgood _ List.mem_cons_self) hk
  have hini' : (Cond.initialized cls).before args s' = true := vx_ot_at hW0 hvm.symm (hgood _ (List.mem_cons_of_mem _ List.mem_cons_self)) hini
  have hU' : vx_Zq Bundle.tN "UNASSIGNED_STACK" Bundle.steD A s' s'.heap := by rw [hhp]; exact vx_Zq.moved hW0.alike (hU.kept hS.2.1)
  have hN' : vx_Zq Bundle.tN "SUPPRESSED_SENTINEL" Bundle.listD A s' s'.heap := by rw [hhp]; exact vx_Zq.moved hW0.alike (hN.kept hS.2.1)
  have h : ∀ w ∈ Bundle.ownAtoms own ic cls names, w.before args s' = true := vx_own hat' (vx_isRefq hU'.1) (vx_isRefq hN'.1) hU'.2.word hN'.2.word
  have hown' : s'.vm.findClass own = some m.cls := by rw [hvm]; exact hown
  have hins : (Cond.instantiable cls 6).before args s' = true := h _ (by simp [Bundle.ownAtoms])
  obtain ⟨vm₁, cX, kX, hfX, hkX, -, -, X₁, st1⟩ := Y.newCold hexec (own := own) (C := cls) (index := ik) (n := 6) hown' hk' hins hini'
    (g := F0 m pc ls rest) rfl (by rw [hb]; exact d0) (Nat.le_refl _) (Nat.le_refl _)
  generalize hT1 : (T.setVm vm₁).pushCell { cls := cX, slots := kX.instanceTypes.map defaultValue, vm := .none } = T1 at X₁ st1
  have hcat : (Value.ref T.heap.size).category = 1 := rfl
  have hcellA : T1.heap[T.heap.size]? = some (freshCell cX kX) := by rw [← hT1]; exact State.heap_pushCell_size _ _
  have d3' : decode c.code (pc + 3) = .ok (.dup, 1) := by rw [hb]; exact d3
  have d4' : decode c.code (pc + 4) = .ok (.ldc_w is, 3) := by rw [hb]; exact d4
  have hstr' : vk_R own is text sa s' := vk_R.warm hW0 hstr
  obtain ⟨U, hsteps, hrun, hend, hW, hsame, ce, hce, hO⟩ := X₁.ctorThrowS hexec htr (own := own) (cls := cls) (names := names) (ic := ic) hown' hcls hnames h (fun x hx => nomatch hx) hfX hkX hcellA (by rw [hhp, hT]; exact Nat.le_refl _) (msg := .ref sa) rfl
    (g := { method := m, pc := pc + 7, locals := ls, stack := .ref sa :: .ref T.heap.size :: .ref T.heap.size :: rest, locked := none }) rfl hsize rfl rfl (rest := rest) rfl
    (by rw [hb]; exact d7) (by rw [hb]; exact d10) hout hRframes (by simp only [List.map_cons, List.sum_cons, hcat]; omega) hlocks
  obtain ⟨f1, f2⟩ := vx_frame hsame
  rw [hhp] at f1 f2
  have hWs : s.WarmedH U.vm := State.WarmedH.trans hW0 hW
  have hcl : s.vm.findClass cls = some ce.cls := by
    have h9 := hO.cls
    rw [hvm] at h9
    exact h9
  have hall : s.sameButNew ({ U with vm := s.vm } : State) locs mc ms := by
    subst hA
    obtain ⟨e1, e2⟩ := hsame
    rw [State.setFrames_setFrames] at e1
    have h2 : (T.setVm s.vm).sameButNew ({ U with vm := s.vm } : State) [] (0 + 1) (0 + 6) := ⟨e1, e2⟩
    have h3 := X.same.trans h2
    rw [List.append_nil] at h3
    exact h3.mono hc hs
  refine ⟨U, ?_, .threw T.heap.size, hrun, hend, Or.inr ⟨T.heap.size, rfl, cls, ce, locs, hx U hWs.alike f1 (fun q hq => f2 q hq (fun z hz => nomatch hz)), hce, hO.vm, hcl, hWs, hall, hf⟩⟩
  refine st1 _ ?_
  show Steps p.tables e below (T1.setTop { method := m, pc := pc + 3, locals := ls, stack := .ref T.heap.size :: rest, locked := none }) _
  jvm_step X₁.here [X₁.here.top, hexec, d3', Value.category]
  exact X₁.ldcStringW hexec (own := own) (text := text) (index := is) (a := sa) hown' hstr'.1 hstr'.2
    (g := { method := m, pc := pc + 4, locals := ls, stack := .ref T.heap.size :: .ref T.heap.size :: rest, locked := none }) rfl d4' _ hsteps
end Ends
section Bodies
variable {l : Launch}
theorem vx_ofW {y : MethodName} {ws ws' : List Cond} {rm : Room} {Pc : Array Value → State → Prop} {Qc : Array Value → State → Outcome → State → Prop} {XC : String → State → State → Prop} {mc ms : Nat} {free : Addr → Prop} {cc : ByteArray} {maxL : Nat} {ret : Option FieldType}
    (hy : plainName y.cls = true) (hw : ws = Cond.code y cc maxL ret :: ws')
    (body : ∀ p e s m args below meth c s₁, BodyLoose p l y (headSpec ws rm) cc maxL ret e s m args below meth c s₁ → c.maxLocals = maxL → (∀ x ∈ c.exceptionTable.toList, False) → Pc args s →
      W p l e (headSpec ws rm).room s m args below meth c s.heap [] 0 0 (vx_MQ below Qc XC args s mc ms free) (entryFrame m args maxL)) : vx_Met l y ws rm Pc Qc XC mc ms free := by
  refine MetFree.of_bodyS (code := cc) (maxLocals := maxL) (ret := ret) hy ?_ ?_
  · intro args s m h hn
    obtain ⟨meth, c, h1, h2, h3, h4, h5, h6, -, -⟩ := Cond.code_spec hn (atoms_spec (ws := ws) h _ (by rw [hw]; exact List.mem_cons_self))
    exact ⟨meth, c, h1, h2, h3, h4, h5, h6⟩
  · intro p e s m args below meth c s₁ B hml hP _
    have hh0 : s₁.heap = s.heap := by rw [B.state]; rfl
    have ht : ∀ x ∈ c.exceptionTable.toList, False := by
      obtain ⟨meth9, c9, h1, h2, -, -, -, -, h7, -⟩ := Cond.code_spec B.named (atoms_spec (ws := ws) B.pre _ (by rw [hw]; exact List.mem_cons_self))
      cases Option.some.inj (h1.symm.trans B.method)
      cases Option.some.inj (h2.symm.trans (Stand.of_body B).code)
      intro x hx
      rw [Array.isEmpty_iff.mp h7] at hx
      cases hx
    obtain ⟨t, a1, o, b1, b2, b3⟩ := body p e s m args below meth c s₁ B hml ht hP s₁ hh0 (Stand.of_body B)
    exact ⟨t, o, a1, b1, b2, b3⟩
/-- the table of a body with handlers -/
theorem vx_table {p : Program} {x y : MethodName} {S : Spec} {cc bytes : ByteArray} {maxL maxL' : Nat} {ret ret' : Option FieldType} {e : Env} {s s₁ : State} {m : MethodId} {args : Array Value} {below : List Frame} {meth : Method} {c : Code} {hh : List (Nat × Nat × Nat × Nat)}
    (B : BodyLoose p l y S cc maxL ret e s m args below meth c s₁) (h : (Cond.codeWith y bytes maxL' ret' hh).before args s = true) : c.exceptionTable.toList = tableOf hh := by
  obtain ⟨m9, meth9, c9, hn9, h1, h2, -, -, h6, -⟩ := Cond.codeWith_spec h
  cases Option.some.inj (hn9.symm.trans B.named)
  cases Option.some.inj (h1.symm.trans B.method)
  cases Option.some.inj (h2.symm.trans (Stand.of_body B).code)
  rw [← h6, table_eq]
end Bodies
end VXA
/-! ===== END ===== -/
/-! ===== BEGIN a static call of a method with an exception table ===== -/
section VXS
variable {p : Program} {l : Launch} {e : Env} {R : Room} {s : State} {m : MethodId} {args : Array Value} {below : List Frame} {meth : Method} {c : Code} {T : State} {H : Heap} {locs : List Loc} {cells slots : Nat}
abbrev vx_CSW (R : Room) (s : State) (args : Array Value) (own : String) (index : Nat) (y : MethodName) (bytes : ByteArray) (maxL : Nat) (ret : Option FieldType) (hh : List (Nat × Nat × Nat × Nat)) (ws : List Cond) (rm : Room) (mc ms n : Nat) : Prop :=
  (rm.cells = mc ∧ rm.slots = ms ∧ rm.frames + 1 ≤ R.frames ∧ 8 + (maxL + 11) + rm.locals ≤ R.locals ∧ (∀ w ∈ ws, ∀ (a' : Array Value) (U : State), s.WarmedH U.vm → w.before a' U = true) ∧ Cond.codeWith y bytes maxL ret hh ∈ ws) ∧
  (Cond.codeWith y bytes maxL ret hh).before args s = true ∧ (Cond.initialized y.cls).before args s = true ∧ (y.cls ≠ "java/lang/invoke/MethodHandle" ∧ y.cls ≠ "java/lang/invoke/VarHandle") ∧
  (∀ sig, parseMethodDescriptor y.desc = some sig → n = sig.parameters.length) ∧ (Cond.methodLink own index y).before args s = true ∧ (Cond.static y).before args s = true
theorem vx_cwSW {own : String} {index maxL mc ms : Nat} {y : MethodName} {bytes : ByteArray} {ret : Option FieldType} {hh : List (Nat × Nat × Nat × Nat)} {Ts ws ws' : List Cond} {rm : Room} (n : Nat) (ht : ∀ w ∈ Ts, w.before args s = true) (hT : GoodIn Ts (va_wsS own index y ws)) (hw : ws = Cond.codeWith y bytes maxL ret hh :: ws') (hrc : rm.cells = mc) (hrs : rm.slots = ms)
    (hd : y.cls ≠ "java/lang/invoke/MethodHandle" ∧ y.cls ≠ "java/lang/invoke/VarHandle" ∧ (parseMethodDescriptor y.desc).map (fun d => d.parameters.length) = some n) (hR : rm.frames + 1 ≤ R.frames ∧ 8 + (maxL + 11) + rm.locals ≤ R.locals) :
    vx_CSW R s args own index y bytes maxL ret hh ws rm mc ms n := by
  have ok : ∀ w ∈ va_wsS own index y ws, w.before args s = true := fun w h => ht w (hT w h).1
  have hG : GoodIn Ts ws := fun w h => hT w (by unfold va_wsS; exact List.mem_append_right _ h)
  have hc : Cond.codeWith y bytes maxL ret hh ∈ ws := by rw [hw]; exact List.mem_cons_self
  refine ⟨⟨hrc, hrs, hR.1, hR.2, pay_in ht hG, hc⟩, ht _ (hG _ hc).1, ok _ (by simp [va_wsS]), ⟨hd.1, hd.2.1⟩, fun sig h => ?_, ok _ (by simp [va_wsS]), ok _ (by simp [va_wsS])⟩
  have h2 := hd.2.2
  rw [h] at h2
  exact (Option.some.inj h2).symm
theorem vx_callSW (X : Stand p l e R s m args below meth c T locs cells slots) (hexec : p.tables.exec = Jvm.exec) {own : String} {index : Nat} {y : MethodName} {bytes : ByteArray} {maxL : Nat} {ret : Option FieldType} {hh : List (Nat × Nat × Nat × Nat)}
    (hown : s.vm.findClass own = some m.cls) (hlink : (Cond.methodLink own index y).before args s = true) (hstat : (Cond.static y).before args s = true) (hinit : (Cond.initialized y.cls).before args s = true)
    (hcode : (Cond.codeWith y bytes maxL ret hh).before args s = true) (hy : y.cls ≠ "java/lang/invoke/MethodHandle" ∧ y.cls ≠ "java/lang/invoke/VarHandle")
    {W9 : Nat} {Pre : Pt → Array Value → Prop} {Post : Pt → Array Value → Option Value → Pt → Prop} (hK : Back l R p e below s args y 3 W9 Pre Post)
    {g : JFrame} (hg : g.method = m) (hsize : g.locals.size = c.maxLocals) {argsL rest : List Value} (hlen : ∀ sig, parseMethodDescriptor y.desc = some sig → argsL.length = sig.parameters.length)
    (hstack : g.stack = argsL.reverse ++ rest) (hW : 2 * g.monitorRoom + (rest.map fun v => v.category).sum ≤ W9) (hdg : decode c.code g.pc = .ok (.invokestatic index, 3))
    (hpre : ∀ vm₁, s.WarmedH vm₁ → Pre ⟨T.setVm vm₁, locs, cells, slots⟩ argsL.toArray) :
    ∃ (v : Option Value) (vm₁ : Vm) (B : Pt), s.WarmedH vm₁ ∧ Stand p l e R s m args below meth c B.U B.locs B.cells B.slots ∧ Post ⟨T.setVm vm₁, locs, cells, slots⟩ argsL.toArray v B ∧
      ∀ target, Steps p.tables e below (B.U.setTop { g with pc := g.pc + 3, stack := v.toList ++ rest }) target → Steps p.tables e below (T.setTop g) target := by
  obtain ⟨mk, methM, cM, hnamed, hmethM, -, -, -, -, -, -, hsigM⟩ := Cond.codeWith_spec hcode
  have hstatic : methM.isStatic = true := Cond.static_spec hnamed hmethM hstat
  obtain ⟨kP, hkP, -⟩ := className_of_methodNamed hnamed
  have hinitP : kP.init = .initialized := Cond.initialized_spec (findClass_of_methodNamed hnamed) hkP hinit
  obtain ⟨vm₁, X₁, hstep₁⟩ := X.invokestatic hexec hown hlink hnamed hmethM hstatic hkP hinitP hy (g := g) hg (argsL := argsL) (rest := rest) (hlen _ hsigM) hstack hdg
  obtain ⟨v, B, X', hpost, hsteps⟩ := hK m meth c ⟨T.setVm vm₁, locs, cells, slots⟩ { g with stack := rest } (.invokestatic index) mk argsL.toArray X₁ hg hsize hdg hW (X₁.named hnamed) (hpre vm₁ X₁.warmed)
  exact ⟨v, vm₁, B, X₁.warmed, X', hpost, fun target h => hstep₁ _ fun acts => by rw [doInvoke_state]; exact hsteps.trans h⟩
theorem vx_runSW {y : MethodName} {bytes cc : ByteArray} {maxL nL mc ms n index : Nat} {ret : Option FieldType} {hh : List (Nat × Nat × Nat × Nat)} {ws : List Cond} {rm : Room} {Pc : Array Value → State → Prop} {Qc : Array Value → State → Outcome → State → Prop} {free : Addr → Prop} {Ts : List Cond} {own : String} {As rest : List Value} {g : JFrame}
    (S : CallFix p m c cc nL s args Ts own) (hM : Met l y ws rm Pc Qc mc ms free) (cw : vx_CSW R s args own index y bytes maxL ret hh ws rm mc ms n) (hp : PreS s H Pc As)
    (hg : g.method = m) (hn : As.length = n) (hsize : g.locals.size = nL) (hstack : g.stack = As.reverse ++ rest) (hW : 2 * g.monitorRoom + (rest.map fun v => v.category).sum ≤ 8) (hdg : decode cc g.pc = .ok (.invokestatic index, 3)) (hf : cells + mc ≤ R.cells ∧ slots + ms ≤ R.slots) :
    va_Run p l e R s m args below meth c H locs cells slots mc ms g rest (Qc As.toArray) (free) := by
  obtain ⟨⟨hrc, hrs, hfr, hlo, hws, hcw⟩, hcode, hini, hy, hlen, hl, hstt⟩ := cw
  have hK : Back l R p e below s args y 3 8 (PreOf R mc ms Pc) (PostOf Qc mc ms free) := va_backW (hh := hh) (bytes := bytes) (maxL := maxL) (ret := ret) hM hp.1 hrc hrs hfr hlo hws hcw (fun a' U hW => word_at hW (Or.inl (by first | rfl | simp [Cond.onTables, Cond.keeps, Cond.steady])) hini)
  obtain ⟨hx, hb, hml, ho, -⟩ := S
  intro T hT X
  obtain ⟨v, vm₁, ⟨U', l2, c2, s2⟩, hW₁, X', ⟨g', mk, t, L, e1, e2, hq, h1, hL, h2, h3⟩, st⟩ := vx_callSW X hx (hh := hh) (bytes := bytes) (maxL := maxL) (ret := ret) ho hl hstt hini hcode hy hK hg (hsize.trans hml.symm) (argsL := As) (rest := rest) (fun sig h => hn.trans (hlen sig h)) hstack hW (by rw [hb]; exact hdg)
    (fun vm₁ hW₁ => ⟨hf.1, hf.2, hp.2 (T.setVm vm₁) hT hW₁⟩)
  dsimp only [Pt.U, Pt.locs, Pt.cells, Pt.slots] at X' e1 e2 h1 h2 h3 st
  subst h1; subst h2; subst h3
  exact ⟨v, (T.setVm vm₁).calling g' mk As.toArray, t, U', L, hT, X', hL, e1, e2, hq, st⟩
/-- not caught here, past rows that name other classes: it goes on to the caller -/
theorem vx_outP {p : Program} {l : Launch} {e : Env} {R : Room} {s : State} {m : MethodId} {args : Array Value} {below : List Frame} {meth : Method} {c : Code} {H : Heap} {locs : List Loc} {cells slots : Nat} {free : Addr → Prop} {ls : Array Slot} {rest : List Value} {Qc : Array Value → State → Outcome → State → Prop} {XC : String → State → State → Prop}
    {pc : Nat} {own E : String} {ce : Cell} {q : Addr} {mc ms : Nat} (hown : s.vm.findClass own = some m.cls) (hlocks : meth.locks = false)
    (hpass : ∀ z ∈ c.exceptionTable.toList, covers z pc = false ∨ (z.catchType ≠ 0 ∧ ∃ nm : String, (Cond.classLink own z.catchType nm).before args s = true ∧ va_Nc E nm s)) (hcell : H[q]? = some ce) (hv : ce.vm = .none) (hcl : s.vm.findClass E = some ce.cls)
    (hx : ∀ t : State, t.heap = H → s.vm.Alike t.vm → XC E s t) (hf : ∀ z ∈ locs, free z.base) (hc : cells ≤ mc) (hs : slots ≤ ms) :
    vx_W p l e R s m args below meth c H locs cells slots (vx_MQ below Qc XC args s mc ms free) (F0 m pc ls rest) q := by
  intro T hT X
  have hpl : e.platform.magicAccessors = ({} : Platform).magicAccessors := by rw [X.admits.platform]
  obtain ⟨vm', hW', X', st⟩ := X.outThrough hlocks q (g := F0 m pc ls rest) rfl rfl rfl (cell := ce) (by rw [hT]; exact hcell) (by rw [hv]; rfl)
    (by obtain ⟨k9, h9, -⟩ := Vm.findClass_spec hcl; exact ⟨k9, h9⟩) (fun z hz => by
      rcases hpass z hz with h | ⟨hz0, nm, hl1, hn1⟩
      · exact Or.inl h
      · obtain ⟨c6, hc6, hcl6⟩ := Cond.classLink_spec hown hl1 e.platform hpl
        obtain ⟨a8, b8, h1, h2, h3⟩ := hn1
        cases Option.some.inj (h1.symm.trans hcl)
        cases Option.some.inj (h2.symm.trans hc6)
        exact Or.inr ⟨hz0, _, hcl6, h3⟩)
  obtain ⟨g₀, hfr⟩ := X'.frames_eq
  have hcell9 : ((T.setVm vm').setFrames (.throwing q :: below)).heap[q]? = some ce := by
    show T.heap[q]? = some ce
    rw [hT]; exact hcell
  have hend : Ended ((T.setVm vm').setFrames (.throwing q :: below)) below (.threw q) := State.frames_setFrames _ (State.cur_lt_of_frames hfr)
  refine ⟨(T.setVm vm').setFrames (.throwing q :: below), ?_, .threw q, X'.here.running, hend, Or.inr ⟨q, rfl, E, ce, locs, hx _ hT (X'.ends _).1.alike, hcell9, hv, hcl, (X'.ends _).1, (X'.ends _).2.mono hc hs, hf⟩⟩
  rw [X.pushThrowing_eq]
  exact st
/-- a thing of a world lies in the heap -/
theorem vx_lt {D : va_G} {cl : List vw_C} {ws : va_W} {H1 : Heap} (h : va_P D cl ws H1) {k : Nat} {q : Nat × va_E} (hk : ws[k]? = some q) : q.1 < H1.size := (h k q hk).lt
end VXS
/-! ===== END ===== -/
/-! ===== BEGIN methods with a table of their own: called by a name, returning or throwing ===== -/
section VXH
/-! vx_backW, vx_callVX, vx_callSX, vx_callVW, vx_runVW, vx_runVX, vx_runSX, vx_ofWH follow the same proofs as their sisters above (Free/Laws.lean, Shelf42/LK1.lean); vx_outP calls Shelf42/NT130.lean (outThrough). -/
section
variable {l : Launch} {R : Room} {p : Program} {e : Env} {below : List Frame} {s : State} {sargs : Array Value} {y : MethodName} {len W9 : Nat}
theorem vx_backW {ws : List Cond} {rm : Room} {Pc : Array Value → State → Prop} {Qc : Array Value → State → Outcome → State → Prop} {XC : String → State → State → Prop} {mc ms : Nat} {free : Addr → Prop} {bytes : ByteArray} {maxL : Nat} {ret : Option FieldType} {hh : List (Nat × Nat × Nat × Nat)}
    (hM : vx_Met l y ws rm Pc Qc XC mc ms free) (hblind : FrameBlind Pc) (hrc : rm.cells = mc) (hrs : rm.slots = ms)
    (hframes : rm.frames + 1 ≤ R.frames) (hlocals : W9 + (maxL + 11) + rm.locals ≤ R.locals)
    (hws : ∀ w ∈ ws, ∀ a' U, s.WarmedH U.vm → w.before a' U = true) (hcode : Cond.codeWith y bytes maxL ret hh ∈ ws) (hinit : ∀ a' U, s.WarmedH U.vm → (Cond.initialized y.cls).before a' U = true) :
    vx_Back l R p e below s sargs y len W9 (PreOf R mc ms Pc) (PostOf Qc mc ms free) (vx_Post XC mc ms free) := by
  intro m meth c A g ig mk a X hg hsize hdg hW hn hp
  have h1 : (headSpec ws rm).pre.before a A.U = true := atoms_intro fun w hw => hws w hw _ _ X.warmed
  have h2 : (Cond.codeWith y bytes maxL ret hh).before a A.U = true := hws _ hcode _ _ X.warmed
  have h3 : (Cond.initialized y.cls).before a A.U = true := hinit _ _ X.warmed
  have h4 : A.cells + (headSpec ws rm).room.cells ≤ R.cells := by rw [show (headSpec ws rm).room.cells = mc from hrc]; exact hp.1
  have h5 : A.slots + (headSpec ws rm).room.slots ≤ R.slots := by rw [show (headSpec ws rm).room.slots = ms from hrs]; exact hp.2.1
  have hPc : Pc a (A.U.calling g mk a) := hblind _ _ _ _ hp.2.2
  obtain ⟨U, Ls, c0, s0⟩ := A
  dsimp only [Pt.U, Pt.locs, Pt.cells, Pt.slots] at h1 h2 h3 h4 h5 X hn hPc ⊢
  obtain ⟨m9, methY, cY, hn9, hmY, hcY, -, hlY, -⟩ := Cond.codeWith_spec h2
  cases Option.some.inj (hn9.symm.trans hn)
  obtain ⟨kY, hkY, -⟩ := className_of_methodNamed hn
  have hinitY : kY.init = .initialized := Cond.initialized_spec (findClass_of_methodNamed hn) hkY h3
  have h : At U g.method c below := by rw [hg]; exact X.here
  have hlocals9 : W9 + (maxL + 11) + (headSpec ws rm).room.locals ≤ R.locals := hlocals
  have happ : (headSpec ws rm).appliesLoose y e.platform (U.calling g mk a) = true :=
    Spec.appliesLoose_calling (g := g) h hdg hn hkY hinitY
      (X.room_calling (g := g) (R' := (headSpec ws rm).room) hsize hmY hcY hframes (by rw [hlY]; omega) h4 h5) h1
  obtain ⟨mid, hmid⟩ := h.above
  have hfr : (U.setTop g).frames = (.java g :: mid) ++ below := by rw [State.frames_setTop' g h.top, hmid]; rfl
  obtain ⟨o, s₂, hsteps, -, hend, hq⟩ := Steps.callFree hM p X.admits X.cas X.clock (acts := []) hfr happ hPc trivial
  have hq' : vx_Q Qc XC mc ms free a (U.calling g mk a) o s₂ := hq
  rw [State.frames_setTop' g h.top] at hend
  obtain ⟨g₀, hg0⟩ := Option.isSome_iff_exists.mp h.top
  obtain ⟨r, hr⟩ := State.topJava?_eq_some.mp hg0
  have hr' : (({ U with heap := s₂.heap, slotsUsed := s₂.slotsUsed } : State).setVm s₂.vm).frames = .java g₀ :: r := hr
  rcases hq' with ⟨hqc, L, hfe, hL⟩ | ⟨q, rfl, E, ce, L, hx, hce, hcv, hcl, hW₂, hsm, hL⟩
  · obtain ⟨⟨v, rfl⟩, hW₂, e2, q2, q3, q4, q5, q6⟩ := id hfe
    have e3 : s₂ = ({ (U.calling g mk a).setFrames s₂.frames with heap := s₂.heap, slotsUsed := s₂.slotsUsed } : State).setVm s₂.vm := by
      have : s₂ = ({ s₂ with vm := (U.calling g mk a).vm } : State).setVm s₂.vm := rfl
      rw [e2] at this
      exact this
    obtain ⟨c₂, i₂, len₂, hc₂, hd₂, hf₂⟩ := hend
    have hW' : U.WarmedH s₂.vm := hW₂
    have hcc : c₂ = c := by
      have h1 : s₂.code? g.method = U.code? g.method := by
        rw [State.code?_eq, State.code?_eq, hW'.alike.method?]
      exact Option.some.inj (hc₂.symm.trans (h1.trans h.code))
    subst hcc
    have hlen : len₂ = len := by rw [hdg] at hd₂; cases hd₂; rfl
    subst hlen
    have hs₂ : s₂ = (({ U with heap := s₂.heap, slotsUsed := s₂.slotsUsed } : State).setVm s₂.vm).setTop { g with pc := g.pc + len₂, stack := v.toList ++ g.stack } := by
      refine e3.trans ?_
      rw [hf₂, State.calling_eq h.top, State.setFrames_setFrames, State.setTop_of_frames _ hr', hr]
      rfl
    have hsame : U.sameButNew ({ U with heap := s₂.heap, slotsUsed := s₂.slotsUsed } : State) L mc ms := by
      refine ⟨?_, q2, q3, q4, q5, q6⟩
      obtain ⟨t, ht, -⟩ := State.frames_cons hr
      show ({ U with heap := s₂.heap, slotsUsed := s₂.slotsUsed } : State) = { U.setFrames U.frames with heap := s₂.heap, slotsUsed := s₂.slotsUsed }
      rw [State.setFrames_self ht]
    subst hg
    refine Or.inl ⟨v, ⟨(({ U with heap := s₂.heap, slotsUsed := s₂.slotsUsed } : State).setVm s₂.vm), Ls ++ L, c0 + mc, s0 + ms⟩,
      ⟨X.admits, X.cas, X.clock, X.frames, X.room, X.hears, X.method, X.code, (X.here.setHeapUsed s₂.heap s₂.slotsUsed).setVm hW'.alike, X.tail, State.WarmedH.trans X.warmed hW', X.limits, X.bytes, X.same.trans (hsame.setVm s.vm)⟩,
      ⟨g, mk, s₂, L, rfl, rfl, hqc, rfl, hL, rfl, rfl⟩, ?_⟩
    show Steps p.tables e below _ ((({ U with heap := s₂.heap, slotsUsed := s₂.slotsUsed } : State).setVm s₂.vm).setTop { g with pc := g.pc + len₂, stack := v.toList ++ g.stack })
    rw [← hs₂]
    exact hsteps
  · obtain ⟨e2, q2, q3, q4, q5, q6⟩ := id hsm
    have e3 : s₂ = ({ (U.calling g mk a).setFrames s₂.frames with heap := s₂.heap, slotsUsed := s₂.slotsUsed } : State).setVm s₂.vm := by
      have : s₂ = ({ s₂ with vm := (U.calling g mk a).vm } : State).setVm s₂.vm := rfl
      rw [e2] at this
      exact this
    have hf₂ : s₂.frames = .throwing q :: .java g :: U.frames.tail := hend
    have hW' : U.WarmedH s₂.vm := hW₂
    have hs₂ : s₂ = ((({ U with heap := s₂.heap, slotsUsed := s₂.slotsUsed } : State).setVm s₂.vm).setTop g).pushFrame (.throwing q) := by
      refine e3.trans ?_
      rw [hf₂, State.calling_eq h.top, State.setFrames_setFrames, State.pushFrame, State.frames_setTop _ hr', State.setTop_of_frames _ hr', State.setFrames_setFrames, hr]
      rfl
    have hsame : U.sameButNew ({ U with heap := s₂.heap, slotsUsed := s₂.slotsUsed } : State) L mc ms := by
      refine ⟨?_, q2, q3, q4, q5, q6⟩
      obtain ⟨t, ht, -⟩ := State.frames_cons hr
      show ({ U with heap := s₂.heap, slotsUsed := s₂.slotsUsed } : State) = { U.setFrames U.frames with heap := s₂.heap, slotsUsed := s₂.slotsUsed }
      rw [State.setFrames_self ht]
    subst hg
    refine Or.inr ⟨q, ⟨(({ U with heap := s₂.heap, slotsUsed := s₂.slotsUsed } : State).setVm s₂.vm), Ls ++ L, c0 + mc, s0 + ms⟩,
      ⟨X.admits, X.cas, X.clock, X.frames, X.room, X.hears, X.method, X.code, (X.here.setHeapUsed s₂.heap s₂.slotsUsed).setVm hW'.alike, X.tail, State.WarmedH.trans X.warmed hW', X.limits, X.bytes, X.same.trans (hsame.setVm s.vm)⟩,
      ⟨g, mk, s₂, L, E, ce, rfl, rfl, hx, hce, hcv, hcl, rfl, hL, rfl, rfl⟩, ?_⟩
    show Steps p.tables e below _ (((({ U with heap := s₂.heap, slotsUsed := s₂.slotsUsed } : State).setVm s₂.vm).setTop g).pushFrame (.throwing q))
    rw [← hs₂]
    exact hsteps
end
variable {p : Program} {l : Launch} {e : Env} {R : Room} {s : State} {m : MethodId} {args : Array Value} {below : List Frame} {meth : Method} {c : Code} {T : State} {H : Heap} {locs : List Loc} {cells slots : Nat}
theorem vx_callVX (X : Stand p l e R s m args below meth c T locs cells slots) (hexec : p.tables.exec = Jvm.exec) {own C : String} {index : Nat} {y : MethodName} {bytes : ByteArray} {maxL : Nat} {ret : Option FieldType} {hh : List (Nat × Nat × Nat × Nat)}
    (hown : s.vm.findClass own = some m.cls) (hlink : (Cond.methodLink own index y).before args s = true) (hinst : (Cond.instanceMethod y).before args s = true) (hsel : (Cond.selects C y y).before args s = true)
    (hcode : (Cond.codeWith y bytes maxL ret hh).before args s = true) (hy : y.cls ≠ "java/lang/invoke/MethodHandle" ∧ y.cls ≠ "java/lang/invoke/VarHandle")
    {W9 : Nat} {Pre : Pt → Array Value → Prop} {Post : Pt → Array Value → Option Value → Pt → Prop} {PostX : Pt → Array Value → Addr → Pt → Prop} (hK : vx_Back l R p e below s args y 3 W9 Pre Post PostX)
    {b : Addr} {cellB : Cell} (hcell : T.heap[b]? = some cellB) (hobj : cellB.vm.isStatics = false) (hcls : s.vm.findClass C = some cellB.cls)
    {g : JFrame} (hg : g.method = m) (hsize : g.locals.size = c.maxLocals) {argsL rest : List Value} (hlen : ∀ sig, parseMethodDescriptor y.desc = some sig → argsL.length = sig.parameters.length)
    (hstack : g.stack = argsL.reverse ++ .ref b :: rest) (hW : 2 * g.monitorRoom + (rest.map fun v => v.category).sum ≤ W9) (hdg : decode c.code g.pc = .ok (.invokevirtual index, 3))
    (hpre : ∀ vm₁, s.WarmedH vm₁ → Pre ⟨T.setVm vm₁, locs, cells, slots⟩ (Value.ref b :: argsL).toArray) :
    (∃ (v : Option Value) (vm₁ : Vm) (B : Pt), s.WarmedH vm₁ ∧ Stand p l e R s m args below meth c B.U B.locs B.cells B.slots ∧ Post ⟨T.setVm vm₁, locs, cells, slots⟩ (Value.ref b :: argsL).toArray v B ∧
      ∀ target, Steps p.tables e below (B.U.setTop { g with pc := g.pc + 3, stack := v.toList ++ rest }) target → Steps p.tables e below (T.setTop g) target) ∨
    (∃ (q : Addr) (vm₁ : Vm) (B : Pt), s.WarmedH vm₁ ∧ Stand p l e R s m args below meth c B.U B.locs B.cells B.slots ∧ PostX ⟨T.setVm vm₁, locs, cells, slots⟩ (Value.ref b :: argsL).toArray q B ∧
      Steps p.tables e below (T.setTop g) ((B.U.setTop { g with stack := rest }).pushFrame (.throwing q))) := by
  obtain ⟨mk, methM, hnamed, hmethM, hstM, habM⟩ := Cond.instanceMethod_spec hinst
  obtain ⟨m8, methM', cM, hn8, hmethM', -, -, -, -, -, -, hsigM⟩ := Cond.codeWith_spec hcode
  cases Option.some.inj (hn8.symm.trans hnamed)
  cases hmethM.symm.trans hmethM'
  obtain ⟨c2, r2, m2, q1, q2, q3, q4, kP, hkP, hkPi⟩ := Cond.selects_spec hsel
  cases hcls.symm.trans q1
  cases (State.methodFound?_of_named hnamed hy).symm.trans q2
  cases hnamed.symm.trans q3
  have hselP : selectMethod e.platform s.vm cellB.cls mk = .method mk := by rw [Launch.admits_selectMethod X.admits]; exact q4
  obtain ⟨vm₁, X₁, hstep₁⟩ := X.invokevirtual hexec hown hlink hnamed hmethM hstM hkP hkPi hy (a := b) (cell := cellB) hcell
    (fun z h => by rw [h] at hobj; cases hobj) hselP hmethM habM hkP hkPi (g := g) hg (argsL := argsL) (rest := rest) (hlen _ hsigM) hstack hdg
  rcases hK m meth c ⟨T.setVm vm₁, locs, cells, slots⟩ { g with stack := rest } (.invokevirtual index) mk (Value.ref b :: argsL).toArray X₁ hg hsize hdg hW (X₁.named hnamed) (hpre vm₁ X₁.warmed) with ⟨v, B, X', hpost, hsteps⟩ | ⟨q, B, X', hpost, hsteps⟩
  · exact Or.inl ⟨v, vm₁, B, X₁.warmed, X', hpost, fun target h => hstep₁ _ fun acts => by rw [doInvoke_state]; exact hsteps.trans h⟩
  · exact Or.inr ⟨q, vm₁, B, X₁.warmed, X', hpost, hstep₁ _ fun acts => by rw [doInvoke_state]; exact hsteps⟩
theorem vx_callSX (X : Stand p l e R s m args below meth c T locs cells slots) (hexec : p.tables.exec = Jvm.exec) {own : String} {index : Nat} {y : MethodName} {bytes : ByteArray} {maxL : Nat} {ret : Option FieldType} {hh : List (Nat × Nat × Nat × Nat)}
    (hown : s.vm.findClass own = some m.cls) (hlink : (Cond.methodLink own index y).before args s = true) (hstat : (Cond.static y).before args s = true) (hinit : (Cond.initialized y.cls).before args s = true)
    (hcode : (Cond.codeWith y bytes maxL ret hh).before args s = true) (hy : y.cls ≠ "java/lang/invoke/MethodHandle" ∧ y.cls ≠ "java/lang/invoke/VarHandle")
    {W9 : Nat} {Pre : Pt → Array Value → Prop} {Post : Pt → Array Value → Option Value → Pt → Prop} {PostX : Pt → Array Value → Addr → Pt → Prop} (hK : vx_Back l R p e below s args y 3 W9 Pre Post PostX)
    {g : JFrame} (hg : g.method = m) (hsize : g.locals.size = c.maxLocals) {argsL rest : List Value} (hlen : ∀ sig, parseMethodDescriptor y.desc = some sig → argsL.length = sig.parameters.length)
    (hstack : g.stack = argsL.reverse ++ rest) (hW : 2 * g.monitorRoom + (rest.map fun v => v.category).sum ≤ W9) (hdg : decode c.code g.pc = .ok (.invokestatic index, 3))
    (hpre : ∀ vm₁, s.WarmedH vm₁ → Pre ⟨T.setVm vm₁, locs, cells, slots⟩ argsL.toArray) :
    (∃ (v : Option Value) (vm₁ : Vm) (B : Pt), s.WarmedH vm₁ ∧ Stand p l e R s m args below meth c B.U B.locs B.cells B.slots ∧ Post ⟨T.setVm vm₁, locs, cells, slots⟩ argsL.toArray v B ∧
      ∀ target, Steps p.tables e below (B.U.setTop { g with pc := g.pc + 3, stack := v.toList ++ rest }) target → Steps p.tables e below (T.setTop g) target) ∨
    (∃ (q : Addr) (vm₁ : Vm) (B : Pt), s.WarmedH vm₁ ∧ Stand p l e R s m args below meth c B.U B.locs B.cells B.slots ∧ PostX ⟨T.setVm vm₁, locs, cells, slots⟩ argsL.toArray q B ∧
      Steps p.tables e below (T.setTop g) ((B.U.setTop { g with stack := rest }).pushFrame (.throwing q))) := by
  obtain ⟨mk, methM, cM, hnamed, hmethM, -, -, -, -, -, -, hsigM⟩ := Cond.codeWith_spec hcode
  have hstatic : methM.isStatic = true := Cond.static_spec hnamed hmethM hstat
  obtain ⟨kP, hkP, -⟩ := className_of_methodNamed hnamed
  have hinitP : kP.init = .initialized := Cond.initialized_spec (findClass_of_methodNamed hnamed) hkP hinit
  obtain ⟨vm₁, X₁, hstep₁⟩ := X.invokestatic hexec hown hlink hnamed hmethM hstatic hkP hinitP hy (g := g) hg (argsL := argsL) (rest := rest) (hlen _ hsigM) hstack hdg
  rcases hK m meth c ⟨T.setVm vm₁, locs, cells, slots⟩ { g with stack := rest } (.invokestatic index) mk argsL.toArray X₁ hg hsize hdg hW (X₁.named hnamed) (hpre vm₁ X₁.warmed) with ⟨v, B, X', hpost, hsteps⟩ | ⟨q, B, X', hpost, hsteps⟩
  · exact Or.inl ⟨v, vm₁, B, X₁.warmed, X', hpost, fun target h => hstep₁ _ fun acts => by rw [doInvoke_state]; exact hsteps.trans h⟩
  · exact Or.inr ⟨q, vm₁, B, X₁.warmed, X', hpost, hstep₁ _ fun acts => by rw [doInvoke_state]; exact hsteps⟩
theorem vx_callVW (X : Stand p l e R s m args below meth c T locs cells slots) (hexec : p.tables.exec = Jvm.exec) {own C : String} {index : Nat} {y : MethodName} {bytes : ByteArray} {maxL : Nat} {ret : Option FieldType} {hh : List (Nat × Nat × Nat × Nat)}
    (hown : s.vm.findClass own = some m.cls) (hlink : (Cond.methodLink own index y).before args s = true) (hinst : (Cond.instanceMethod y).before args s = true) (hsel : (Cond.selects C y y).before args s = true)
    (hcode : (Cond.codeWith y bytes maxL ret hh).before args s = true) (hy : y.cls ≠ "java/lang/invoke/MethodHandle" ∧ y.cls ≠ "java/lang/invoke/VarHandle")
    {W9 : Nat} {Pre : Pt → Array Value → Prop} {Post : Pt → Array Value → Option Value → Pt → Prop} (hK : Back l R p e below s args y 3 W9 Pre Post)
    {b : Addr} {cellB : Cell} (hcell : T.heap[b]? = some cellB) (hobj : cellB.vm.isStatics = false) (hcls : s.vm.findClass C = some cellB.cls)
    {g : JFrame} (hg : g.method = m) (hsize : g.locals.size = c.maxLocals) {argsL rest : List Value} (hlen : ∀ sig, parseMethodDescriptor y.desc = some sig → argsL.length = sig.parameters.length)
    (hstack : g.stack = argsL.reverse ++ .ref b :: rest) (hW : 2 * g.monitorRoom + (rest.map fun v => v.category).sum ≤ W9) (hdg : decode c.code g.pc = .ok (.invokevirtual index, 3))
    (hpre : ∀ vm₁, s.WarmedH vm₁ → Pre ⟨T.setVm vm₁, locs, cells, slots⟩ (Value.ref b :: argsL).toArray) :
    ∃ (v : Option Value) (vm₁ : Vm) (B : Pt), s.WarmedH vm₁ ∧ Stand p l e R s m args below meth c B.U B.locs B.cells B.slots ∧ Post ⟨T.setVm vm₁, locs, cells, slots⟩ (Value.ref b :: argsL).toArray v B ∧
      ∀ target, Steps p.tables e below (B.U.setTop { g with pc := g.pc + 3, stack := v.toList ++ rest }) target → Steps p.tables e below (T.setTop g) target := by
  obtain ⟨mk, methM, hnamed, hmethM, hstM, habM⟩ := Cond.instanceMethod_spec hinst
  obtain ⟨m8, methM', cM, hn8, hmethM', -, -, -, -, -, -, hsigM⟩ := Cond.codeWith_spec hcode
  cases Option.some.inj (hn8.symm.trans hnamed)
  cases hmethM.symm.trans hmethM'
  obtain ⟨c2, r2, m2, q1, q2, q3, q4, kP, hkP, hkPi⟩ := Cond.selects_spec hsel
  cases hcls.symm.trans q1
  cases (State.methodFound?_of_named hnamed hy).symm.trans q2
  cases hnamed.symm.trans q3
  have hselP : selectMethod e.platform s.vm cellB.cls mk = .method mk := by rw [Launch.admits_selectMethod X.admits]; exact q4
  obtain ⟨vm₁, X₁, hstep₁⟩ := X.invokevirtual hexec hown hlink hnamed hmethM hstM hkP hkPi hy (a := b) (cell := cellB) hcell
    (fun z h => by rw [h] at hobj; cases hobj) hselP hmethM habM hkP hkPi (g := g) hg (argsL := argsL) (rest := rest) (hlen _ hsigM) hstack hdg
  obtain ⟨v, B, X', hpost, hsteps⟩ := hK m meth c ⟨T.setVm vm₁, locs, cells, slots⟩ { g with stack := rest } (.invokevirtual index) mk (Value.ref b :: argsL).toArray X₁ hg hsize hdg hW (X₁.named hnamed) (hpre vm₁ X₁.warmed)
  exact ⟨v, vm₁, B, X₁.warmed, X', hpost, fun target h => hstep₁ _ fun acts => by rw [doInvoke_state]; exact hsteps.trans h⟩
abbrev vx_CVW (R : Room) (s : State) (args : Array Value) (own C : String) (index : Nat) (y : MethodName) (bytes : ByteArray) (maxL : Nat) (ret : Option FieldType) (hh : List (Nat × Nat × Nat × Nat)) (ws : List Cond) (rm : Room) (mc ms n : Nat) : Prop :=
  (rm.cells = mc ∧ rm.slots = ms ∧ rm.frames + 1 ≤ R.frames ∧ 8 + (maxL + 11) + rm.locals ≤ R.locals ∧ (∀ w ∈ ws, ∀ (a' : Array Value) (U : State), s.WarmedH U.vm → w.before a' U = true) ∧ Cond.codeWith y bytes maxL ret hh ∈ ws) ∧
  (Cond.codeWith y bytes maxL ret hh).before args s = true ∧ (Cond.initialized y.cls).before args s = true ∧ (y.cls ≠ "java/lang/invoke/MethodHandle" ∧ y.cls ≠ "java/lang/invoke/VarHandle") ∧
  (∀ sig, parseMethodDescriptor y.desc = some sig → n = sig.parameters.length) ∧ (Cond.methodLink own index y).before args s = true ∧ (Cond.instanceMethod y).before args s = true ∧ (Cond.selects C y y).before args s = true
theorem vx_cwVW {own C : String} {index maxL mc ms : Nat} {y : MethodName} {bytes : ByteArray} {ret : Option FieldType} {hh : List (Nat × Nat × Nat × Nat)} {Ts ws ws' : List Cond} {rm : Room} (n : Nat) (ht : ∀ w ∈ Ts, w.before args s = true) (hT : GoodIn Ts (wsV own index C y ws)) (hw : ws = Cond.codeWith y bytes maxL ret hh :: ws') (hrc : rm.cells = mc) (hrs : rm.slots = ms)
    (hd : y.cls = C ∧ y.cls ≠ "java/lang/invoke/MethodHandle" ∧ y.cls ≠ "java/lang/invoke/VarHandle" ∧ (parseMethodDescriptor y.desc).map (fun d => d.parameters.length) = some n) (hR : rm.frames + 1 ≤ R.frames ∧ 8 + (maxL + 11) + rm.locals ≤ R.locals) :
    vx_CVW R s args own C index y bytes maxL ret hh ws rm mc ms n := by
  obtain ⟨hC, hd⟩ := hd
  subst hC
  have ok : ∀ w ∈ wsV own index y.cls y ws, w.before args s = true := fun w h => ht w (hT w h).1
  have hG : GoodIn Ts ws := fun w h => hT w (by unfold wsV; exact List.mem_append_right _ h)
  have hc : Cond.codeWith y bytes maxL ret hh ∈ ws := by rw [hw]; exact List.mem_cons_self
  refine ⟨⟨hrc, hrs, hR.1, hR.2, pay_in ht hG, hc⟩, ht _ (hG _ hc).1, ok _ (by simp [wsV]), ⟨hd.1, hd.2.1⟩, fun sig h => ?_, ok _ (by simp [wsV]), ok _ (by simp [wsV]), ok _ (by simp [wsV])⟩
  have h2 := hd.2.2
  rw [h] at h2
  exact (Option.some.inj h2).symm
theorem vx_runVW {y : MethodName} {bytes cc : ByteArray} {maxL nL mc ms n index : Nat} {ret : Option FieldType} {hh : List (Nat × Nat × Nat × Nat)} {ws : List Cond} {rm : Room} {Pc : Array Value → State → Prop} {Qc : Array Value → State → Outcome → State → Prop} {free : Addr → Prop} {Ts : List Cond} {own C : String} {b : Addr} {As rest : List Value} {g : JFrame}
    (S : CallFix p m c cc nL s args Ts own) (hM : Met l y ws rm Pc Qc mc ms free) (cw : vx_CVW R s args own C index y bytes maxL ret hh ws rm mc ms n) (hp : PreV s H C b Pc As)
    (hg : g.method = m) (hn : As.length = n) (hsize : g.locals.size = nL) (hstack : g.stack = As.reverse ++ .ref b :: rest) (hW : 2 * g.monitorRoom + (rest.map fun v => v.category).sum ≤ 8) (hdg : decode cc g.pc = .ok (.invokevirtual index, 3)) (hf : cells + mc ≤ R.cells ∧ slots + ms ≤ R.slots) :
    va_Run p l e R s m args below meth c H locs cells slots mc ms g rest (Qc (Value.ref b :: As).toArray) free := by
  obtain ⟨⟨hrc, hrs, hfr, hlo, hws, hcw⟩, hcode, hini, hy, hlen, hl, hin, hse⟩ := cw
  have hK : Back l R p e below s args y 3 8 (PreOf R mc ms Pc) (PostOf Qc mc ms free) := va_backW (hh := hh) (bytes := bytes) (maxL := maxL) (ret := ret) hM hp.1 hrc hrs hfr hlo hws hcw (fun a' U hW => word_at hW (Or.inl (by first | rfl | simp [Cond.onTables, Cond.keeps, Cond.steady])) hini)
  obtain ⟨hx, hb, hml, ho, -⟩ := S
  obtain ⟨-, ⟨cellB, hcB, hoB, hclB⟩, hPc⟩ := hp
  intro T hT X
  obtain ⟨v, vm₁, ⟨U', l2, c2, s2⟩, hW₁, X', ⟨g', mk, t, L, e1, e2, hq, h1, hL, h2, h3⟩, st⟩ := vx_callVW X hx (C := C) (hh := hh) (bytes := bytes) (maxL := maxL) (ret := ret) ho hl hin hse hcode hy hK (by rw [hT]; exact hcB) hoB hclB hg (hsize.trans hml.symm) (argsL := As) (rest := rest) (fun sig h => hn.trans (hlen sig h)) hstack hW (by rw [hb]; exact hdg)
    (fun vm₁ hW₁ => ⟨hf.1, hf.2, hPc (T.setVm vm₁) hT hW₁⟩)
  dsimp only [Pt.U, Pt.locs, Pt.cells, Pt.slots] at X' e1 e2 h1 h2 h3 st
  subst h1; subst h2; subst h3
  exact ⟨v, (T.setVm vm₁).calling g' mk (Value.ref b :: As).toArray, t, U', L, hT, X', hL, e1, e2, hq, st⟩
section
variable {y : MethodName} {bytes cc : ByteArray} {maxL nL mc ms n index : Nat} {ret : Option FieldType} {ws : List Cond} {rm : Room} {Pc : Array Value → State → Prop} {Qc : Array Value → State → Outcome → State → Prop} {XC : String → State → State → Prop} {free : Addr → Prop} {Ts : List Cond} {own C : String} {b : Addr} {As rest : List Value} {g : JFrame}
theorem vx_runVX {hh : List (Nat × Nat × Nat × Nat)} (S : CallFix p m c cc nL s args Ts own) (hM : vx_Met l y ws rm Pc Qc XC mc ms free) (cw : vx_CVW R s args own C index y bytes maxL ret hh ws rm mc ms n) (hp : PreV s H C b Pc As)
    (hg : g.method = m) (hn : As.length = n) (hsize : g.locals.size = nL) (hstack : g.stack = As.reverse ++ .ref b :: rest) (hW : 2 * g.monitorRoom + (rest.map fun v => v.category).sum ≤ 8) (hdg : decode cc g.pc = .ok (.invokevirtual index, 3)) (hf : cells + mc ≤ R.cells ∧ slots + ms ≤ R.slots) :
    vx_Run p l e R s m args below meth c H locs cells slots mc ms g rest (Qc (Value.ref b :: As).toArray) XC free := by
  obtain ⟨⟨hrc, hrs, hfr, hlo, hws, hcw⟩, hcode, hini, hy, hlen, hl, hin, hse⟩ := cw
  have hK : vx_Back l R p e below s args y 3 8 (PreOf R mc ms Pc) (PostOf Qc mc ms free) (vx_Post XC mc ms free) := vx_backW (hh := hh) (bytes := bytes) (maxL := maxL) (ret := ret) hM hp.1 hrc hrs hfr hlo hws hcw (fun a' U hW => word_at hW (Or.inl (by first | rfl | simp [Cond.onTables, Cond.keeps, Cond.steady])) hini)
  obtain ⟨hx, hb, hml, ho, -⟩ := S
  obtain ⟨-, ⟨cellB, hcB, hoB, hclB⟩, hPc⟩ := hp
  intro T hT X
  rcases vx_callVX X hx (C := C) (hh := hh) (bytes := bytes) (maxL := maxL) (ret := ret) ho hl hin hse hcode hy hK (by rw [hT]; exact hcB) hoB hclB hg (hsize.trans hml.symm) (argsL := As) (rest := rest) (fun sig h => hn.trans (hlen sig h)) hstack hW (by rw [hb]; exact hdg)
    (fun vm₁ hW₁ => ⟨hf.1, hf.2, hPc (T.setVm vm₁) hT hW₁⟩) with ⟨v, vm₁, ⟨U', l2, c2, s2⟩, hW₁, X', ⟨g', mk, t, L, e1, e2, hq, h1, hL, h2, h3⟩, st⟩ | ⟨q, vm₁, ⟨U', l2, c2, s2⟩, hW₁, X', ⟨g', mk, t, L, E, ce, e1, e2, hq, hce, hcv, hcl, h1, hL, h2, h3⟩, st⟩
  · dsimp only [Pt.U, Pt.locs, Pt.cells, Pt.slots] at X' e1 e2 h1 h2 h3 st
    subst h1; subst h2; subst h3
    exact Or.inl ⟨v, (T.setVm vm₁).calling g' mk (Value.ref b :: As).toArray, t, U', L, hT, X', hL, e1, e2, hq, st⟩
  · dsimp only [Pt.U, Pt.locs, Pt.cells, Pt.slots] at X' e1 e2 h1 h2 h3 st hcl
    subst h1; subst h2; subst h3
    exact Or.inr ⟨q, (T.setVm vm₁).calling g' mk (Value.ref b :: As).toArray, t, U', L, E, ce, hT, X', hL, e1, e2, hq, hce, hcv, vx_cls hW₁ hcl, st⟩
theorem vx_runSX {hh : List (Nat × Nat × Nat × Nat)} (S : CallFix p m c cc nL s args Ts own) (hM : vx_Met l y ws rm Pc Qc XC mc ms free) (cw : vx_CSW R s args own index y bytes maxL ret hh ws rm mc ms n) (hp : PreS s H Pc As)
    (hg : g.method = m) (hn : As.length = n) (hsize : g.locals.size = nL) (hstack : g.stack = As.reverse ++ rest) (hW : 2 * g.monitorRoom + (rest.map fun v => v.category).sum ≤ 8) (hdg : decode cc g.pc = .ok (.invokestatic index, 3)) (hf : cells + mc ≤ R.cells ∧ slots + ms ≤ R.slots) :
    vx_Run p l e R s m args below meth c H locs cells slots mc ms g rest (Qc As.toArray) XC free := by
  obtain ⟨⟨hrc, hrs, hfr, hlo, hws, hcw⟩, hcode, hini, hy, hlen, hl, hstt⟩ := cw
  have hK : vx_Back l R p e below s args y 3 8 (PreOf R mc ms Pc) (PostOf Qc mc ms free) (vx_Post XC mc ms free) := vx_backW (hh := hh) (bytes := bytes) (maxL := maxL) (ret := ret) hM hp.1 hrc hrs hfr hlo hws hcw (fun a' U hW => word_at hW (Or.inl (by first | rfl | simp [Cond.onTables, Cond.keeps, Cond.steady])) hini)
  obtain ⟨hx, hb, hml, ho, -⟩ := S
  intro T hT X
  rcases vx_callSX X hx (hh := hh) (bytes := bytes) (maxL := maxL) (ret := ret) ho hl hstt hini hcode hy hK hg (hsize.trans hml.symm) (argsL := As) (rest := rest) (fun sig h => hn.trans (hlen sig h)) hstack hW (by rw [hb]; exact hdg)
    (fun vm₁ hW₁ => ⟨hf.1, hf.2, hp.2 (T.setVm vm₁) hT hW₁⟩) with ⟨v, vm₁, ⟨U', l2, c2, s2⟩, hW₁, X', ⟨g', mk, t, L, e1, e2, hq, h1, hL, h2, h3⟩, st⟩ | ⟨q, vm₁, ⟨U', l2, c2, s2⟩, hW₁, X', ⟨g', mk, t, L, E, ce, e1, e2, hq, hce, hcv, hcl, h1, hL, h2, h3⟩, st⟩
  · dsimp only [Pt.U, Pt.locs, Pt.cells, Pt.slots] at X' e1 e2 h1 h2 h3 st
    subst h1; subst h2; subst h3
    exact Or.inl ⟨v, (T.setVm vm₁).calling g' mk As.toArray, t, U', L, hT, X', hL, e1, e2, hq, st⟩
  · dsimp only [Pt.U, Pt.locs, Pt.cells, Pt.slots] at X' e1 e2 h1 h2 h3 st hcl
    subst h1; subst h2; subst h3
    exact Or.inr ⟨q, (T.setVm vm₁).calling g' mk As.toArray, t, U', L, E, ce, hT, X', hL, e1, e2, hq, hce, hcv, vx_cls hW₁ hcl, st⟩
end
end VXH
theorem vx_ofWH {l : Launch} {y : MethodName} {ws ws' : List Cond} {rm : Room} {Pc : Array Value → State → Prop} {Qc : Array Value → State → Outcome → State → Prop} {XC : String → State → State → Prop} {mc ms : Nat} {free : Addr → Prop} {cc : ByteArray} {maxL : Nat} {ret : Option FieldType} {hh : List (Nat × Nat × Nat × Nat)}
    (hy : plainName y.cls = true) (hw : ws = Cond.codeWith y cc maxL ret hh :: ws')
    (body : ∀ p e s m args below meth c s₁, BodyLoose p l y (headSpec ws rm) cc maxL ret e s m args below meth c s₁ → c.maxLocals = maxL → Pc args s →
      W p l e (headSpec ws rm).room s m args below meth c s.heap [] 0 0 (vx_MQ below Qc XC args s mc ms free) (entryFrame m args maxL)) : vx_Met l y ws rm Pc Qc XC mc ms free := by
  refine MetFree.of_bodyS (code := cc) (maxLocals := maxL) (ret := ret) hy ?_ ?_
  · intro args s m h hn
    obtain ⟨m9, meth, c, hn9, h1, h2, h3, h4, -, h5, h6, -⟩ := Cond.codeWith_spec (atoms_spec (ws := ws) h _ (by rw [hw]; exact List.mem_cons_self))
    cases hn.symm.trans hn9
    exact ⟨meth, c, h1, h2, h3, h4, h5, h6⟩
  · intro p e s m args below meth c s₁ B hml hP _
    have hh0 : s₁.heap = s.heap := by rw [B.state]; rfl
    obtain ⟨t, a1, o, b1, b2, b3⟩ := body p e s m args below meth c s₁ B hml hP s₁ hh0 (Stand.of_body B)
    exact ⟨t, o, a1, b1, b2, b3⟩
/-! ===== END ===== -/
end
section
/-! ===== BEGIN printed: names, fields, word lists, decode rows ===== -/
def RX0 : String := "ChordOverlay$Circle"
def TX0 : u_T := fun k => match k with
  | _ => ("", "", "", false)
def tyX0 : Nat → FieldType := fun k => match k with
  | _ => .int
abbrev wsX00 : List Cond := u_ws RX0 TX0 0
theorem nmX0 : ∀ a, a < 0 → ∀ b, b < 0 → a ≠ b → (TX0 a).2.1 ≠ (TX0 b).2.1 := by decide +kernel
theorem tyX0_ok : ∀ k, k < 0 → parseFieldDescriptor (TX0 k).2.2.1 = some (tyX0 k) := by decide +kernel
abbrev cX0_onward : ByteArray := prog_2_method_2_code
def yX0_onward : MethodName := ⟨RX0, "onward", "(II)I"⟩
abbrev cX0_fingerStart : ByteArray := prog_2_method_3_code
def yX0_fingerStart : MethodName := ⟨RX0, "fingerStart", "(II)I"⟩
abbrev cX0_isUpTo : ByteArray := prog_2_method_4_code
def yX0_isUpTo : MethodName := ⟨RX0, "isUpTo", "(III)Z"⟩
abbrev cX0_isBetween : ByteArray := prog_2_method_5_code
def yX0_isBetween : MethodName := ⟨RX0, "isBetween", "(III)Z"⟩
def RX1 : String := "ChordOverlay$Table"
def TX1 : u_T := fun k => match k with
  | 0 => ("ChordOverlay$Table", "width", "I", true)
  | _ => ("ChordOverlay$Table", "cells", "[I", true)
def tyX1 : Nat → FieldType := fun k => match k with
  | 0 => .int
  | _ => .array .int
abbrev wsX10 : List Cond := u_ws RX1 TX1 2
theorem nmX1 : ∀ a, a < 2 → ∀ b, b < 2 → a ≠ b → (TX1 a).2.1 ≠ (TX1 b).2.1 := by decide +kernel
theorem tyX1_ok : ∀ k, k < 2 → parseFieldDescriptor (TX1 k).2.2.1 = some (tyX1 k) := by decide +kernel
abbrev cX1_init : ByteArray := prog_3_method_1_code
def yX1_init : MethodName := ⟨RX1, "<init>", "(I)V"⟩
abbrev cX1_at : ByteArray := prog_3_method_2_code
def yX1_at : MethodName := ⟨RX1, "at", "(II)I"⟩
abbrev cX1_set : ByteArray := prog_3_method_3_code
def yX1_set : MethodName := ⟨RX1, "set", "(III)V"⟩
abbrev cX1_clear : ByteArray := prog_3_method_4_code
def yX1_clear : MethodName := ⟨RX1, "clear", "(I)V"⟩
abbrev cX1_copyFrom : ByteArray := prog_3_method_5_code
def yX1_copyFrom : MethodName := ⟨RX1, "copyFrom", "(LChordOverlay$Table;)V"⟩
def RX2 : String := "ChordOverlay"
def TX2 : u_T := fun k => match k with
  | 0 => ("ChordOverlay", "lives", "[Z", true)
  | 1 => ("ChordOverlay", "successors", "LChordOverlay$Table;", true)
  | 2 => ("ChordOverlay", "predecessors", "LChordOverlay$Table;", true)
  | 3 => ("ChordOverlay", "fingers", "LChordOverlay$Table;", true)
  | 4 => ("ChordOverlay", "values", "LChordOverlay$Table;", true)
  | 5 => ("ChordOverlay", "stamps", "LChordOverlay$Table;", true)
  | 6 => ("ChordOverlay", "lastStamp", "I", false)
  | 7 => ("ChordOverlay", "route", "[I", true)
  | 8 => ("ChordOverlay", "routeHops", "I", false)
  | 9 => ("ChordOverlay", "asideSuccessors", "LChordOverlay$Table;", true)
  | 10 => ("ChordOverlay", "asidePredecessors", "LChordOverlay$Table;", true)
  | _ => ("ChordOverlay", "asideFingers", "LChordOverlay$Table;", true)
def tyX2 : Nat → FieldType := fun k => match k with
  | 0 => .array .boolean
  | 1 => .object "ChordOverlay$Table"
  | 2 => .object "ChordOverlay$Table"
  | 3 => .object "ChordOverlay$Table"
  | 4 => .object "ChordOverlay$Table"
  | 5 => .object "ChordOverlay$Table"
  | 6 => .int
  | 7 => .array .int
  | 8 => .int
  | 9 => .object "ChordOverlay$Table"
  | 10 => .object "ChordOverlay$Table"
  | _ => .object "ChordOverlay$Table"
abbrev wsX20 : List Cond := u_ws RX2 TX2 12
theorem nmX2 : ∀ a, a < 12 → ∀ b, b < 12 → a ≠ b → (TX2 a).2.1 ≠ (TX2 b).2.1 := by decide +kernel
theorem tyX2_ok : ∀ k, k < 12 → parseFieldDescriptor (TX2 k).2.2.1 = some (tyX2 k) := by decide +kernel
abbrev cX2_init : ByteArray := prog_1_method_1_code
def yX2_init : MethodName := ⟨RX2, "<init>", "()V"⟩
abbrev cX2_create : ByteArray := prog_1_method_2_code
def yX2_create : MethodName := ⟨RX2, "create", "(I)I"⟩
abbrev cX2_join : ByteArray := prog_1_method_3_code
def yX2_join : MethodName := ⟨RX2, "join", "(II)I"⟩
abbrev cX2_fail : ByteArray := prog_1_method_4_code
def yX2_fail : MethodName := ⟨RX2, "fail", "(I)I"⟩
abbrev cX2_leave : ByteArray := prog_1_method_5_code
def yX2_leave : MethodName := ⟨RX2, "leave", "(I)I"⟩
abbrev cX2_living : ByteArray := prog_1_method_6_code
def yX2_living : MethodName := ⟨RX2, "living", "()I"⟩
abbrev cX2_isLiving : ByteArray := prog_1_method_7_code
def yX2_isLiving : MethodName := ⟨RX2, "isLiving", "(I)Z"⟩
abbrev cX2_successor : ByteArray := prog_1_method_8_code
def yX2_successor : MethodName := ⟨RX2, "successor", "(II)I"⟩
abbrev cX2_liveSuccessor : ByteArray := prog_1_method_9_code
def yX2_liveSuccessor : MethodName := ⟨RX2, "liveSuccessor", "(I)I"⟩
abbrev cX2_predecessor : ByteArray := prog_1_method_10_code
def yX2_predecessor : MethodName := ⟨RX2, "predecessor", "(I)I"⟩
abbrev cX2_finger : ByteArray := prog_1_method_11_code
def yX2_finger : MethodName := ⟨RX2, "finger", "(II)I"⟩
abbrev cX2_check : ByteArray := prog_1_method_12_code
def yX2_check : MethodName := ⟨RX2, "check", "(I)Z"⟩
abbrev cX2_stabilize : ByteArray := prog_1_method_13_code
def yX2_stabilize : MethodName := ⟨RX2, "stabilize", "(I)I"⟩
abbrev cX2_fix : ByteArray := prog_1_method_14_code
def yX2_fix : MethodName := ⟨RX2, "fix", "(I)I"⟩
abbrev cX2_replicate : ByteArray := prog_1_method_15_code
def yX2_replicate : MethodName := ⟨RX2, "replicate", "(I)I"⟩
abbrev cX2_goRounds : ByteArray := prog_1_method_16_code
def yX2_goRounds : MethodName := ⟨RX2, "goRounds", "(I)I"⟩
abbrev cX2_lookup : ByteArray := prog_1_method_17_code
def yX2_lookup : MethodName := ⟨RX2, "lookup", "(II)I"⟩
abbrev cX2_hops : ByteArray := prog_1_method_18_code
def yX2_hops : MethodName := ⟨RX2, "hops", "(II)I"⟩
abbrev cX2_hopAt : ByteArray := prog_1_method_19_code
def yX2_hopAt : MethodName := ⟨RX2, "hopAt", "(III)I"⟩
abbrev cX2_put : ByteArray := prog_1_method_20_code
def yX2_put : MethodName := ⟨RX2, "put", "(III)I"⟩
abbrev cX2_get : ByteArray := prog_1_method_21_code
def yX2_get : MethodName := ⟨RX2, "get", "(II)I"⟩
abbrev cX2_kept : ByteArray := prog_1_method_22_code
def yX2_kept : MethodName := ⟨RX2, "kept", "(II)I"⟩
abbrev cX2_keepers : ByteArray := prog_1_method_23_code
def yX2_keepers : MethodName := ⟨RX2, "keepers", "(I)I"⟩
abbrev cX2_owner : ByteArray := prog_1_method_24_code
def yX2_owner : MethodName := ⟨RX2, "owner", "(I)I"⟩
abbrev cX2_wrongPointers : ByteArray := prog_1_method_25_code
def yX2_wrongPointers : MethodName := ⟨RX2, "wrongPointers", "()I"⟩
abbrev cX2_roundsToRight : ByteArray := prog_1_method_26_code
def yX2_roundsToRight : MethodName := ⟨RX2, "roundsToRight", "(I)I"⟩
abbrev cX2_requireRange : ByteArray := prog_1_method_27_code
def yX2_requireRange : MethodName := ⟨RX2, "requireRange", "(III)V"⟩
abbrev cX2_requireIdentifier : ByteArray := prog_1_method_28_code
def yX2_requireIdentifier : MethodName := ⟨RX2, "requireIdentifier", "(I)V"⟩
abbrev cX2_requireAlive : ByteArray := prog_1_method_29_code
def yX2_requireAlive : MethodName := ⟨RX2, "requireAlive", "(I)V"⟩
abbrev cX2_isAlive : ByteArray := prog_1_method_30_code
def yX2_isAlive : MethodName := ⟨RX2, "isAlive", "(I)Z"⟩
abbrev cX2_setAlive : ByteArray := prog_1_method_31_code
def yX2_setAlive : MethodName := ⟨RX2, "setAlive", "(IZ)V"⟩
abbrev cX2_countLiving : ByteArray := prog_1_method_32_code
def yX2_countLiving : MethodName := ⟨RX2, "countLiving", "()I"⟩
abbrev cX2_beginLife : ByteArray := prog_1_method_33_code
def yX2_beginLife : MethodName := ⟨RX2, "beginLife", "(IIII)V"⟩
abbrev cX2_endLife : ByteArray := prog_1_method_34_code
def yX2_endLife : MethodName := ⟨RX2, "endLife", "(I)V"⟩
abbrev cX2_handOver : ByteArray := prog_1_method_35_code
def yX2_handOver : MethodName := ⟨RX2, "handOver", "(II)V"⟩
abbrev cX2_setSuccessors : ByteArray := prog_1_method_36_code
def yX2_setSuccessors : MethodName := ⟨RX2, "setSuccessors", "(IIII)V"⟩
abbrev cX2_follow : ByteArray := prog_1_method_37_code
def yX2_follow : MethodName := ⟨RX2, "follow", "(II)V"⟩
abbrev cX2_firstLivingSuccessor : ByteArray := prog_1_method_38_code
def yX2_firstLivingSuccessor : MethodName := ⟨RX2, "firstLivingSuccessor", "(I)I"⟩
abbrev cX2_firstHeir : ByteArray := prog_1_method_39_code
def yX2_firstHeir : MethodName := ⟨RX2, "firstHeir", "(II)I"⟩
abbrev cX2_letRoundGoBy : ByteArray := prog_1_method_40_code
def yX2_letRoundGoBy : MethodName := ⟨RX2, "letRoundGoBy", "(Z)V"⟩
abbrev cX2_dropDeadPredecessor : ByteArray := prog_1_method_41_code
def yX2_dropDeadPredecessor : MethodName := ⟨RX2, "dropDeadPredecessor", "(I)V"⟩
abbrev cX2_mendSuccessors : ByteArray := prog_1_method_42_code
def yX2_mendSuccessors : MethodName := ⟨RX2, "mendSuccessors", "(I)V"⟩
abbrev cX2_notifyOf : ByteArray := prog_1_method_43_code
def yX2_notifyOf : MethodName := ⟨RX2, "notifyOf", "(II)V"⟩
abbrev cX2_renewFingers : ByteArray := prog_1_method_44_code
def yX2_renewFingers : MethodName := ⟨RX2, "renewFingers", "(I)I"⟩
abbrev cX2_spreadValues : ByteArray := prog_1_method_45_code
def yX2_spreadValues : MethodName := ⟨RX2, "spreadValues", "(I)I"⟩
abbrev cX2_spreadValue : ByteArray := prog_1_method_46_code
def yX2_spreadValue : MethodName := ⟨RX2, "spreadValue", "(II)I"⟩
abbrev cX2_find : ByteArray := prog_1_method_47_code
def yX2_find : MethodName := ⟨RX2, "find", "(II)I"⟩
abbrev cX2_hopTowards : ByteArray := prog_1_method_48_code
def yX2_hopTowards : MethodName := ⟨RX2, "hopTowards", "(III)I"⟩
abbrev cX2_giveCopy : ByteArray := prog_1_method_49_code
def yX2_giveCopy : MethodName := ⟨RX2, "giveCopy", "(III)I"⟩
abbrev cX2_copyToHeirs : ByteArray := prog_1_method_50_code
def yX2_copyToHeirs : MethodName := ⟨RX2, "copyToHeirs", "(II)I"⟩
abbrev cX2_firstLivingUpFrom : ByteArray := prog_1_method_51_code
def yX2_firstLivingUpFrom : MethodName := ⟨RX2, "firstLivingUpFrom", "(I)I"⟩
abbrev cX2_firstLivingDownFrom : ByteArray := prog_1_method_52_code
def yX2_firstLivingDownFrom : MethodName := ⟨RX2, "firstLivingDownFrom", "(I)I"⟩
abbrev cX2_countWrongPointers : ByteArray := prog_1_method_53_code
def yX2_countWrongPointers : MethodName := ⟨RX2, "countWrongPointers", "()I"⟩
abbrev cX2_countWrongPointersOf : ByteArray := prog_1_method_54_code
def yX2_countWrongPointersOf : MethodName := ⟨RX2, "countWrongPointersOf", "(I)I"⟩
abbrev cX2_layPointersAside : ByteArray := prog_1_method_55_code
def yX2_layPointersAside : MethodName := ⟨RX2, "layPointersAside", "()V"⟩
abbrev cX2_takePointersBack : ByteArray := prog_1_method_56_code
def yX2_takePointersBack : MethodName := ⟨RX2, "takePointersBack", "()V"⟩
def RX3 : String := "ChordOverlayModel"
def TX3 : u_T := fun k => match k with
  | 0 => ("ChordOverlayModel", "thrown", "I", false)
  | 1 => ("ChordOverlayModel", "stamps", "I", false)
  | 2 => ("ChordOverlayModel", "lives", "[Z", true)
  | 3 => ("ChordOverlayModel", "successor", "[I", true)
  | 4 => ("ChordOverlayModel", "predecessor", "[I", true)
  | 5 => ("ChordOverlayModel", "finger", "[I", true)
  | 6 => ("ChordOverlayModel", "value", "[I", true)
  | 7 => ("ChordOverlayModel", "stamp", "[I", true)
  | 8 => ("ChordOverlayModel", "way", "[I", true)
  | 9 => ("ChordOverlayModel", "hopped", "I", false)
  | 10 => ("ChordOverlayModel", "heldSuccessor", "[I", true)
  | 11 => ("ChordOverlayModel", "heldPredecessor", "[I", true)
  | _ => ("ChordOverlayModel", "heldFinger", "[I", true)
def tyX3 : Nat → FieldType := fun k => match k with
  | 0 => .int
  | 1 => .int
  | 2 => .array .boolean
  | 3 => .array .int
  | 4 => .array .int
  | 5 => .array .int
  | 6 => .array .int
  | 7 => .array .int
  | 8 => .array .int
  | 9 => .int
  | 10 => .array .int
  | 11 => .array .int
  | _ => .array .int
abbrev wsX30 : List Cond := u_ws RX3 TX3 13
theorem nmX3 : ∀ a, a < 13 → ∀ b, b < 13 → a ≠ b → (TX3 a).2.1 ≠ (TX3 b).2.1 := by decide +kernel
theorem tyX3_ok : ∀ k, k < 13 → parseFieldDescriptor (TX3 k).2.2.1 = some (tyX3 k) := by decide +kernel
abbrev cX3_init : ByteArray := prog_5_method_1_code
def yX3_init : MethodName := ⟨RX3, "<init>", "()V"⟩
abbrev cX3_thrown : ByteArray := prog_5_method_2_code
def yX3_thrown : MethodName := ⟨RX3, "thrown", "()I"⟩
abbrev cX3_fails : ByteArray := prog_5_method_3_code
def yX3_fails : MethodName := ⟨RX3, "fails", "(I)I"⟩
abbrev cX3_isId : ByteArray := prog_5_method_4_code
def yX3_isId : MethodName := ⟨RX3, "isId", "(I)Z"⟩
abbrev cX3_up : ByteArray := prog_5_method_5_code
def yX3_up : MethodName := ⟨RX3, "up", "(II)I"⟩
abbrev cX3_isWithin : ByteArray := prog_5_method_6_code
def yX3_isWithin : MethodName := ⟨RX3, "isWithin", "(III)Z"⟩
abbrev cX3_isBetween : ByteArray := prog_5_method_7_code
def yX3_isBetween : MethodName := ⟨RX3, "isBetween", "(III)Z"⟩
abbrev cX3_countLiving : ByteArray := prog_5_method_8_code
def yX3_countLiving : MethodName := ⟨RX3, "countLiving", "()I"⟩
abbrev cX3_liveSuccessorOf : ByteArray := prog_5_method_9_code
def yX3_liveSuccessorOf : MethodName := ⟨RX3, "liveSuccessorOf", "(I)I"⟩
abbrev cX3_nextHop : ByteArray := prog_5_method_10_code
def yX3_nextHop : MethodName := ⟨RX3, "nextHop", "(III)I"⟩
abbrev cX3_find : ByteArray := prog_5_method_11_code
def yX3_find : MethodName := ⟨RX3, "find", "(II)I"⟩
abbrev cX3_begins : ByteArray := prog_5_method_12_code
def yX3_begins : MethodName := ⟨RX3, "begins", "(IIII)V"⟩
abbrev cX3_follows : ByteArray := prog_5_method_13_code
def yX3_follows : MethodName := ⟨RX3, "follows", "(II)V"⟩
abbrev cX3_create : ByteArray := prog_5_method_14_code
def yX3_create : MethodName := ⟨RX3, "create", "(I)I"⟩
abbrev cX3_join : ByteArray := prog_5_method_15_code
def yX3_join : MethodName := ⟨RX3, "join", "(II)I"⟩
abbrev cX3_refuses : ByteArray := prog_5_method_16_code
def yX3_refuses : MethodName := ⟨RX3, "refuses", "(I)I"⟩
abbrev cX3_fail : ByteArray := prog_5_method_17_code
def yX3_fail : MethodName := ⟨RX3, "fail", "(I)I"⟩
abbrev cX3_copy : ByteArray := prog_5_method_18_code
def yX3_copy : MethodName := ⟨RX3, "copy", "(III)I"⟩
abbrev cX3_leave : ByteArray := prog_5_method_19_code
def yX3_leave : MethodName := ⟨RX3, "leave", "(I)I"⟩
abbrev cX3_living : ByteArray := prog_5_method_20_code
def yX3_living : MethodName := ⟨RX3, "living", "()I"⟩
abbrev cX3_isLiving : ByteArray := prog_5_method_21_code
def yX3_isLiving : MethodName := ⟨RX3, "isLiving", "(I)Z"⟩
abbrev cX3_successor : ByteArray := prog_5_method_22_code
def yX3_successor : MethodName := ⟨RX3, "successor", "(II)I"⟩
abbrev cX3_liveSuccessor : ByteArray := prog_5_method_23_code
def yX3_liveSuccessor : MethodName := ⟨RX3, "liveSuccessor", "(I)I"⟩
abbrev cX3_predecessor : ByteArray := prog_5_method_24_code
def yX3_predecessor : MethodName := ⟨RX3, "predecessor", "(I)I"⟩
abbrev cX3_finger : ByteArray := prog_5_method_25_code
def yX3_finger : MethodName := ⟨RX3, "finger", "(II)I"⟩
abbrev cX3_checks : ByteArray := prog_5_method_26_code
def yX3_checks : MethodName := ⟨RX3, "checks", "(I)V"⟩
abbrev cX3_stabilizes : ByteArray := prog_5_method_27_code
def yX3_stabilizes : MethodName := ⟨RX3, "stabilizes", "(I)V"⟩
abbrev cX3_fixes : ByteArray := prog_5_method_28_code
def yX3_fixes : MethodName := ⟨RX3, "fixes", "(I)I"⟩
abbrev cX3_spreads : ByteArray := prog_5_method_29_code
def yX3_spreads : MethodName := ⟨RX3, "spreads", "(II)I"⟩
abbrev cX3_replicates : ByteArray := prog_5_method_30_code
def yX3_replicates : MethodName := ⟨RX3, "replicates", "(I)I"⟩
abbrev cX3_check : ByteArray := prog_5_method_31_code
def yX3_check : MethodName := ⟨RX3, "check", "(I)Z"⟩
abbrev cX3_stabilize : ByteArray := prog_5_method_32_code
def yX3_stabilize : MethodName := ⟨RX3, "stabilize", "(I)I"⟩
abbrev cX3_fix : ByteArray := prog_5_method_33_code
def yX3_fix : MethodName := ⟨RX3, "fix", "(I)I"⟩
abbrev cX3_replicate : ByteArray := prog_5_method_34_code
def yX3_replicate : MethodName := ⟨RX3, "replicate", "(I)I"⟩
abbrev cX3_round : ByteArray := prog_5_method_35_code
def yX3_round : MethodName := ⟨RX3, "round", "(Z)V"⟩
abbrev cX3_goRounds : ByteArray := prog_5_method_36_code
def yX3_goRounds : MethodName := ⟨RX3, "goRounds", "(I)I"⟩
abbrev cX3_refusesLookup : ByteArray := prog_5_method_37_code
def yX3_refusesLookup : MethodName := ⟨RX3, "refusesLookup", "(II)I"⟩
abbrev cX3_lookup : ByteArray := prog_5_method_38_code
def yX3_lookup : MethodName := ⟨RX3, "lookup", "(II)I"⟩
abbrev cX3_hops : ByteArray := prog_5_method_39_code
def yX3_hops : MethodName := ⟨RX3, "hops", "(II)I"⟩
abbrev cX3_hopAt : ByteArray := prog_5_method_40_code
def yX3_hopAt : MethodName := ⟨RX3, "hopAt", "(III)I"⟩
abbrev cX3_put : ByteArray := prog_5_method_41_code
def yX3_put : MethodName := ⟨RX3, "put", "(III)I"⟩
abbrev cX3_keptAt : ByteArray := prog_5_method_42_code
def yX3_keptAt : MethodName := ⟨RX3, "keptAt", "(II)I"⟩
abbrev cX3_get : ByteArray := prog_5_method_43_code
def yX3_get : MethodName := ⟨RX3, "get", "(II)I"⟩
abbrev cX3_kept : ByteArray := prog_5_method_44_code
def yX3_kept : MethodName := ⟨RX3, "kept", "(II)I"⟩
abbrev cX3_keepers : ByteArray := prog_5_method_45_code
def yX3_keepers : MethodName := ⟨RX3, "keepers", "(I)I"⟩
abbrev cX3_ownerOf : ByteArray := prog_5_method_46_code
def yX3_ownerOf : MethodName := ⟨RX3, "ownerOf", "(I)I"⟩
abbrev cX3_before : ByteArray := prog_5_method_47_code
def yX3_before : MethodName := ⟨RX3, "before", "(I)I"⟩
abbrev cX3_wrongOf : ByteArray := prog_5_method_48_code
def yX3_wrongOf : MethodName := ⟨RX3, "wrongOf", "(I)I"⟩
abbrev cX3_countWrong : ByteArray := prog_5_method_49_code
def yX3_countWrong : MethodName := ⟨RX3, "countWrong", "()I"⟩
abbrev cX3_owner : ByteArray := prog_5_method_50_code
def yX3_owner : MethodName := ⟨RX3, "owner", "(I)I"⟩
abbrev cX3_wrongPointers : ByteArray := prog_5_method_51_code
def yX3_wrongPointers : MethodName := ⟨RX3, "wrongPointers", "()I"⟩
abbrev cX3_move : ByteArray := prog_5_method_52_code
def yX3_move : MethodName := ⟨RX3, "move", "([I[I)V"⟩
abbrev cX3_roundsToRight : ByteArray := prog_5_method_53_code
def yX3_roundsToRight : MethodName := ⟨RX3, "roundsToRight", "(I)I"⟩
def RJx145de : String := "java/io/Serializable"
def TJx145de : u_T := fun k => match k with
  | _ => ("", "", "", false)
def tyJx145de : Nat → FieldType := fun k => match k with
  | _ => .int
abbrev wsJx145de0 : List Cond := u_ws RJx145de TJx145de 0
theorem nmJx145de : ∀ a, a < 0 → ∀ b, b < 0 → a ≠ b → (TJx145de a).2.1 ≠ (TJx145de b).2.1 := by decide +kernel
theorem tyJx145de_ok : ∀ k, k < 0 → parseFieldDescriptor (TJx145de k).2.2.1 = some (tyJx145de k) := by decide +kernel
def RJ9 : String := "java/lang/Math"
def TJ9 : u_T := fun k => match k with
  | _ => ("", "", "", false)
def tyJ9 : Nat → FieldType := fun k => match k with
  | _ => .int
abbrev wsJ90 : List Cond := u_ws RJ9 TJ9 0
theorem nmJ9 : ∀ a, a < 0 → ∀ b, b < 0 → a ≠ b → (TJ9 a).2.1 ≠ (TJ9 b).2.1 := by decide +kernel
theorem tyJ9_ok : ∀ k, k < 0 → parseFieldDescriptor (TJ9 k).2.2.1 = some (tyJ9 k) := by decide +kernel
abbrev cJ9_max_7cf53 : ByteArray := prog_10_method_65_code
def yJ9_max_7cf53 : MethodName := ⟨RJ9, "max", "(II)I"⟩
abbrev cJ9_min_7cf53 : ByteArray := prog_10_method_69_code
def yJ9_min_7cf53 : MethodName := ⟨RJ9, "min", "(II)I"⟩
def RJ0 : String := "java/lang/String"
def TJ0 : u_T := fun k => match k with
  | _ => ("", "", "", false)
def tyJ0 : Nat → FieldType := fun k => match k with
  | _ => .int
abbrev wsJ00 : List Cond := u_ws RJ0 TJ0 0
theorem nmJ0 : ∀ a, a < 0 → ∀ b, b < 0 → a ≠ b → (TJ0 a).2.1 ≠ (TJ0 b).2.1 := by decide +kernel
theorem tyJ0_ok : ∀ k, k < 0 → parseFieldDescriptor (TJ0 k).2.2.1 = some (tyJ0 k) := by decide +kernel
def RJ10 : String := "java/lang/System"
def TJ10 : u_T := fun k => match k with
  | _ => ("", "", "", false)
def tyJ10 : Nat → FieldType := fun k => match k with
  | _ => .int
abbrev wsJ100 : List Cond := u_ws RJ10 TJ10 0
theorem nmJ10 : ∀ a, a < 0 → ∀ b, b < 0 → a ≠ b → (TJ10 a).2.1 ≠ (TJ10 b).2.1 := by decide +kernel
theorem tyJ10_ok : ∀ k, k < 0 → parseFieldDescriptor (TJ10 k).2.2.1 = some (tyJ10 k) := by decide +kernel
def RJ7 : String := "java/util/Arrays"
def TJ7 : u_T := fun k => match k with
  | _ => ("", "", "", false)
def tyJ7 : Nat → FieldType := fun k => match k with
  | _ => .int
abbrev wsJ70 : List Cond := u_ws RJ7 TJ7 0
theorem nmJ7 : ∀ a, a < 0 → ∀ b, b < 0 → a ≠ b → (TJ7 a).2.1 ≠ (TJ7 b).2.1 := by decide +kernel
theorem tyJ7_ok : ∀ k, k < 0 → parseFieldDescriptor (TJ7 k).2.2.1 = some (tyJ7 k) := by decide +kernel
abbrev cJ7_fill_53178 : ByteArray := prog_15_method_103_code
def yJ7_fill_53178 : MethodName := ⟨RJ7, "fill", "([II)V"⟩
def RL : String := "ChordOverlayLaw"
abbrev cL_create : ByteArray := method_3_code
def yL_create : MethodName := ⟨RL, "create", "(LChordOverlay;I[J)I"⟩
abbrev cL_join : ByteArray := method_4_code
def yL_join : MethodName := ⟨RL, "join", "(LChordOverlay;II[J)I"⟩
abbrev cL_fail : ByteArray := method_5_code
def yL_fail : MethodName := ⟨RL, "fail", "(LChordOverlay;I[J)I"⟩
abbrev cL_leave : ByteArray := method_6_code
def yL_leave : MethodName := ⟨RL, "leave", "(LChordOverlay;I[J)I"⟩
abbrev cL_isLiving : ByteArray := method_7_code
def yL_isLiving : MethodName := ⟨RL, "isLiving", "(LChordOverlay;I[J)I"⟩
abbrev cL_successor : ByteArray := method_8_code
def yL_successor : MethodName := ⟨RL, "successor", "(LChordOverlay;II[J)I"⟩
abbrev cL_liveSuccessor : ByteArray := method_9_code
def yL_liveSuccessor : MethodName := ⟨RL, "liveSuccessor", "(LChordOverlay;I[J)I"⟩
abbrev cL_predecessor : ByteArray := method_10_code
def yL_predecessor : MethodName := ⟨RL, "predecessor", "(LChordOverlay;I[J)I"⟩
abbrev cL_finger : ByteArray := method_11_code
def yL_finger : MethodName := ⟨RL, "finger", "(LChordOverlay;II[J)I"⟩
abbrev cL_check : ByteArray := method_12_code
def yL_check : MethodName := ⟨RL, "check", "(LChordOverlay;I[J)I"⟩
abbrev cL_stabilize : ByteArray := method_13_code
def yL_stabilize : MethodName := ⟨RL, "stabilize", "(LChordOverlay;I[J)I"⟩
abbrev cL_fix : ByteArray := method_14_code
def yL_fix : MethodName := ⟨RL, "fix", "(LChordOverlay;I[J)I"⟩
abbrev cL_replicate : ByteArray := method_15_code
def yL_replicate : MethodName := ⟨RL, "replicate", "(LChordOverlay;I[J)I"⟩
abbrev cL_goRounds : ByteArray := method_16_code
def yL_goRounds : MethodName := ⟨RL, "goRounds", "(LChordOverlay;I[J)I"⟩
abbrev cL_lookup : ByteArray := method_17_code
def yL_lookup : MethodName := ⟨RL, "lookup", "(LChordOverlay;II[J)I"⟩
abbrev cL_hops : ByteArray := method_18_code
def yL_hops : MethodName := ⟨RL, "hops", "(LChordOverlay;II[J)I"⟩
abbrev cL_hopAt : ByteArray := method_19_code
def yL_hopAt : MethodName := ⟨RL, "hopAt", "(LChordOverlay;III[J)I"⟩
abbrev cL_put : ByteArray := method_20_code
def yL_put : MethodName := ⟨RL, "put", "(LChordOverlay;III[J)I"⟩
abbrev cL_get : ByteArray := method_21_code
def yL_get : MethodName := ⟨RL, "get", "(LChordOverlay;II[J)I"⟩
abbrev cL_kept : ByteArray := method_22_code
def yL_kept : MethodName := ⟨RL, "kept", "(LChordOverlay;II[J)I"⟩
abbrev cL_keepers : ByteArray := method_23_code
def yL_keepers : MethodName := ⟨RL, "keepers", "(LChordOverlay;I[J)I"⟩
abbrev cL_owner : ByteArray := method_24_code
def yL_owner : MethodName := ⟨RL, "owner", "(LChordOverlay;I[J)I"⟩
abbrev cL_roundsToRight : ByteArray := method_25_code
def yL_roundsToRight : MethodName := ⟨RL, "roundsToRight", "(LChordOverlay;I[J)I"⟩
abbrev cL_law : ByteArray := code
def yL_law : MethodName := ⟨RL, "law", "([I)Z"⟩
def wsX0_onward : List Cond := .code yX0_onward cX0_onward 2 (some .int) :: ([])
def wsX0_fingerStart : List Cond := .code yX0_fingerStart cX0_fingerStart 2 (some .int) :: ([.methodLink RX0 11 yX0_onward, .static yX0_onward, .initialized RX0, .code yX0_onward cX0_onward 2 (some .int)])
def wsX0_isUpTo : List Cond := .code yX0_isUpTo cX0_isUpTo 3 (some .boolean) :: ([])
def wsX0_isBetween : List Cond := .code yX0_isBetween cX0_isBetween 3 (some .boolean) :: ([])
def wsJ7_fill_53178 : List Cond := .code yJ7_fill_53178 cJ7_fill_53178 4 none :: ([])
def wsX1_init : List Cond := .code yX1_init cX1_init 2 none :: ([.methodLink RX1 3 objectInit, .instanceMethod objectInit, .code objectInit ⟨#[0xb1]⟩ 1 none, .methodLink RX1 9 Lib.Math.min.name, .static Lib.Math.min.name, .initialized "java/lang/Math", .code Lib.Math.min.name Lib.Math.min.code 2 (some .int), .methodLink RX1 15 Lib.Math.max.name, .static Lib.Math.max.name, .code Lib.Math.max.name Lib.Math.max.code 2 (some .int), .fieldLink RX1 18 "ChordOverlay$Table" "width" "I", .arrayClass .int, .fieldLink RX1 24 "ChordOverlay$Table" "cells" "[I", .methodLink RX1 28 yJ7_fill_53178, .static yJ7_fill_53178, .initialized RJ7, .code yJ7_fill_53178 cJ7_fill_53178 4 none] ++ wsX10)
def wsX1_at : List Cond := .code yX1_at cX1_at 4 (some .int) :: ([.fieldLink RX1 18 "ChordOverlay$Table" "width" "I", .fieldLink RX1 24 "ChordOverlay$Table" "cells" "[I"] ++ wsX10)
def wsX1_set : List Cond := .code yX1_set cX1_set 5 none :: ([.fieldLink RX1 18 "ChordOverlay$Table" "width" "I", .fieldLink RX1 24 "ChordOverlay$Table" "cells" "[I"] ++ wsX10)
def wsX1_clear : List Cond := .code yX1_clear cX1_clear 3 none :: ([.fieldLink RX1 18 "ChordOverlay$Table" "width" "I", .methodLink RX1 34 yX1_set, .instanceMethod yX1_set, .selects RX1 yX1_set yX1_set, .initialized RX1, .code yX1_set cX1_set 5 none, .fieldLink RX1 24 "ChordOverlay$Table" "cells" "[I"] ++ wsX10)
def wsX1_copyFrom : List Cond := .code yX1_copyFrom cX1_copyFrom 2 none :: ([.fieldLink RX1 24 "ChordOverlay$Table" "cells" "[I", .methodLink RX1 9 Lib.Math.min.name, .static Lib.Math.min.name, .initialized "java/lang/Math", .code Lib.Math.min.name Lib.Math.min.code 2 (some .int), .methodLink RX1 38 arraycopyName, .native arraycopyName, .static arraycopyName, .initialized "java/lang/System"] ++ wsX10)
def wsX2_init_r1 : List Cond := [Cond.methodLink RX2 1 objectInit, Cond.instanceMethod objectInit, Cond.code objectInit ⟨#[0xb1]⟩ 1 none, Cond.arrayClass .boolean, Cond.fieldLink RX2 9 "ChordOverlay" "lives" "[Z", Cond.classLink RX2 13 RX1, Cond.instantiable RX1 2, Cond.initialized RX1, Cond.fieldLink RX2 18 "ChordOverlay" "successors" "LChordOverlay$Table;", Cond.fieldLink RX2 22 "ChordOverlay" "predecessors" "LChordOverlay$Table;", Cond.fieldLink RX2 25 "ChordOverlay" "fingers" "LChordOverlay$Table;", Cond.fieldLink RX2 28 "ChordOverlay" "values" "LChordOverlay$Table;", Cond.fieldLink RX2 31 "ChordOverlay" "stamps" "LChordOverlay$Table;", Cond.fieldLink RX2 34 "ChordOverlay" "lastStamp" "I", Cond.arrayClass .int, Cond.fieldLink RX2 38 "ChordOverlay" "route" "[I", Cond.fieldLink RX2 42 "ChordOverlay" "routeHops" "I", Cond.fieldLink RX2 45 "ChordOverlay" "asideSuccessors" "LChordOverlay$Table;", Cond.fieldLink RX2 48 "ChordOverlay" "asidePredecessors" "LChordOverlay$Table;", Cond.fieldLink RX2 51 "ChordOverlay" "asideFingers" "LChordOverlay$Table;", Cond.methodLink RX2 15 yX1_init, Cond.instanceMethod yX1_init, Cond.code yX1_init cX1_init 2 none, Cond.methodLink RX1 3 objectInit]
def wsX2_init_r2 : List Cond := [Cond.methodLink RX1 9 Lib.Math.min.name, Cond.static Lib.Math.min.name, Cond.initialized "java/lang/Math", Cond.code Lib.Math.min.name Lib.Math.min.code 2 (some .int), Cond.methodLink RX1 15 Lib.Math.max.name, Cond.static Lib.Math.max.name, Cond.code Lib.Math.max.name Lib.Math.max.code 2 (some .int), Cond.fieldLink RX1 18 "ChordOverlay$Table" "width" "I", Cond.fieldLink RX1 24 "ChordOverlay$Table" "cells" "[I", Cond.methodLink RX1 28 yJ7_fill_53178, Cond.static yJ7_fill_53178, Cond.initialized RJ7, Cond.code yJ7_fill_53178 cJ7_fill_53178 4 none]
def wsX2_init : List Cond := .code yX2_init cX2_init 1 none :: ((wsX2_init_r1 ++ wsX2_init_r2) ++ wsX20 ++ wsX10)
def wsX2_requireRange : List Cond := .code yX2_requireRange cX2_requireRange 3 none :: ([.classLink RX2 142 "java/lang/IllegalArgumentException", .initialized "java/lang/IllegalArgumentException"] ++ (vx_atS RX2 146 "java/lang/IllegalArgumentException" ["java/lang/RuntimeException", "java/lang/Exception"]).filter goodWord)
def wsX2_requireIdentifier : List Cond := .code yX2_requireIdentifier cX2_requireIdentifier 1 none :: ([.methodLink RX2 99 yX2_requireRange, .static yX2_requireRange, .initialized RX2, .code yX2_requireRange cX2_requireRange 3 none, .classLink RX2 142 "java/lang/IllegalArgumentException", .initialized "java/lang/IllegalArgumentException"] ++ (vx_atS RX2 146 "java/lang/IllegalArgumentException" ["java/lang/RuntimeException", "java/lang/Exception"]).filter goodWord)
def wsX2_isAlive : List Cond := .code yX2_isAlive cX2_isAlive 2 (some .boolean) :: ([.fieldLink RX2 9 "ChordOverlay" "lives" "[Z"] ++ wsX20)
def wsX2_countLiving : List Cond := .code yX2_countLiving cX2_countLiving 3 (some .int) :: ([.methodLink RX2 72 yX2_isAlive, .instanceMethod yX2_isAlive, .selects RX2 yX2_isAlive yX2_isAlive, .initialized RX2, .code yX2_isAlive cX2_isAlive 2 (some .boolean), .fieldLink RX2 9 "ChordOverlay" "lives" "[Z"] ++ wsX20)
def wsX2_setSuccessors : List Cond := .code yX2_setSuccessors cX2_setSuccessors 5 none :: ([.fieldLink RX2 18 "ChordOverlay" "successors" "LChordOverlay$Table;", .methodLink RX2 127 yX1_set, .instanceMethod yX1_set, .selects RX1 yX1_set yX1_set, .initialized RX1, .code yX1_set cX1_set 5 none, .fieldLink RX1 18 "ChordOverlay$Table" "width" "I", .fieldLink RX1 24 "ChordOverlay$Table" "cells" "[I"] ++ wsX20 ++ wsX10)
def wsX2_setAlive : List Cond := .code yX2_setAlive cX2_setAlive 3 none :: ([.fieldLink RX2 9 "ChordOverlay" "lives" "[Z"] ++ wsX20)
def wsX2_beginLife_r1 : List Cond := [Cond.fieldLink RX2 22 "ChordOverlay" "predecessors" "LChordOverlay$Table;", Cond.fieldLink RX2 25 "ChordOverlay" "fingers" "LChordOverlay$Table;", Cond.fieldLink RX2 28 "ChordOverlay" "values" "LChordOverlay$Table;", Cond.fieldLink RX2 31 "ChordOverlay" "stamps" "LChordOverlay$Table;", Cond.methodLink RX2 149 yX2_setSuccessors, Cond.instanceMethod yX2_setSuccessors, Cond.selects RX2 yX2_setSuccessors yX2_setSuccessors, Cond.initialized RX2, Cond.code yX2_setSuccessors cX2_setSuccessors 5 none, Cond.fieldLink RX2 18 "ChordOverlay" "successors" "LChordOverlay$Table;", Cond.methodLink RX2 127 yX1_set, Cond.instanceMethod yX1_set, Cond.selects RX1 yX1_set yX1_set, Cond.initialized RX1, Cond.code yX1_set cX1_set 5 none, Cond.fieldLink RX1 18 "ChordOverlay$Table" "width" "I", Cond.fieldLink RX1 24 "ChordOverlay$Table" "cells" "[I", Cond.methodLink RX2 152 yX1_clear, Cond.instanceMethod yX1_clear, Cond.selects RX1 yX1_clear yX1_clear, Cond.code yX1_clear cX1_clear 3 none, Cond.methodLink RX1 34 yX1_set, Cond.methodLink RX2 155 yX2_setAlive, Cond.instanceMethod yX2_setAlive]
def wsX2_beginLife_r2 : List Cond := [Cond.selects RX2 yX2_setAlive yX2_setAlive, Cond.code yX2_setAlive cX2_setAlive 3 none, Cond.fieldLink RX2 9 "ChordOverlay" "lives" "[Z"]
def wsX2_beginLife : List Cond := .code yX2_beginLife cX2_beginLife 5 none :: ((wsX2_beginLife_r1 ++ wsX2_beginLife_r2) ++ wsX20 ++ wsX10)
def wsX2_create_r1 : List Cond := [Cond.classLink RX2 61 "java/lang/IllegalStateException", Cond.initialized "java/lang/IllegalStateException", Cond.methodLink RX2 54 yX2_requireIdentifier, Cond.static yX2_requireIdentifier, Cond.initialized RX2, Cond.code yX2_requireIdentifier cX2_requireIdentifier 1 none, Cond.methodLink RX2 99 yX2_requireRange, Cond.static yX2_requireRange, Cond.code yX2_requireRange cX2_requireRange 3 none, Cond.classLink RX2 142 "java/lang/IllegalArgumentException", Cond.initialized "java/lang/IllegalArgumentException", Cond.methodLink RX2 57 yX2_countLiving, Cond.instanceMethod yX2_countLiving, Cond.selects RX2 yX2_countLiving yX2_countLiving, Cond.code yX2_countLiving cX2_countLiving 3 (some .int), Cond.methodLink RX2 72 yX2_isAlive, Cond.instanceMethod yX2_isAlive, Cond.selects RX2 yX2_isAlive yX2_isAlive, Cond.code yX2_isAlive cX2_isAlive 2 (some .boolean), Cond.fieldLink RX2 9 "ChordOverlay" "lives" "[Z", Cond.methodLink RX2 68 yX2_beginLife, Cond.instanceMethod yX2_beginLife, Cond.selects RX2 yX2_beginLife yX2_beginLife, Cond.code yX2_beginLife cX2_beginLife 5 none]
def wsX2_create_r2 : List Cond := [Cond.fieldLink RX2 22 "ChordOverlay" "predecessors" "LChordOverlay$Table;", Cond.fieldLink RX2 25 "ChordOverlay" "fingers" "LChordOverlay$Table;", Cond.fieldLink RX2 28 "ChordOverlay" "values" "LChordOverlay$Table;", Cond.fieldLink RX2 31 "ChordOverlay" "stamps" "LChordOverlay$Table;", Cond.methodLink RX2 149 yX2_setSuccessors, Cond.instanceMethod yX2_setSuccessors, Cond.selects RX2 yX2_setSuccessors yX2_setSuccessors, Cond.code yX2_setSuccessors cX2_setSuccessors 5 none, Cond.fieldLink RX2 18 "ChordOverlay" "successors" "LChordOverlay$Table;", Cond.methodLink RX2 127 yX1_set, Cond.instanceMethod yX1_set, Cond.selects RX1 yX1_set yX1_set, Cond.initialized RX1, Cond.code yX1_set cX1_set 5 none, Cond.fieldLink RX1 18 "ChordOverlay$Table" "width" "I", Cond.fieldLink RX1 24 "ChordOverlay$Table" "cells" "[I", Cond.methodLink RX2 152 yX1_clear, Cond.instanceMethod yX1_clear, Cond.selects RX1 yX1_clear yX1_clear, Cond.code yX1_clear cX1_clear 3 none, Cond.methodLink RX1 34 yX1_set, Cond.methodLink RX2 155 yX2_setAlive, Cond.instanceMethod yX2_setAlive, Cond.selects RX2 yX2_setAlive yX2_setAlive]
def wsX2_create_r3 : List Cond := [Cond.code yX2_setAlive cX2_setAlive 3 none]
def wsX2_create : List Cond := .code yX2_create cX2_create 2 (some .int) :: ((wsX2_create_r1 ++ (wsX2_create_r2 ++ wsX2_create_r3)) ++ wsX20 ++ wsX10 ++ (vx_atS RX2 65 "java/lang/IllegalStateException" ["java/lang/RuntimeException", "java/lang/Exception"]).filter goodWord ++ (vx_atS RX2 146 "java/lang/IllegalArgumentException" ["java/lang/RuntimeException", "java/lang/Exception"]).filter goodWord)
def wsX2_requireAlive : List Cond := .code yX2_requireAlive cX2_requireAlive 2 none :: ([.classLink RX2 61 "java/lang/IllegalStateException", .initialized "java/lang/IllegalStateException", .methodLink RX2 72 yX2_isAlive, .instanceMethod yX2_isAlive, .selects RX2 yX2_isAlive yX2_isAlive, .initialized RX2, .code yX2_isAlive cX2_isAlive 2 (some .boolean), .fieldLink RX2 9 "ChordOverlay" "lives" "[Z"] ++ wsX20 ++ (vx_atS RX2 65 "java/lang/IllegalStateException" ["java/lang/RuntimeException", "java/lang/Exception"]).filter goodWord)
def wsX2_firstLivingSuccessor : List Cond := .code yX2_firstLivingSuccessor cX2_firstLivingSuccessor 4 (some .int) :: ([.fieldLink RX2 18 "ChordOverlay" "successors" "LChordOverlay$Table;", .methodLink RX2 85 yX1_at, .instanceMethod yX1_at, .selects RX1 yX1_at yX1_at, .initialized RX1, .code yX1_at cX1_at 4 (some .int), .fieldLink RX1 18 "ChordOverlay$Table" "width" "I", .fieldLink RX1 24 "ChordOverlay$Table" "cells" "[I", .methodLink RX2 72 yX2_isAlive, .instanceMethod yX2_isAlive, .selects RX2 yX2_isAlive yX2_isAlive, .initialized RX2, .code yX2_isAlive cX2_isAlive 2 (some .boolean), .fieldLink RX2 9 "ChordOverlay" "lives" "[Z"] ++ wsX20 ++ wsX10)
def wsX2_hopTowards : List Cond := .code yX2_hopTowards cX2_hopTowards 6 (some .int) :: ([.fieldLink RX2 25 "ChordOverlay" "fingers" "LChordOverlay$Table;", .methodLink RX2 85 yX1_at, .instanceMethod yX1_at, .selects RX1 yX1_at yX1_at, .initialized RX1, .code yX1_at cX1_at 4 (some .int), .fieldLink RX1 18 "ChordOverlay$Table" "width" "I", .fieldLink RX1 24 "ChordOverlay$Table" "cells" "[I", .methodLink RX2 72 yX2_isAlive, .instanceMethod yX2_isAlive, .selects RX2 yX2_isAlive yX2_isAlive, .initialized RX2, .code yX2_isAlive cX2_isAlive 2 (some .boolean), .fieldLink RX2 9 "ChordOverlay" "lives" "[Z", .methodLink RX2 166 yX0_isBetween, .static yX0_isBetween, .initialized RX0, .code yX0_isBetween cX0_isBetween 3 (some .boolean)] ++ wsX20 ++ wsX10)
def wsX2_find_r1 : List Cond := [Cond.fieldLink RX2 38 "ChordOverlay" "route" "[I", Cond.fieldLink RX2 42 "ChordOverlay" "routeHops" "I", Cond.methodLink RX2 91 yX2_firstLivingSuccessor, Cond.instanceMethod yX2_firstLivingSuccessor, Cond.selects RX2 yX2_firstLivingSuccessor yX2_firstLivingSuccessor, Cond.initialized RX2, Cond.code yX2_firstLivingSuccessor cX2_firstLivingSuccessor 4 (some .int), Cond.fieldLink RX2 18 "ChordOverlay" "successors" "LChordOverlay$Table;", Cond.methodLink RX2 85 yX1_at, Cond.instanceMethod yX1_at, Cond.selects RX1 yX1_at yX1_at, Cond.initialized RX1, Cond.code yX1_at cX1_at 4 (some .int), Cond.fieldLink RX1 18 "ChordOverlay$Table" "width" "I", Cond.fieldLink RX1 24 "ChordOverlay$Table" "cells" "[I", Cond.methodLink RX2 72 yX2_isAlive, Cond.instanceMethod yX2_isAlive, Cond.selects RX2 yX2_isAlive yX2_isAlive, Cond.code yX2_isAlive cX2_isAlive 2 (some .boolean), Cond.fieldLink RX2 9 "ChordOverlay" "lives" "[Z", Cond.methodLink RX2 181 yX0_isUpTo, Cond.static yX0_isUpTo, Cond.initialized RX0, Cond.code yX0_isUpTo cX0_isUpTo 3 (some .boolean)]
def wsX2_find_r2 : List Cond := [Cond.methodLink RX2 184 yX2_hopTowards, Cond.instanceMethod yX2_hopTowards, Cond.selects RX2 yX2_hopTowards yX2_hopTowards, Cond.code yX2_hopTowards cX2_hopTowards 6 (some .int), Cond.fieldLink RX2 25 "ChordOverlay" "fingers" "LChordOverlay$Table;", Cond.methodLink RX2 166 yX0_isBetween, Cond.static yX0_isBetween, Cond.code yX0_isBetween cX0_isBetween 3 (some .boolean)]
def wsX2_find : List Cond := .code yX2_find cX2_find 6 (some .int) :: ((wsX2_find_r1 ++ wsX2_find_r2) ++ wsX20 ++ wsX10)
def wsX2_join_r1 : List Cond := [Cond.classLink RX2 61 "java/lang/IllegalStateException", Cond.initialized "java/lang/IllegalStateException", Cond.fieldLink RX2 18 "ChordOverlay" "successors" "LChordOverlay$Table;", Cond.methodLink RX2 54 yX2_requireIdentifier, Cond.static yX2_requireIdentifier, Cond.initialized RX2, Cond.code yX2_requireIdentifier cX2_requireIdentifier 1 none, Cond.methodLink RX2 99 yX2_requireRange, Cond.static yX2_requireRange, Cond.code yX2_requireRange cX2_requireRange 3 none, Cond.classLink RX2 142 "java/lang/IllegalArgumentException", Cond.initialized "java/lang/IllegalArgumentException", Cond.methodLink RX2 72 yX2_isAlive, Cond.instanceMethod yX2_isAlive, Cond.selects RX2 yX2_isAlive yX2_isAlive, Cond.code yX2_isAlive cX2_isAlive 2 (some .boolean), Cond.fieldLink RX2 9 "ChordOverlay" "lives" "[Z", Cond.methodLink RX2 78 yX2_requireAlive, Cond.instanceMethod yX2_requireAlive, Cond.selects RX2 yX2_requireAlive yX2_requireAlive, Cond.code yX2_requireAlive cX2_requireAlive 2 none, Cond.methodLink RX2 81 yX2_find, Cond.instanceMethod yX2_find, Cond.selects RX2 yX2_find yX2_find]
def wsX2_join_r2 : List Cond := [Cond.code yX2_find cX2_find 6 (some .int), Cond.fieldLink RX2 38 "ChordOverlay" "route" "[I", Cond.fieldLink RX2 42 "ChordOverlay" "routeHops" "I", Cond.methodLink RX2 91 yX2_firstLivingSuccessor, Cond.instanceMethod yX2_firstLivingSuccessor, Cond.selects RX2 yX2_firstLivingSuccessor yX2_firstLivingSuccessor, Cond.code yX2_firstLivingSuccessor cX2_firstLivingSuccessor 4 (some .int), Cond.methodLink RX2 85 yX1_at, Cond.instanceMethod yX1_at, Cond.selects RX1 yX1_at yX1_at, Cond.initialized RX1, Cond.code yX1_at cX1_at 4 (some .int), Cond.fieldLink RX1 18 "ChordOverlay$Table" "width" "I", Cond.fieldLink RX1 24 "ChordOverlay$Table" "cells" "[I", Cond.methodLink RX2 181 yX0_isUpTo, Cond.static yX0_isUpTo, Cond.initialized RX0, Cond.code yX0_isUpTo cX0_isUpTo 3 (some .boolean), Cond.methodLink RX2 184 yX2_hopTowards, Cond.instanceMethod yX2_hopTowards, Cond.selects RX2 yX2_hopTowards yX2_hopTowards, Cond.code yX2_hopTowards cX2_hopTowards 6 (some .int), Cond.fieldLink RX2 25 "ChordOverlay" "fingers" "LChordOverlay$Table;", Cond.methodLink RX2 166 yX0_isBetween]
def wsX2_join_r3 : List Cond := [Cond.static yX0_isBetween, Cond.code yX0_isBetween cX0_isBetween 3 (some .boolean), Cond.methodLink RX2 68 yX2_beginLife, Cond.instanceMethod yX2_beginLife, Cond.selects RX2 yX2_beginLife yX2_beginLife, Cond.code yX2_beginLife cX2_beginLife 5 none, Cond.fieldLink RX2 22 "ChordOverlay" "predecessors" "LChordOverlay$Table;", Cond.fieldLink RX2 28 "ChordOverlay" "values" "LChordOverlay$Table;", Cond.fieldLink RX2 31 "ChordOverlay" "stamps" "LChordOverlay$Table;", Cond.methodLink RX2 149 yX2_setSuccessors, Cond.instanceMethod yX2_setSuccessors, Cond.selects RX2 yX2_setSuccessors yX2_setSuccessors, Cond.code yX2_setSuccessors cX2_setSuccessors 5 none, Cond.methodLink RX2 127 yX1_set, Cond.instanceMethod yX1_set, Cond.selects RX1 yX1_set yX1_set, Cond.code yX1_set cX1_set 5 none, Cond.methodLink RX2 152 yX1_clear, Cond.instanceMethod yX1_clear, Cond.selects RX1 yX1_clear yX1_clear, Cond.code yX1_clear cX1_clear 3 none, Cond.methodLink RX1 34 yX1_set, Cond.methodLink RX2 155 yX2_setAlive, Cond.instanceMethod yX2_setAlive]
def wsX2_join_r4 : List Cond := [Cond.selects RX2 yX2_setAlive yX2_setAlive, Cond.code yX2_setAlive cX2_setAlive 3 none]
def wsX2_join : List Cond := .code yX2_join cX2_join 4 (some .int) :: ((wsX2_join_r1 ++ (wsX2_join_r2 ++ (wsX2_join_r3 ++ wsX2_join_r4))) ++ wsX20 ++ wsX10 ++ (vx_atS RX2 65 "java/lang/IllegalStateException" ["java/lang/RuntimeException", "java/lang/Exception"]).filter goodWord ++ (vx_atS RX2 146 "java/lang/IllegalArgumentException" ["java/lang/RuntimeException", "java/lang/Exception"]).filter goodWord)
def wsX2_endLife : List Cond := .code yX2_endLife cX2_endLife 2 none :: ([.methodLink RX2 155 yX2_setAlive, .instanceMethod yX2_setAlive, .selects RX2 yX2_setAlive yX2_setAlive, .initialized RX2, .code yX2_setAlive cX2_setAlive 3 none, .fieldLink RX2 9 "ChordOverlay" "lives" "[Z"] ++ wsX20)
def wsX2_fail_r1 : List Cond := [Cond.methodLink RX2 54 yX2_requireIdentifier, Cond.static yX2_requireIdentifier, Cond.initialized RX2, Cond.code yX2_requireIdentifier cX2_requireIdentifier 1 none, Cond.methodLink RX2 99 yX2_requireRange, Cond.static yX2_requireRange, Cond.code yX2_requireRange cX2_requireRange 3 none, Cond.classLink RX2 142 "java/lang/IllegalArgumentException", Cond.initialized "java/lang/IllegalArgumentException", Cond.methodLink RX2 78 yX2_requireAlive, Cond.instanceMethod yX2_requireAlive, Cond.selects RX2 yX2_requireAlive yX2_requireAlive, Cond.code yX2_requireAlive cX2_requireAlive 2 none, Cond.classLink RX2 61 "java/lang/IllegalStateException", Cond.initialized "java/lang/IllegalStateException", Cond.methodLink RX2 72 yX2_isAlive, Cond.instanceMethod yX2_isAlive, Cond.selects RX2 yX2_isAlive yX2_isAlive, Cond.code yX2_isAlive cX2_isAlive 2 (some .boolean), Cond.fieldLink RX2 9 "ChordOverlay" "lives" "[Z", Cond.methodLink RX2 88 yX2_endLife, Cond.instanceMethod yX2_endLife, Cond.selects RX2 yX2_endLife yX2_endLife, Cond.code yX2_endLife cX2_endLife 2 none]
def wsX2_fail_r2 : List Cond := [Cond.methodLink RX2 155 yX2_setAlive, Cond.instanceMethod yX2_setAlive, Cond.selects RX2 yX2_setAlive yX2_setAlive, Cond.code yX2_setAlive cX2_setAlive 3 none, Cond.methodLink RX2 57 yX2_countLiving, Cond.instanceMethod yX2_countLiving, Cond.selects RX2 yX2_countLiving yX2_countLiving, Cond.code yX2_countLiving cX2_countLiving 3 (some .int)]
def wsX2_fail : List Cond := .code yX2_fail cX2_fail 2 (some .int) :: ((wsX2_fail_r1 ++ wsX2_fail_r2) ++ wsX20 ++ (vx_atS RX2 146 "java/lang/IllegalArgumentException" ["java/lang/RuntimeException", "java/lang/Exception"]).filter goodWord ++ (vx_atS RX2 65 "java/lang/IllegalStateException" ["java/lang/RuntimeException", "java/lang/Exception"]).filter goodWord)
def wsX2_giveCopy : List Cond := .code yX2_giveCopy cX2_giveCopy 5 (some .int) :: ([.fieldLink RX2 31 "ChordOverlay" "stamps" "LChordOverlay$Table;", .fieldLink RX2 28 "ChordOverlay" "values" "LChordOverlay$Table;", .methodLink RX2 85 yX1_at, .instanceMethod yX1_at, .selects RX1 yX1_at yX1_at, .initialized RX1, .code yX1_at cX1_at 4 (some .int), .fieldLink RX1 18 "ChordOverlay$Table" "width" "I", .fieldLink RX1 24 "ChordOverlay$Table" "cells" "[I", .methodLink RX2 127 yX1_set, .instanceMethod yX1_set, .selects RX1 yX1_set yX1_set, .code yX1_set cX1_set 5 none] ++ wsX20 ++ wsX10)
def wsX2_follow : List Cond := .code yX2_follow cX2_follow 5 none :: ([.fieldLink RX2 18 "ChordOverlay" "successors" "LChordOverlay$Table;", .methodLink RX2 85 yX1_at, .instanceMethod yX1_at, .selects RX1 yX1_at yX1_at, .initialized RX1, .code yX1_at cX1_at 4 (some .int), .fieldLink RX1 18 "ChordOverlay$Table" "width" "I", .fieldLink RX1 24 "ChordOverlay$Table" "cells" "[I", .methodLink RX2 149 yX2_setSuccessors, .instanceMethod yX2_setSuccessors, .selects RX2 yX2_setSuccessors yX2_setSuccessors, .initialized RX2, .code yX2_setSuccessors cX2_setSuccessors 5 none, .methodLink RX2 127 yX1_set, .instanceMethod yX1_set, .selects RX1 yX1_set yX1_set, .code yX1_set cX1_set 5 none] ++ wsX20 ++ wsX10)
def wsX2_handOver_r1 : List Cond := [Cond.fieldLink RX2 22 "ChordOverlay" "predecessors" "LChordOverlay$Table;", Cond.methodLink RX2 159 yX2_giveCopy, Cond.instanceMethod yX2_giveCopy, Cond.selects RX2 yX2_giveCopy yX2_giveCopy, Cond.initialized RX2, Cond.code yX2_giveCopy cX2_giveCopy 5 (some .int), Cond.fieldLink RX2 31 "ChordOverlay" "stamps" "LChordOverlay$Table;", Cond.fieldLink RX2 28 "ChordOverlay" "values" "LChordOverlay$Table;", Cond.methodLink RX2 85 yX1_at, Cond.instanceMethod yX1_at, Cond.selects RX1 yX1_at yX1_at, Cond.initialized RX1, Cond.code yX1_at cX1_at 4 (some .int), Cond.fieldLink RX1 18 "ChordOverlay$Table" "width" "I", Cond.fieldLink RX1 24 "ChordOverlay$Table" "cells" "[I", Cond.methodLink RX2 127 yX1_set, Cond.instanceMethod yX1_set, Cond.selects RX1 yX1_set yX1_set, Cond.code yX1_set cX1_set 5 none, Cond.methodLink RX2 72 yX2_isAlive, Cond.instanceMethod yX2_isAlive, Cond.selects RX2 yX2_isAlive yX2_isAlive, Cond.code yX2_isAlive cX2_isAlive 2 (some .boolean), Cond.fieldLink RX2 9 "ChordOverlay" "lives" "[Z"]
def wsX2_handOver_r2 : List Cond := [Cond.methodLink RX2 163 yX2_follow, Cond.instanceMethod yX2_follow, Cond.selects RX2 yX2_follow yX2_follow, Cond.code yX2_follow cX2_follow 5 none, Cond.fieldLink RX2 18 "ChordOverlay" "successors" "LChordOverlay$Table;", Cond.methodLink RX2 149 yX2_setSuccessors, Cond.instanceMethod yX2_setSuccessors, Cond.selects RX2 yX2_setSuccessors yX2_setSuccessors, Cond.code yX2_setSuccessors cX2_setSuccessors 5 none]
def wsX2_handOver : List Cond := .code yX2_handOver cX2_handOver 4 none :: ((wsX2_handOver_r1 ++ wsX2_handOver_r2) ++ wsX20 ++ wsX10)
def wsX2_leave_r1 : List Cond := [Cond.methodLink RX2 54 yX2_requireIdentifier, Cond.static yX2_requireIdentifier, Cond.initialized RX2, Cond.code yX2_requireIdentifier cX2_requireIdentifier 1 none, Cond.methodLink RX2 99 yX2_requireRange, Cond.static yX2_requireRange, Cond.code yX2_requireRange cX2_requireRange 3 none, Cond.classLink RX2 142 "java/lang/IllegalArgumentException", Cond.initialized "java/lang/IllegalArgumentException", Cond.methodLink RX2 78 yX2_requireAlive, Cond.instanceMethod yX2_requireAlive, Cond.selects RX2 yX2_requireAlive yX2_requireAlive, Cond.code yX2_requireAlive cX2_requireAlive 2 none, Cond.classLink RX2 61 "java/lang/IllegalStateException", Cond.initialized "java/lang/IllegalStateException", Cond.methodLink RX2 72 yX2_isAlive, Cond.instanceMethod yX2_isAlive, Cond.selects RX2 yX2_isAlive yX2_isAlive, Cond.code yX2_isAlive cX2_isAlive 2 (some .boolean), Cond.fieldLink RX2 9 "ChordOverlay" "lives" "[Z", Cond.methodLink RX2 91 yX2_firstLivingSuccessor, Cond.instanceMethod yX2_firstLivingSuccessor, Cond.selects RX2 yX2_firstLivingSuccessor yX2_firstLivingSuccessor, Cond.code yX2_firstLivingSuccessor cX2_firstLivingSuccessor 4 (some .int)]
def wsX2_leave_r2 : List Cond := [Cond.fieldLink RX2 18 "ChordOverlay" "successors" "LChordOverlay$Table;", Cond.methodLink RX2 85 yX1_at, Cond.instanceMethod yX1_at, Cond.selects RX1 yX1_at yX1_at, Cond.initialized RX1, Cond.code yX1_at cX1_at 4 (some .int), Cond.fieldLink RX1 18 "ChordOverlay$Table" "width" "I", Cond.fieldLink RX1 24 "ChordOverlay$Table" "cells" "[I", Cond.methodLink RX2 95 yX2_handOver, Cond.instanceMethod yX2_handOver, Cond.selects RX2 yX2_handOver yX2_handOver, Cond.code yX2_handOver cX2_handOver 4 none, Cond.fieldLink RX2 22 "ChordOverlay" "predecessors" "LChordOverlay$Table;", Cond.methodLink RX2 159 yX2_giveCopy, Cond.instanceMethod yX2_giveCopy, Cond.selects RX2 yX2_giveCopy yX2_giveCopy, Cond.code yX2_giveCopy cX2_giveCopy 5 (some .int), Cond.fieldLink RX2 31 "ChordOverlay" "stamps" "LChordOverlay$Table;", Cond.fieldLink RX2 28 "ChordOverlay" "values" "LChordOverlay$Table;", Cond.methodLink RX2 127 yX1_set, Cond.instanceMethod yX1_set, Cond.selects RX1 yX1_set yX1_set, Cond.code yX1_set cX1_set 5 none, Cond.methodLink RX2 163 yX2_follow]
def wsX2_leave_r3 : List Cond := [Cond.instanceMethod yX2_follow, Cond.selects RX2 yX2_follow yX2_follow, Cond.code yX2_follow cX2_follow 5 none, Cond.methodLink RX2 149 yX2_setSuccessors, Cond.instanceMethod yX2_setSuccessors, Cond.selects RX2 yX2_setSuccessors yX2_setSuccessors, Cond.code yX2_setSuccessors cX2_setSuccessors 5 none, Cond.methodLink RX2 88 yX2_endLife, Cond.instanceMethod yX2_endLife, Cond.selects RX2 yX2_endLife yX2_endLife, Cond.code yX2_endLife cX2_endLife 2 none, Cond.methodLink RX2 155 yX2_setAlive, Cond.instanceMethod yX2_setAlive, Cond.selects RX2 yX2_setAlive yX2_setAlive, Cond.code yX2_setAlive cX2_setAlive 3 none, Cond.methodLink RX2 57 yX2_countLiving, Cond.instanceMethod yX2_countLiving, Cond.selects RX2 yX2_countLiving yX2_countLiving, Cond.code yX2_countLiving cX2_countLiving 3 (some .int)]
def wsX2_leave : List Cond := .code yX2_leave cX2_leave 3 (some .int) :: ((wsX2_leave_r1 ++ (wsX2_leave_r2 ++ wsX2_leave_r3)) ++ wsX20 ++ wsX10 ++ (vx_atS RX2 146 "java/lang/IllegalArgumentException" ["java/lang/RuntimeException", "java/lang/Exception"]).filter goodWord ++ (vx_atS RX2 65 "java/lang/IllegalStateException" ["java/lang/RuntimeException", "java/lang/Exception"]).filter goodWord)
def wsX2_living : List Cond := .code yX2_living cX2_living 1 (some .int) :: ([.methodLink RX2 57 yX2_countLiving, .instanceMethod yX2_countLiving, .selects RX2 yX2_countLiving yX2_countLiving, .initialized RX2, .code yX2_countLiving cX2_countLiving 3 (some .int), .methodLink RX2 72 yX2_isAlive, .instanceMethod yX2_isAlive, .selects RX2 yX2_isAlive yX2_isAlive, .code yX2_isAlive cX2_isAlive 2 (some .boolean), .fieldLink RX2 9 "ChordOverlay" "lives" "[Z"] ++ wsX20)
def wsX2_isLiving : List Cond := .code yX2_isLiving cX2_isLiving 2 (some .boolean) :: ([.methodLink RX2 54 yX2_requireIdentifier, .static yX2_requireIdentifier, .initialized RX2, .code yX2_requireIdentifier cX2_requireIdentifier 1 none, .methodLink RX2 99 yX2_requireRange, .static yX2_requireRange, .code yX2_requireRange cX2_requireRange 3 none, .classLink RX2 142 "java/lang/IllegalArgumentException", .initialized "java/lang/IllegalArgumentException", .methodLink RX2 72 yX2_isAlive, .instanceMethod yX2_isAlive, .selects RX2 yX2_isAlive yX2_isAlive, .code yX2_isAlive cX2_isAlive 2 (some .boolean), .fieldLink RX2 9 "ChordOverlay" "lives" "[Z"] ++ wsX20 ++ (vx_atS RX2 146 "java/lang/IllegalArgumentException" ["java/lang/RuntimeException", "java/lang/Exception"]).filter goodWord)
def wsX2_successor_r1 : List Cond := [Cond.fieldLink RX2 18 "ChordOverlay" "successors" "LChordOverlay$Table;", Cond.methodLink RX2 54 yX2_requireIdentifier, Cond.static yX2_requireIdentifier, Cond.initialized RX2, Cond.code yX2_requireIdentifier cX2_requireIdentifier 1 none, Cond.methodLink RX2 99 yX2_requireRange, Cond.static yX2_requireRange, Cond.code yX2_requireRange cX2_requireRange 3 none, Cond.classLink RX2 142 "java/lang/IllegalArgumentException", Cond.initialized "java/lang/IllegalArgumentException", Cond.methodLink RX2 78 yX2_requireAlive, Cond.instanceMethod yX2_requireAlive, Cond.selects RX2 yX2_requireAlive yX2_requireAlive, Cond.code yX2_requireAlive cX2_requireAlive 2 none, Cond.classLink RX2 61 "java/lang/IllegalStateException", Cond.initialized "java/lang/IllegalStateException", Cond.methodLink RX2 72 yX2_isAlive, Cond.instanceMethod yX2_isAlive, Cond.selects RX2 yX2_isAlive yX2_isAlive, Cond.code yX2_isAlive cX2_isAlive 2 (some .boolean), Cond.fieldLink RX2 9 "ChordOverlay" "lives" "[Z", Cond.methodLink RX2 85 yX1_at, Cond.instanceMethod yX1_at, Cond.selects RX1 yX1_at yX1_at]
def wsX2_successor_r2 : List Cond := [Cond.initialized RX1, Cond.code yX1_at cX1_at 4 (some .int), Cond.fieldLink RX1 18 "ChordOverlay$Table" "width" "I", Cond.fieldLink RX1 24 "ChordOverlay$Table" "cells" "[I"]
def wsX2_successor : List Cond := .code yX2_successor cX2_successor 3 (some .int) :: ((wsX2_successor_r1 ++ wsX2_successor_r2) ++ wsX20 ++ wsX10 ++ (vx_atS RX2 146 "java/lang/IllegalArgumentException" ["java/lang/RuntimeException", "java/lang/Exception"]).filter goodWord ++ (vx_atS RX2 65 "java/lang/IllegalStateException" ["java/lang/RuntimeException", "java/lang/Exception"]).filter goodWord)
def wsX2_liveSuccessor_r1 : List Cond := [Cond.methodLink RX2 54 yX2_requireIdentifier, Cond.static yX2_requireIdentifier, Cond.initialized RX2, Cond.code yX2_requireIdentifier cX2_requireIdentifier 1 none, Cond.methodLink RX2 99 yX2_requireRange, Cond.static yX2_requireRange, Cond.code yX2_requireRange cX2_requireRange 3 none, Cond.classLink RX2 142 "java/lang/IllegalArgumentException", Cond.initialized "java/lang/IllegalArgumentException", Cond.methodLink RX2 78 yX2_requireAlive, Cond.instanceMethod yX2_requireAlive, Cond.selects RX2 yX2_requireAlive yX2_requireAlive, Cond.code yX2_requireAlive cX2_requireAlive 2 none, Cond.classLink RX2 61 "java/lang/IllegalStateException", Cond.initialized "java/lang/IllegalStateException", Cond.methodLink RX2 72 yX2_isAlive, Cond.instanceMethod yX2_isAlive, Cond.selects RX2 yX2_isAlive yX2_isAlive, Cond.code yX2_isAlive cX2_isAlive 2 (some .boolean), Cond.fieldLink RX2 9 "ChordOverlay" "lives" "[Z", Cond.methodLink RX2 91 yX2_firstLivingSuccessor, Cond.instanceMethod yX2_firstLivingSuccessor, Cond.selects RX2 yX2_firstLivingSuccessor yX2_firstLivingSuccessor, Cond.code yX2_firstLivingSuccessor cX2_firstLivingSuccessor 4 (some .int)]
def wsX2_liveSuccessor_r2 : List Cond := [Cond.fieldLink RX2 18 "ChordOverlay" "successors" "LChordOverlay$Table;", Cond.methodLink RX2 85 yX1_at, Cond.instanceMethod yX1_at, Cond.selects RX1 yX1_at yX1_at, Cond.initialized RX1, Cond.code yX1_at cX1_at 4 (some .int), Cond.fieldLink RX1 18 "ChordOverlay$Table" "width" "I", Cond.fieldLink RX1 24 "ChordOverlay$Table" "cells" "[I"]
def wsX2_liveSuccessor : List Cond := .code yX2_liveSuccessor cX2_liveSuccessor 2 (some .int) :: ((wsX2_liveSuccessor_r1 ++ wsX2_liveSuccessor_r2) ++ wsX20 ++ wsX10 ++ (vx_atS RX2 146 "java/lang/IllegalArgumentException" ["java/lang/RuntimeException", "java/lang/Exception"]).filter goodWord ++ (vx_atS RX2 65 "java/lang/IllegalStateException" ["java/lang/RuntimeException", "java/lang/Exception"]).filter goodWord)
def wsX2_predecessor_r1 : List Cond := [Cond.fieldLink RX2 22 "ChordOverlay" "predecessors" "LChordOverlay$Table;", Cond.methodLink RX2 54 yX2_requireIdentifier, Cond.static yX2_requireIdentifier, Cond.initialized RX2, Cond.code yX2_requireIdentifier cX2_requireIdentifier 1 none, Cond.methodLink RX2 99 yX2_requireRange, Cond.static yX2_requireRange, Cond.code yX2_requireRange cX2_requireRange 3 none, Cond.classLink RX2 142 "java/lang/IllegalArgumentException", Cond.initialized "java/lang/IllegalArgumentException", Cond.methodLink RX2 78 yX2_requireAlive, Cond.instanceMethod yX2_requireAlive, Cond.selects RX2 yX2_requireAlive yX2_requireAlive, Cond.code yX2_requireAlive cX2_requireAlive 2 none, Cond.classLink RX2 61 "java/lang/IllegalStateException", Cond.initialized "java/lang/IllegalStateException", Cond.methodLink RX2 72 yX2_isAlive, Cond.instanceMethod yX2_isAlive, Cond.selects RX2 yX2_isAlive yX2_isAlive, Cond.code yX2_isAlive cX2_isAlive 2 (some .boolean), Cond.fieldLink RX2 9 "ChordOverlay" "lives" "[Z", Cond.methodLink RX2 85 yX1_at, Cond.instanceMethod yX1_at, Cond.selects RX1 yX1_at yX1_at]
def wsX2_predecessor_r2 : List Cond := [Cond.initialized RX1, Cond.code yX1_at cX1_at 4 (some .int), Cond.fieldLink RX1 18 "ChordOverlay$Table" "width" "I", Cond.fieldLink RX1 24 "ChordOverlay$Table" "cells" "[I"]
def wsX2_predecessor : List Cond := .code yX2_predecessor cX2_predecessor 2 (some .int) :: ((wsX2_predecessor_r1 ++ wsX2_predecessor_r2) ++ wsX20 ++ wsX10 ++ (vx_atS RX2 146 "java/lang/IllegalArgumentException" ["java/lang/RuntimeException", "java/lang/Exception"]).filter goodWord ++ (vx_atS RX2 65 "java/lang/IllegalStateException" ["java/lang/RuntimeException", "java/lang/Exception"]).filter goodWord)
def wsX2_finger_r1 : List Cond := [Cond.fieldLink RX2 25 "ChordOverlay" "fingers" "LChordOverlay$Table;", Cond.methodLink RX2 54 yX2_requireIdentifier, Cond.static yX2_requireIdentifier, Cond.initialized RX2, Cond.code yX2_requireIdentifier cX2_requireIdentifier 1 none, Cond.methodLink RX2 99 yX2_requireRange, Cond.static yX2_requireRange, Cond.code yX2_requireRange cX2_requireRange 3 none, Cond.classLink RX2 142 "java/lang/IllegalArgumentException", Cond.initialized "java/lang/IllegalArgumentException", Cond.methodLink RX2 78 yX2_requireAlive, Cond.instanceMethod yX2_requireAlive, Cond.selects RX2 yX2_requireAlive yX2_requireAlive, Cond.code yX2_requireAlive cX2_requireAlive 2 none, Cond.classLink RX2 61 "java/lang/IllegalStateException", Cond.initialized "java/lang/IllegalStateException", Cond.methodLink RX2 72 yX2_isAlive, Cond.instanceMethod yX2_isAlive, Cond.selects RX2 yX2_isAlive yX2_isAlive, Cond.code yX2_isAlive cX2_isAlive 2 (some .boolean), Cond.fieldLink RX2 9 "ChordOverlay" "lives" "[Z", Cond.methodLink RX2 85 yX1_at, Cond.instanceMethod yX1_at, Cond.selects RX1 yX1_at yX1_at]
def wsX2_finger_r2 : List Cond := [Cond.initialized RX1, Cond.code yX1_at cX1_at 4 (some .int), Cond.fieldLink RX1 18 "ChordOverlay$Table" "width" "I", Cond.fieldLink RX1 24 "ChordOverlay$Table" "cells" "[I"]
def wsX2_finger : List Cond := .code yX2_finger cX2_finger 3 (some .int) :: ((wsX2_finger_r1 ++ wsX2_finger_r2) ++ wsX20 ++ wsX10 ++ (vx_atS RX2 146 "java/lang/IllegalArgumentException" ["java/lang/RuntimeException", "java/lang/Exception"]).filter goodWord ++ (vx_atS RX2 65 "java/lang/IllegalStateException" ["java/lang/RuntimeException", "java/lang/Exception"]).filter goodWord)
def wsX2_dropDeadPredecessor : List Cond := .code yX2_dropDeadPredecessor cX2_dropDeadPredecessor 2 none :: ([.fieldLink RX2 22 "ChordOverlay" "predecessors" "LChordOverlay$Table;", .methodLink RX2 85 yX1_at, .instanceMethod yX1_at, .selects RX1 yX1_at yX1_at, .initialized RX1, .code yX1_at cX1_at 4 (some .int), .fieldLink RX1 18 "ChordOverlay$Table" "width" "I", .fieldLink RX1 24 "ChordOverlay$Table" "cells" "[I", .methodLink RX2 72 yX2_isAlive, .instanceMethod yX2_isAlive, .selects RX2 yX2_isAlive yX2_isAlive, .initialized RX2, .code yX2_isAlive cX2_isAlive 2 (some .boolean), .fieldLink RX2 9 "ChordOverlay" "lives" "[Z", .methodLink RX2 127 yX1_set, .instanceMethod yX1_set, .selects RX1 yX1_set yX1_set, .code yX1_set cX1_set 5 none] ++ wsX20 ++ wsX10)
def wsX2_check_r1 : List Cond := [Cond.fieldLink RX2 22 "ChordOverlay" "predecessors" "LChordOverlay$Table;", Cond.methodLink RX2 54 yX2_requireIdentifier, Cond.static yX2_requireIdentifier, Cond.initialized RX2, Cond.code yX2_requireIdentifier cX2_requireIdentifier 1 none, Cond.methodLink RX2 99 yX2_requireRange, Cond.static yX2_requireRange, Cond.code yX2_requireRange cX2_requireRange 3 none, Cond.classLink RX2 142 "java/lang/IllegalArgumentException", Cond.initialized "java/lang/IllegalArgumentException", Cond.methodLink RX2 78 yX2_requireAlive, Cond.instanceMethod yX2_requireAlive, Cond.selects RX2 yX2_requireAlive yX2_requireAlive, Cond.code yX2_requireAlive cX2_requireAlive 2 none, Cond.classLink RX2 61 "java/lang/IllegalStateException", Cond.initialized "java/lang/IllegalStateException", Cond.methodLink RX2 72 yX2_isAlive, Cond.instanceMethod yX2_isAlive, Cond.selects RX2 yX2_isAlive yX2_isAlive, Cond.code yX2_isAlive cX2_isAlive 2 (some .boolean), Cond.fieldLink RX2 9 "ChordOverlay" "lives" "[Z", Cond.methodLink RX2 103 yX2_dropDeadPredecessor, Cond.instanceMethod yX2_dropDeadPredecessor, Cond.selects RX2 yX2_dropDeadPredecessor yX2_dropDeadPredecessor]
def wsX2_check_r2 : List Cond := [Cond.code yX2_dropDeadPredecessor cX2_dropDeadPredecessor 2 none, Cond.methodLink RX2 85 yX1_at, Cond.instanceMethod yX1_at, Cond.selects RX1 yX1_at yX1_at, Cond.initialized RX1, Cond.code yX1_at cX1_at 4 (some .int), Cond.fieldLink RX1 18 "ChordOverlay$Table" "width" "I", Cond.fieldLink RX1 24 "ChordOverlay$Table" "cells" "[I", Cond.methodLink RX2 127 yX1_set, Cond.instanceMethod yX1_set, Cond.selects RX1 yX1_set yX1_set, Cond.code yX1_set cX1_set 5 none]
def wsX2_check : List Cond := .code yX2_check cX2_check 2 (some .boolean) :: ((wsX2_check_r1 ++ wsX2_check_r2) ++ wsX20 ++ wsX10 ++ (vx_atS RX2 146 "java/lang/IllegalArgumentException" ["java/lang/RuntimeException", "java/lang/Exception"]).filter goodWord ++ (vx_atS RX2 65 "java/lang/IllegalStateException" ["java/lang/RuntimeException", "java/lang/Exception"]).filter goodWord)
def wsX2_notifyOf : List Cond := .code yX2_notifyOf cX2_notifyOf 4 none :: ([.fieldLink RX2 22 "ChordOverlay" "predecessors" "LChordOverlay$Table;", .methodLink RX2 85 yX1_at, .instanceMethod yX1_at, .selects RX1 yX1_at yX1_at, .initialized RX1, .code yX1_at cX1_at 4 (some .int), .fieldLink RX1 18 "ChordOverlay$Table" "width" "I", .fieldLink RX1 24 "ChordOverlay$Table" "cells" "[I", .methodLink RX2 72 yX2_isAlive, .instanceMethod yX2_isAlive, .selects RX2 yX2_isAlive yX2_isAlive, .initialized RX2, .code yX2_isAlive cX2_isAlive 2 (some .boolean), .fieldLink RX2 9 "ChordOverlay" "lives" "[Z", .methodLink RX2 166 yX0_isBetween, .static yX0_isBetween, .initialized RX0, .code yX0_isBetween cX0_isBetween 3 (some .boolean), .methodLink RX2 127 yX1_set, .instanceMethod yX1_set, .selects RX1 yX1_set yX1_set, .code yX1_set cX1_set 5 none] ++ wsX20 ++ wsX10)
def wsX2_mendSuccessors_r1 : List Cond := [Cond.fieldLink RX2 22 "ChordOverlay" "predecessors" "LChordOverlay$Table;", Cond.methodLink RX2 91 yX2_firstLivingSuccessor, Cond.instanceMethod yX2_firstLivingSuccessor, Cond.selects RX2 yX2_firstLivingSuccessor yX2_firstLivingSuccessor, Cond.initialized RX2, Cond.code yX2_firstLivingSuccessor cX2_firstLivingSuccessor 4 (some .int), Cond.fieldLink RX2 18 "ChordOverlay" "successors" "LChordOverlay$Table;", Cond.methodLink RX2 85 yX1_at, Cond.instanceMethod yX1_at, Cond.selects RX1 yX1_at yX1_at, Cond.initialized RX1, Cond.code yX1_at cX1_at 4 (some .int), Cond.fieldLink RX1 18 "ChordOverlay$Table" "width" "I", Cond.fieldLink RX1 24 "ChordOverlay$Table" "cells" "[I", Cond.methodLink RX2 72 yX2_isAlive, Cond.instanceMethod yX2_isAlive, Cond.selects RX2 yX2_isAlive yX2_isAlive, Cond.code yX2_isAlive cX2_isAlive 2 (some .boolean), Cond.fieldLink RX2 9 "ChordOverlay" "lives" "[Z", Cond.methodLink RX2 166 yX0_isBetween, Cond.static yX0_isBetween, Cond.initialized RX0, Cond.code yX0_isBetween cX0_isBetween 3 (some .boolean), Cond.methodLink RX2 163 yX2_follow]
def wsX2_mendSuccessors_r2 : List Cond := [Cond.instanceMethod yX2_follow, Cond.selects RX2 yX2_follow yX2_follow, Cond.code yX2_follow cX2_follow 5 none, Cond.methodLink RX2 149 yX2_setSuccessors, Cond.instanceMethod yX2_setSuccessors, Cond.selects RX2 yX2_setSuccessors yX2_setSuccessors, Cond.code yX2_setSuccessors cX2_setSuccessors 5 none, Cond.methodLink RX2 127 yX1_set, Cond.instanceMethod yX1_set, Cond.selects RX1 yX1_set yX1_set, Cond.code yX1_set cX1_set 5 none, Cond.methodLink RX2 172 yX2_notifyOf, Cond.instanceMethod yX2_notifyOf, Cond.selects RX2 yX2_notifyOf yX2_notifyOf, Cond.code yX2_notifyOf cX2_notifyOf 4 none]
def wsX2_mendSuccessors : List Cond := .code yX2_mendSuccessors cX2_mendSuccessors 4 none :: ((wsX2_mendSuccessors_r1 ++ wsX2_mendSuccessors_r2) ++ wsX20 ++ wsX10)
def wsX2_stabilize_r1 : List Cond := [Cond.fieldLink RX2 18 "ChordOverlay" "successors" "LChordOverlay$Table;", Cond.methodLink RX2 54 yX2_requireIdentifier, Cond.static yX2_requireIdentifier, Cond.initialized RX2, Cond.code yX2_requireIdentifier cX2_requireIdentifier 1 none, Cond.methodLink RX2 99 yX2_requireRange, Cond.static yX2_requireRange, Cond.code yX2_requireRange cX2_requireRange 3 none, Cond.classLink RX2 142 "java/lang/IllegalArgumentException", Cond.initialized "java/lang/IllegalArgumentException", Cond.methodLink RX2 78 yX2_requireAlive, Cond.instanceMethod yX2_requireAlive, Cond.selects RX2 yX2_requireAlive yX2_requireAlive, Cond.code yX2_requireAlive cX2_requireAlive 2 none, Cond.classLink RX2 61 "java/lang/IllegalStateException", Cond.initialized "java/lang/IllegalStateException", Cond.methodLink RX2 72 yX2_isAlive, Cond.instanceMethod yX2_isAlive, Cond.selects RX2 yX2_isAlive yX2_isAlive, Cond.code yX2_isAlive cX2_isAlive 2 (some .boolean), Cond.fieldLink RX2 9 "ChordOverlay" "lives" "[Z", Cond.methodLink RX2 106 yX2_mendSuccessors, Cond.instanceMethod yX2_mendSuccessors, Cond.selects RX2 yX2_mendSuccessors yX2_mendSuccessors]
def wsX2_stabilize_r2 : List Cond := [Cond.code yX2_mendSuccessors cX2_mendSuccessors 4 none, Cond.fieldLink RX2 22 "ChordOverlay" "predecessors" "LChordOverlay$Table;", Cond.methodLink RX2 91 yX2_firstLivingSuccessor, Cond.instanceMethod yX2_firstLivingSuccessor, Cond.selects RX2 yX2_firstLivingSuccessor yX2_firstLivingSuccessor, Cond.code yX2_firstLivingSuccessor cX2_firstLivingSuccessor 4 (some .int), Cond.methodLink RX2 85 yX1_at, Cond.instanceMethod yX1_at, Cond.selects RX1 yX1_at yX1_at, Cond.initialized RX1, Cond.code yX1_at cX1_at 4 (some .int), Cond.fieldLink RX1 18 "ChordOverlay$Table" "width" "I", Cond.fieldLink RX1 24 "ChordOverlay$Table" "cells" "[I", Cond.methodLink RX2 166 yX0_isBetween, Cond.static yX0_isBetween, Cond.initialized RX0, Cond.code yX0_isBetween cX0_isBetween 3 (some .boolean), Cond.methodLink RX2 163 yX2_follow, Cond.instanceMethod yX2_follow, Cond.selects RX2 yX2_follow yX2_follow, Cond.code yX2_follow cX2_follow 5 none, Cond.methodLink RX2 149 yX2_setSuccessors, Cond.instanceMethod yX2_setSuccessors, Cond.selects RX2 yX2_setSuccessors yX2_setSuccessors]
def wsX2_stabilize_r3 : List Cond := [Cond.code yX2_setSuccessors cX2_setSuccessors 5 none, Cond.methodLink RX2 127 yX1_set, Cond.instanceMethod yX1_set, Cond.selects RX1 yX1_set yX1_set, Cond.code yX1_set cX1_set 5 none, Cond.methodLink RX2 172 yX2_notifyOf, Cond.instanceMethod yX2_notifyOf, Cond.selects RX2 yX2_notifyOf yX2_notifyOf, Cond.code yX2_notifyOf cX2_notifyOf 4 none]
def wsX2_stabilize : List Cond := .code yX2_stabilize cX2_stabilize 2 (some .int) :: ((wsX2_stabilize_r1 ++ (wsX2_stabilize_r2 ++ wsX2_stabilize_r3)) ++ wsX20 ++ wsX10 ++ (vx_atS RX2 146 "java/lang/IllegalArgumentException" ["java/lang/RuntimeException", "java/lang/Exception"]).filter goodWord ++ (vx_atS RX2 65 "java/lang/IllegalStateException" ["java/lang/RuntimeException", "java/lang/Exception"]).filter goodWord)
def wsX2_renewFingers_r1 : List Cond := [Cond.fieldLink RX2 25 "ChordOverlay" "fingers" "LChordOverlay$Table;", Cond.methodLink RX2 175 yX0_fingerStart, Cond.static yX0_fingerStart, Cond.initialized RX0, Cond.code yX0_fingerStart cX0_fingerStart 2 (some .int), Cond.methodLink RX0 11 yX0_onward, Cond.static yX0_onward, Cond.code yX0_onward cX0_onward 2 (some .int), Cond.methodLink RX2 81 yX2_find, Cond.instanceMethod yX2_find, Cond.selects RX2 yX2_find yX2_find, Cond.initialized RX2, Cond.code yX2_find cX2_find 6 (some .int), Cond.fieldLink RX2 38 "ChordOverlay" "route" "[I", Cond.fieldLink RX2 42 "ChordOverlay" "routeHops" "I", Cond.methodLink RX2 91 yX2_firstLivingSuccessor, Cond.instanceMethod yX2_firstLivingSuccessor, Cond.selects RX2 yX2_firstLivingSuccessor yX2_firstLivingSuccessor, Cond.code yX2_firstLivingSuccessor cX2_firstLivingSuccessor 4 (some .int), Cond.fieldLink RX2 18 "ChordOverlay" "successors" "LChordOverlay$Table;", Cond.methodLink RX2 85 yX1_at, Cond.instanceMethod yX1_at, Cond.selects RX1 yX1_at yX1_at, Cond.initialized RX1]
def wsX2_renewFingers_r2 : List Cond := [Cond.code yX1_at cX1_at 4 (some .int), Cond.fieldLink RX1 18 "ChordOverlay$Table" "width" "I", Cond.fieldLink RX1 24 "ChordOverlay$Table" "cells" "[I", Cond.methodLink RX2 72 yX2_isAlive, Cond.instanceMethod yX2_isAlive, Cond.selects RX2 yX2_isAlive yX2_isAlive, Cond.code yX2_isAlive cX2_isAlive 2 (some .boolean), Cond.fieldLink RX2 9 "ChordOverlay" "lives" "[Z", Cond.methodLink RX2 181 yX0_isUpTo, Cond.static yX0_isUpTo, Cond.code yX0_isUpTo cX0_isUpTo 3 (some .boolean), Cond.methodLink RX2 184 yX2_hopTowards, Cond.instanceMethod yX2_hopTowards, Cond.selects RX2 yX2_hopTowards yX2_hopTowards, Cond.code yX2_hopTowards cX2_hopTowards 6 (some .int), Cond.methodLink RX2 166 yX0_isBetween, Cond.static yX0_isBetween, Cond.code yX0_isBetween cX0_isBetween 3 (some .boolean), Cond.methodLink RX2 127 yX1_set, Cond.instanceMethod yX1_set, Cond.selects RX1 yX1_set yX1_set, Cond.code yX1_set cX1_set 5 none]
def wsX2_renewFingers : List Cond := .code yX2_renewFingers cX2_renewFingers 5 (some .int) :: ((wsX2_renewFingers_r1 ++ wsX2_renewFingers_r2) ++ wsX20 ++ wsX10)
def wsX2_fix_r1 : List Cond := [Cond.methodLink RX2 54 yX2_requireIdentifier, Cond.static yX2_requireIdentifier, Cond.initialized RX2, Cond.code yX2_requireIdentifier cX2_requireIdentifier 1 none, Cond.methodLink RX2 99 yX2_requireRange, Cond.static yX2_requireRange, Cond.code yX2_requireRange cX2_requireRange 3 none, Cond.classLink RX2 142 "java/lang/IllegalArgumentException", Cond.initialized "java/lang/IllegalArgumentException", Cond.methodLink RX2 78 yX2_requireAlive, Cond.instanceMethod yX2_requireAlive, Cond.selects RX2 yX2_requireAlive yX2_requireAlive, Cond.code yX2_requireAlive cX2_requireAlive 2 none, Cond.classLink RX2 61 "java/lang/IllegalStateException", Cond.initialized "java/lang/IllegalStateException", Cond.methodLink RX2 72 yX2_isAlive, Cond.instanceMethod yX2_isAlive, Cond.selects RX2 yX2_isAlive yX2_isAlive, Cond.code yX2_isAlive cX2_isAlive 2 (some .boolean), Cond.fieldLink RX2 9 "ChordOverlay" "lives" "[Z", Cond.methodLink RX2 109 yX2_renewFingers, Cond.instanceMethod yX2_renewFingers, Cond.selects RX2 yX2_renewFingers yX2_renewFingers, Cond.code yX2_renewFingers cX2_renewFingers 5 (some .int)]
def wsX2_fix_r2 : List Cond := [Cond.fieldLink RX2 25 "ChordOverlay" "fingers" "LChordOverlay$Table;", Cond.methodLink RX2 175 yX0_fingerStart, Cond.static yX0_fingerStart, Cond.initialized RX0, Cond.code yX0_fingerStart cX0_fingerStart 2 (some .int), Cond.methodLink RX0 11 yX0_onward, Cond.static yX0_onward, Cond.code yX0_onward cX0_onward 2 (some .int), Cond.methodLink RX2 81 yX2_find, Cond.instanceMethod yX2_find, Cond.selects RX2 yX2_find yX2_find, Cond.code yX2_find cX2_find 6 (some .int), Cond.fieldLink RX2 38 "ChordOverlay" "route" "[I", Cond.fieldLink RX2 42 "ChordOverlay" "routeHops" "I", Cond.methodLink RX2 91 yX2_firstLivingSuccessor, Cond.instanceMethod yX2_firstLivingSuccessor, Cond.selects RX2 yX2_firstLivingSuccessor yX2_firstLivingSuccessor, Cond.code yX2_firstLivingSuccessor cX2_firstLivingSuccessor 4 (some .int), Cond.fieldLink RX2 18 "ChordOverlay" "successors" "LChordOverlay$Table;", Cond.methodLink RX2 85 yX1_at, Cond.instanceMethod yX1_at, Cond.selects RX1 yX1_at yX1_at, Cond.initialized RX1, Cond.code yX1_at cX1_at 4 (some .int)]
def wsX2_fix_r3 : List Cond := [Cond.fieldLink RX1 18 "ChordOverlay$Table" "width" "I", Cond.fieldLink RX1 24 "ChordOverlay$Table" "cells" "[I", Cond.methodLink RX2 181 yX0_isUpTo, Cond.static yX0_isUpTo, Cond.code yX0_isUpTo cX0_isUpTo 3 (some .boolean), Cond.methodLink RX2 184 yX2_hopTowards, Cond.instanceMethod yX2_hopTowards, Cond.selects RX2 yX2_hopTowards yX2_hopTowards, Cond.code yX2_hopTowards cX2_hopTowards 6 (some .int), Cond.methodLink RX2 166 yX0_isBetween, Cond.static yX0_isBetween, Cond.code yX0_isBetween cX0_isBetween 3 (some .boolean), Cond.methodLink RX2 127 yX1_set, Cond.instanceMethod yX1_set, Cond.selects RX1 yX1_set yX1_set, Cond.code yX1_set cX1_set 5 none]
def wsX2_fix : List Cond := .code yX2_fix cX2_fix 2 (some .int) :: ((wsX2_fix_r1 ++ (wsX2_fix_r2 ++ wsX2_fix_r3)) ++ wsX20 ++ wsX10 ++ (vx_atS RX2 146 "java/lang/IllegalArgumentException" ["java/lang/RuntimeException", "java/lang/Exception"]).filter goodWord ++ (vx_atS RX2 65 "java/lang/IllegalStateException" ["java/lang/RuntimeException", "java/lang/Exception"]).filter goodWord)
def wsX2_firstHeir : List Cond := .code yX2_firstHeir cX2_firstHeir 5 (some .int) :: ([.fieldLink RX2 18 "ChordOverlay" "successors" "LChordOverlay$Table;", .methodLink RX2 85 yX1_at, .instanceMethod yX1_at, .selects RX1 yX1_at yX1_at, .initialized RX1, .code yX1_at cX1_at 4 (some .int), .fieldLink RX1 18 "ChordOverlay$Table" "width" "I", .fieldLink RX1 24 "ChordOverlay$Table" "cells" "[I", .methodLink RX2 72 yX2_isAlive, .instanceMethod yX2_isAlive, .selects RX2 yX2_isAlive yX2_isAlive, .initialized RX2, .code yX2_isAlive cX2_isAlive 2 (some .boolean), .fieldLink RX2 9 "ChordOverlay" "lives" "[Z"] ++ wsX20 ++ wsX10)
def wsX2_copyToHeirs_r1 : List Cond := [Cond.methodLink RX2 187 yX2_firstHeir, Cond.instanceMethod yX2_firstHeir, Cond.selects RX2 yX2_firstHeir yX2_firstHeir, Cond.initialized RX2, Cond.code yX2_firstHeir cX2_firstHeir 5 (some .int), Cond.fieldLink RX2 18 "ChordOverlay" "successors" "LChordOverlay$Table;", Cond.methodLink RX2 85 yX1_at, Cond.instanceMethod yX1_at, Cond.selects RX1 yX1_at yX1_at, Cond.initialized RX1, Cond.code yX1_at cX1_at 4 (some .int), Cond.fieldLink RX1 18 "ChordOverlay$Table" "width" "I", Cond.fieldLink RX1 24 "ChordOverlay$Table" "cells" "[I", Cond.methodLink RX2 72 yX2_isAlive, Cond.instanceMethod yX2_isAlive, Cond.selects RX2 yX2_isAlive yX2_isAlive, Cond.code yX2_isAlive cX2_isAlive 2 (some .boolean), Cond.fieldLink RX2 9 "ChordOverlay" "lives" "[Z", Cond.methodLink RX2 159 yX2_giveCopy, Cond.instanceMethod yX2_giveCopy, Cond.selects RX2 yX2_giveCopy yX2_giveCopy, Cond.code yX2_giveCopy cX2_giveCopy 5 (some .int), Cond.fieldLink RX2 31 "ChordOverlay" "stamps" "LChordOverlay$Table;", Cond.fieldLink RX2 28 "ChordOverlay" "values" "LChordOverlay$Table;"]
def wsX2_copyToHeirs_r2 : List Cond := [Cond.methodLink RX2 127 yX1_set, Cond.instanceMethod yX1_set, Cond.selects RX1 yX1_set yX1_set, Cond.code yX1_set cX1_set 5 none]
def wsX2_copyToHeirs : List Cond := .code yX2_copyToHeirs cX2_copyToHeirs 6 (some .int) :: ((wsX2_copyToHeirs_r1 ++ wsX2_copyToHeirs_r2) ++ wsX20 ++ wsX10)
def wsX2_spreadValue_r1 : List Cond := [Cond.fieldLink RX2 22 "ChordOverlay" "predecessors" "LChordOverlay$Table;", Cond.methodLink RX2 85 yX1_at, Cond.instanceMethod yX1_at, Cond.selects RX1 yX1_at yX1_at, Cond.initialized RX1, Cond.code yX1_at cX1_at 4 (some .int), Cond.fieldLink RX1 18 "ChordOverlay$Table" "width" "I", Cond.fieldLink RX1 24 "ChordOverlay$Table" "cells" "[I", Cond.methodLink RX2 181 yX0_isUpTo, Cond.static yX0_isUpTo, Cond.initialized RX0, Cond.code yX0_isUpTo cX0_isUpTo 3 (some .boolean), Cond.methodLink RX2 81 yX2_find, Cond.instanceMethod yX2_find, Cond.selects RX2 yX2_find yX2_find, Cond.initialized RX2, Cond.code yX2_find cX2_find 6 (some .int), Cond.fieldLink RX2 38 "ChordOverlay" "route" "[I", Cond.fieldLink RX2 42 "ChordOverlay" "routeHops" "I", Cond.methodLink RX2 91 yX2_firstLivingSuccessor, Cond.instanceMethod yX2_firstLivingSuccessor, Cond.selects RX2 yX2_firstLivingSuccessor yX2_firstLivingSuccessor, Cond.code yX2_firstLivingSuccessor cX2_firstLivingSuccessor 4 (some .int), Cond.fieldLink RX2 18 "ChordOverlay" "successors" "LChordOverlay$Table;"]
def wsX2_spreadValue_r2 : List Cond := [Cond.methodLink RX2 72 yX2_isAlive, Cond.instanceMethod yX2_isAlive, Cond.selects RX2 yX2_isAlive yX2_isAlive, Cond.code yX2_isAlive cX2_isAlive 2 (some .boolean), Cond.fieldLink RX2 9 "ChordOverlay" "lives" "[Z", Cond.methodLink RX2 184 yX2_hopTowards, Cond.instanceMethod yX2_hopTowards, Cond.selects RX2 yX2_hopTowards yX2_hopTowards, Cond.code yX2_hopTowards cX2_hopTowards 6 (some .int), Cond.fieldLink RX2 25 "ChordOverlay" "fingers" "LChordOverlay$Table;", Cond.methodLink RX2 166 yX0_isBetween, Cond.static yX0_isBetween, Cond.code yX0_isBetween cX0_isBetween 3 (some .boolean), Cond.methodLink RX2 159 yX2_giveCopy, Cond.instanceMethod yX2_giveCopy, Cond.selects RX2 yX2_giveCopy yX2_giveCopy, Cond.code yX2_giveCopy cX2_giveCopy 5 (some .int), Cond.fieldLink RX2 31 "ChordOverlay" "stamps" "LChordOverlay$Table;", Cond.fieldLink RX2 28 "ChordOverlay" "values" "LChordOverlay$Table;", Cond.methodLink RX2 127 yX1_set, Cond.instanceMethod yX1_set, Cond.selects RX1 yX1_set yX1_set, Cond.code yX1_set cX1_set 5 none, Cond.methodLink RX2 130 yX2_copyToHeirs]
def wsX2_spreadValue_r3 : List Cond := [Cond.instanceMethod yX2_copyToHeirs, Cond.selects RX2 yX2_copyToHeirs yX2_copyToHeirs, Cond.code yX2_copyToHeirs cX2_copyToHeirs 6 (some .int), Cond.methodLink RX2 187 yX2_firstHeir, Cond.instanceMethod yX2_firstHeir, Cond.selects RX2 yX2_firstHeir yX2_firstHeir, Cond.code yX2_firstHeir cX2_firstHeir 5 (some .int)]
def wsX2_spreadValue : List Cond := .code yX2_spreadValue cX2_spreadValue 4 (some .int) :: ((wsX2_spreadValue_r1 ++ (wsX2_spreadValue_r2 ++ wsX2_spreadValue_r3)) ++ wsX20 ++ wsX10)
def wsX2_spreadValues_r1 : List Cond := [Cond.fieldLink RX2 28 "ChordOverlay" "values" "LChordOverlay$Table;", Cond.methodLink RX2 85 yX1_at, Cond.instanceMethod yX1_at, Cond.selects RX1 yX1_at yX1_at, Cond.initialized RX1, Cond.code yX1_at cX1_at 4 (some .int), Cond.fieldLink RX1 18 "ChordOverlay$Table" "width" "I", Cond.fieldLink RX1 24 "ChordOverlay$Table" "cells" "[I", Cond.methodLink RX2 178 yX2_spreadValue, Cond.instanceMethod yX2_spreadValue, Cond.selects RX2 yX2_spreadValue yX2_spreadValue, Cond.initialized RX2, Cond.code yX2_spreadValue cX2_spreadValue 4 (some .int), Cond.fieldLink RX2 22 "ChordOverlay" "predecessors" "LChordOverlay$Table;", Cond.methodLink RX2 181 yX0_isUpTo, Cond.static yX0_isUpTo, Cond.initialized RX0, Cond.code yX0_isUpTo cX0_isUpTo 3 (some .boolean), Cond.methodLink RX2 81 yX2_find, Cond.instanceMethod yX2_find, Cond.selects RX2 yX2_find yX2_find, Cond.code yX2_find cX2_find 6 (some .int), Cond.fieldLink RX2 38 "ChordOverlay" "route" "[I", Cond.fieldLink RX2 42 "ChordOverlay" "routeHops" "I"]
def wsX2_spreadValues_r2 : List Cond := [Cond.methodLink RX2 91 yX2_firstLivingSuccessor, Cond.instanceMethod yX2_firstLivingSuccessor, Cond.selects RX2 yX2_firstLivingSuccessor yX2_firstLivingSuccessor, Cond.code yX2_firstLivingSuccessor cX2_firstLivingSuccessor 4 (some .int), Cond.fieldLink RX2 18 "ChordOverlay" "successors" "LChordOverlay$Table;", Cond.methodLink RX2 72 yX2_isAlive, Cond.instanceMethod yX2_isAlive, Cond.selects RX2 yX2_isAlive yX2_isAlive, Cond.code yX2_isAlive cX2_isAlive 2 (some .boolean), Cond.fieldLink RX2 9 "ChordOverlay" "lives" "[Z", Cond.methodLink RX2 184 yX2_hopTowards, Cond.instanceMethod yX2_hopTowards, Cond.selects RX2 yX2_hopTowards yX2_hopTowards, Cond.code yX2_hopTowards cX2_hopTowards 6 (some .int), Cond.fieldLink RX2 25 "ChordOverlay" "fingers" "LChordOverlay$Table;", Cond.methodLink RX2 166 yX0_isBetween, Cond.static yX0_isBetween, Cond.code yX0_isBetween cX0_isBetween 3 (some .boolean), Cond.methodLink RX2 159 yX2_giveCopy, Cond.instanceMethod yX2_giveCopy, Cond.selects RX2 yX2_giveCopy yX2_giveCopy, Cond.code yX2_giveCopy cX2_giveCopy 5 (some .int), Cond.fieldLink RX2 31 "ChordOverlay" "stamps" "LChordOverlay$Table;", Cond.methodLink RX2 127 yX1_set]
def wsX2_spreadValues_r3 : List Cond := [Cond.instanceMethod yX1_set, Cond.selects RX1 yX1_set yX1_set, Cond.code yX1_set cX1_set 5 none, Cond.methodLink RX2 130 yX2_copyToHeirs, Cond.instanceMethod yX2_copyToHeirs, Cond.selects RX2 yX2_copyToHeirs yX2_copyToHeirs, Cond.code yX2_copyToHeirs cX2_copyToHeirs 6 (some .int), Cond.methodLink RX2 187 yX2_firstHeir, Cond.instanceMethod yX2_firstHeir, Cond.selects RX2 yX2_firstHeir yX2_firstHeir, Cond.code yX2_firstHeir cX2_firstHeir 5 (some .int)]
def wsX2_spreadValues : List Cond := .code yX2_spreadValues cX2_spreadValues 4 (some .int) :: ((wsX2_spreadValues_r1 ++ (wsX2_spreadValues_r2 ++ wsX2_spreadValues_r3)) ++ wsX20 ++ wsX10)
def wsX2_replicate_r1 : List Cond := [Cond.methodLink RX2 54 yX2_requireIdentifier, Cond.static yX2_requireIdentifier, Cond.initialized RX2, Cond.code yX2_requireIdentifier cX2_requireIdentifier 1 none, Cond.methodLink RX2 99 yX2_requireRange, Cond.static yX2_requireRange, Cond.code yX2_requireRange cX2_requireRange 3 none, Cond.classLink RX2 142 "java/lang/IllegalArgumentException", Cond.initialized "java/lang/IllegalArgumentException", Cond.methodLink RX2 78 yX2_requireAlive, Cond.instanceMethod yX2_requireAlive, Cond.selects RX2 yX2_requireAlive yX2_requireAlive, Cond.code yX2_requireAlive cX2_requireAlive 2 none, Cond.classLink RX2 61 "java/lang/IllegalStateException", Cond.initialized "java/lang/IllegalStateException", Cond.methodLink RX2 72 yX2_isAlive, Cond.instanceMethod yX2_isAlive, Cond.selects RX2 yX2_isAlive yX2_isAlive, Cond.code yX2_isAlive cX2_isAlive 2 (some .boolean), Cond.fieldLink RX2 9 "ChordOverlay" "lives" "[Z", Cond.methodLink RX2 112 yX2_spreadValues, Cond.instanceMethod yX2_spreadValues, Cond.selects RX2 yX2_spreadValues yX2_spreadValues, Cond.code yX2_spreadValues cX2_spreadValues 4 (some .int)]
def wsX2_replicate_r2 : List Cond := [Cond.fieldLink RX2 28 "ChordOverlay" "values" "LChordOverlay$Table;", Cond.methodLink RX2 85 yX1_at, Cond.instanceMethod yX1_at, Cond.selects RX1 yX1_at yX1_at, Cond.initialized RX1, Cond.code yX1_at cX1_at 4 (some .int), Cond.fieldLink RX1 18 "ChordOverlay$Table" "width" "I", Cond.fieldLink RX1 24 "ChordOverlay$Table" "cells" "[I", Cond.methodLink RX2 178 yX2_spreadValue, Cond.instanceMethod yX2_spreadValue, Cond.selects RX2 yX2_spreadValue yX2_spreadValue, Cond.code yX2_spreadValue cX2_spreadValue 4 (some .int), Cond.fieldLink RX2 22 "ChordOverlay" "predecessors" "LChordOverlay$Table;", Cond.methodLink RX2 181 yX0_isUpTo, Cond.static yX0_isUpTo, Cond.initialized RX0, Cond.code yX0_isUpTo cX0_isUpTo 3 (some .boolean), Cond.methodLink RX2 81 yX2_find, Cond.instanceMethod yX2_find, Cond.selects RX2 yX2_find yX2_find, Cond.code yX2_find cX2_find 6 (some .int), Cond.fieldLink RX2 38 "ChordOverlay" "route" "[I", Cond.fieldLink RX2 42 "ChordOverlay" "routeHops" "I", Cond.methodLink RX2 91 yX2_firstLivingSuccessor]
def wsX2_replicate_r3 : List Cond := [Cond.instanceMethod yX2_firstLivingSuccessor, Cond.selects RX2 yX2_firstLivingSuccessor yX2_firstLivingSuccessor, Cond.code yX2_firstLivingSuccessor cX2_firstLivingSuccessor 4 (some .int), Cond.fieldLink RX2 18 "ChordOverlay" "successors" "LChordOverlay$Table;", Cond.methodLink RX2 184 yX2_hopTowards, Cond.instanceMethod yX2_hopTowards, Cond.selects RX2 yX2_hopTowards yX2_hopTowards, Cond.code yX2_hopTowards cX2_hopTowards 6 (some .int), Cond.fieldLink RX2 25 "ChordOverlay" "fingers" "LChordOverlay$Table;", Cond.methodLink RX2 166 yX0_isBetween, Cond.static yX0_isBetween, Cond.code yX0_isBetween cX0_isBetween 3 (some .boolean), Cond.methodLink RX2 159 yX2_giveCopy, Cond.instanceMethod yX2_giveCopy, Cond.selects RX2 yX2_giveCopy yX2_giveCopy, Cond.code yX2_giveCopy cX2_giveCopy 5 (some .int), Cond.fieldLink RX2 31 "ChordOverlay" "stamps" "LChordOverlay$Table;", Cond.methodLink RX2 127 yX1_set, Cond.instanceMethod yX1_set, Cond.selects RX1 yX1_set yX1_set, Cond.code yX1_set cX1_set 5 none, Cond.methodLink RX2 130 yX2_copyToHeirs, Cond.instanceMethod yX2_copyToHeirs, Cond.selects RX2 yX2_copyToHeirs yX2_copyToHeirs]
def wsX2_replicate_r4 : List Cond := [Cond.code yX2_copyToHeirs cX2_copyToHeirs 6 (some .int), Cond.methodLink RX2 187 yX2_firstHeir, Cond.instanceMethod yX2_firstHeir, Cond.selects RX2 yX2_firstHeir yX2_firstHeir, Cond.code yX2_firstHeir cX2_firstHeir 5 (some .int)]
def wsX2_replicate : List Cond := .code yX2_replicate cX2_replicate 2 (some .int) :: ((wsX2_replicate_r1 ++ (wsX2_replicate_r2 ++ (wsX2_replicate_r3 ++ wsX2_replicate_r4))) ++ wsX20 ++ wsX10 ++ (vx_atS RX2 146 "java/lang/IllegalArgumentException" ["java/lang/RuntimeException", "java/lang/Exception"]).filter goodWord ++ (vx_atS RX2 65 "java/lang/IllegalStateException" ["java/lang/RuntimeException", "java/lang/Exception"]).filter goodWord)
def wsX2_letRoundGoBy_r1 : List Cond := [Cond.methodLink RX2 72 yX2_isAlive, Cond.instanceMethod yX2_isAlive, Cond.selects RX2 yX2_isAlive yX2_isAlive, Cond.initialized RX2, Cond.code yX2_isAlive cX2_isAlive 2 (some .boolean), Cond.fieldLink RX2 9 "ChordOverlay" "lives" "[Z", Cond.methodLink RX2 103 yX2_dropDeadPredecessor, Cond.instanceMethod yX2_dropDeadPredecessor, Cond.selects RX2 yX2_dropDeadPredecessor yX2_dropDeadPredecessor, Cond.code yX2_dropDeadPredecessor cX2_dropDeadPredecessor 2 none, Cond.fieldLink RX2 22 "ChordOverlay" "predecessors" "LChordOverlay$Table;", Cond.methodLink RX2 85 yX1_at, Cond.instanceMethod yX1_at, Cond.selects RX1 yX1_at yX1_at, Cond.initialized RX1, Cond.code yX1_at cX1_at 4 (some .int), Cond.fieldLink RX1 18 "ChordOverlay$Table" "width" "I", Cond.fieldLink RX1 24 "ChordOverlay$Table" "cells" "[I", Cond.methodLink RX2 127 yX1_set, Cond.instanceMethod yX1_set, Cond.selects RX1 yX1_set yX1_set, Cond.code yX1_set cX1_set 5 none, Cond.methodLink RX2 106 yX2_mendSuccessors, Cond.instanceMethod yX2_mendSuccessors]
def wsX2_letRoundGoBy_r2 : List Cond := [Cond.selects RX2 yX2_mendSuccessors yX2_mendSuccessors, Cond.code yX2_mendSuccessors cX2_mendSuccessors 4 none, Cond.methodLink RX2 91 yX2_firstLivingSuccessor, Cond.instanceMethod yX2_firstLivingSuccessor, Cond.selects RX2 yX2_firstLivingSuccessor yX2_firstLivingSuccessor, Cond.code yX2_firstLivingSuccessor cX2_firstLivingSuccessor 4 (some .int), Cond.fieldLink RX2 18 "ChordOverlay" "successors" "LChordOverlay$Table;", Cond.methodLink RX2 166 yX0_isBetween, Cond.static yX0_isBetween, Cond.initialized RX0, Cond.code yX0_isBetween cX0_isBetween 3 (some .boolean), Cond.methodLink RX2 163 yX2_follow, Cond.instanceMethod yX2_follow, Cond.selects RX2 yX2_follow yX2_follow, Cond.code yX2_follow cX2_follow 5 none, Cond.methodLink RX2 149 yX2_setSuccessors, Cond.instanceMethod yX2_setSuccessors, Cond.selects RX2 yX2_setSuccessors yX2_setSuccessors, Cond.code yX2_setSuccessors cX2_setSuccessors 5 none, Cond.methodLink RX2 172 yX2_notifyOf, Cond.instanceMethod yX2_notifyOf, Cond.selects RX2 yX2_notifyOf yX2_notifyOf, Cond.code yX2_notifyOf cX2_notifyOf 4 none, Cond.methodLink RX2 109 yX2_renewFingers]
def wsX2_letRoundGoBy_r3 : List Cond := [Cond.instanceMethod yX2_renewFingers, Cond.selects RX2 yX2_renewFingers yX2_renewFingers, Cond.code yX2_renewFingers cX2_renewFingers 5 (some .int), Cond.fieldLink RX2 25 "ChordOverlay" "fingers" "LChordOverlay$Table;", Cond.methodLink RX2 175 yX0_fingerStart, Cond.static yX0_fingerStart, Cond.code yX0_fingerStart cX0_fingerStart 2 (some .int), Cond.methodLink RX0 11 yX0_onward, Cond.static yX0_onward, Cond.code yX0_onward cX0_onward 2 (some .int), Cond.methodLink RX2 81 yX2_find, Cond.instanceMethod yX2_find, Cond.selects RX2 yX2_find yX2_find, Cond.code yX2_find cX2_find 6 (some .int), Cond.fieldLink RX2 38 "ChordOverlay" "route" "[I", Cond.fieldLink RX2 42 "ChordOverlay" "routeHops" "I", Cond.methodLink RX2 181 yX0_isUpTo, Cond.static yX0_isUpTo, Cond.code yX0_isUpTo cX0_isUpTo 3 (some .boolean), Cond.methodLink RX2 184 yX2_hopTowards, Cond.instanceMethod yX2_hopTowards, Cond.selects RX2 yX2_hopTowards yX2_hopTowards, Cond.code yX2_hopTowards cX2_hopTowards 6 (some .int), Cond.methodLink RX2 112 yX2_spreadValues]
def wsX2_letRoundGoBy_r4 : List Cond := [Cond.instanceMethod yX2_spreadValues, Cond.selects RX2 yX2_spreadValues yX2_spreadValues, Cond.code yX2_spreadValues cX2_spreadValues 4 (some .int), Cond.fieldLink RX2 28 "ChordOverlay" "values" "LChordOverlay$Table;", Cond.methodLink RX2 178 yX2_spreadValue, Cond.instanceMethod yX2_spreadValue, Cond.selects RX2 yX2_spreadValue yX2_spreadValue, Cond.code yX2_spreadValue cX2_spreadValue 4 (some .int), Cond.methodLink RX2 159 yX2_giveCopy, Cond.instanceMethod yX2_giveCopy, Cond.selects RX2 yX2_giveCopy yX2_giveCopy, Cond.code yX2_giveCopy cX2_giveCopy 5 (some .int), Cond.fieldLink RX2 31 "ChordOverlay" "stamps" "LChordOverlay$Table;", Cond.methodLink RX2 130 yX2_copyToHeirs, Cond.instanceMethod yX2_copyToHeirs, Cond.selects RX2 yX2_copyToHeirs yX2_copyToHeirs, Cond.code yX2_copyToHeirs cX2_copyToHeirs 6 (some .int), Cond.methodLink RX2 187 yX2_firstHeir, Cond.instanceMethod yX2_firstHeir, Cond.selects RX2 yX2_firstHeir yX2_firstHeir, Cond.code yX2_firstHeir cX2_firstHeir 5 (some .int)]
def wsX2_letRoundGoBy : List Cond := .code yX2_letRoundGoBy cX2_letRoundGoBy 3 none :: ((wsX2_letRoundGoBy_r1 ++ (wsX2_letRoundGoBy_r2 ++ (wsX2_letRoundGoBy_r3 ++ wsX2_letRoundGoBy_r4))) ++ wsX20 ++ wsX10)
def wsX2_firstLivingUpFrom : List Cond := .code yX2_firstLivingUpFrom cX2_firstLivingUpFrom 4 (some .int) :: ([.methodLink RX2 190 yX0_onward, .static yX0_onward, .initialized RX0, .code yX0_onward cX0_onward 2 (some .int), .methodLink RX2 72 yX2_isAlive, .instanceMethod yX2_isAlive, .selects RX2 yX2_isAlive yX2_isAlive, .initialized RX2, .code yX2_isAlive cX2_isAlive 2 (some .boolean), .fieldLink RX2 9 "ChordOverlay" "lives" "[Z"] ++ wsX20)
def wsX2_firstLivingDownFrom : List Cond := .code yX2_firstLivingDownFrom cX2_firstLivingDownFrom 4 (some .int) :: ([.methodLink RX2 190 yX0_onward, .static yX0_onward, .initialized RX0, .code yX0_onward cX0_onward 2 (some .int), .methodLink RX2 72 yX2_isAlive, .instanceMethod yX2_isAlive, .selects RX2 yX2_isAlive yX2_isAlive, .initialized RX2, .code yX2_isAlive cX2_isAlive 2 (some .boolean), .fieldLink RX2 9 "ChordOverlay" "lives" "[Z"] ++ wsX20)
def wsX2_countWrongPointersOf_r1 : List Cond := [Cond.fieldLink RX2 22 "ChordOverlay" "predecessors" "LChordOverlay$Table;", Cond.fieldLink RX2 25 "ChordOverlay" "fingers" "LChordOverlay$Table;", Cond.methodLink RX2 91 yX2_firstLivingSuccessor, Cond.instanceMethod yX2_firstLivingSuccessor, Cond.selects RX2 yX2_firstLivingSuccessor yX2_firstLivingSuccessor, Cond.initialized RX2, Cond.code yX2_firstLivingSuccessor cX2_firstLivingSuccessor 4 (some .int), Cond.fieldLink RX2 18 "ChordOverlay" "successors" "LChordOverlay$Table;", Cond.methodLink RX2 85 yX1_at, Cond.instanceMethod yX1_at, Cond.selects RX1 yX1_at yX1_at, Cond.initialized RX1, Cond.code yX1_at cX1_at 4 (some .int), Cond.fieldLink RX1 18 "ChordOverlay$Table" "width" "I", Cond.fieldLink RX1 24 "ChordOverlay$Table" "cells" "[I", Cond.methodLink RX2 72 yX2_isAlive, Cond.instanceMethod yX2_isAlive, Cond.selects RX2 yX2_isAlive yX2_isAlive, Cond.code yX2_isAlive cX2_isAlive 2 (some .boolean), Cond.fieldLink RX2 9 "ChordOverlay" "lives" "[Z", Cond.methodLink RX2 190 yX0_onward, Cond.static yX0_onward, Cond.initialized RX0, Cond.code yX0_onward cX0_onward 2 (some .int)]
def wsX2_countWrongPointersOf_r2 : List Cond := [Cond.methodLink RX2 133 yX2_firstLivingUpFrom, Cond.instanceMethod yX2_firstLivingUpFrom, Cond.selects RX2 yX2_firstLivingUpFrom yX2_firstLivingUpFrom, Cond.code yX2_firstLivingUpFrom cX2_firstLivingUpFrom 4 (some .int), Cond.methodLink RX2 196 yX2_firstLivingDownFrom, Cond.instanceMethod yX2_firstLivingDownFrom, Cond.selects RX2 yX2_firstLivingDownFrom yX2_firstLivingDownFrom, Cond.code yX2_firstLivingDownFrom cX2_firstLivingDownFrom 4 (some .int), Cond.methodLink RX2 175 yX0_fingerStart, Cond.static yX0_fingerStart, Cond.code yX0_fingerStart cX0_fingerStart 2 (some .int), Cond.methodLink RX0 11 yX0_onward]
def wsX2_countWrongPointersOf : List Cond := .code yX2_countWrongPointersOf cX2_countWrongPointersOf 4 (some .int) :: ((wsX2_countWrongPointersOf_r1 ++ wsX2_countWrongPointersOf_r2) ++ wsX20 ++ wsX10)
def wsX2_countWrongPointers_r1 : List Cond := [Cond.methodLink RX2 72 yX2_isAlive, Cond.instanceMethod yX2_isAlive, Cond.selects RX2 yX2_isAlive yX2_isAlive, Cond.initialized RX2, Cond.code yX2_isAlive cX2_isAlive 2 (some .boolean), Cond.fieldLink RX2 9 "ChordOverlay" "lives" "[Z", Cond.methodLink RX2 193 yX2_countWrongPointersOf, Cond.instanceMethod yX2_countWrongPointersOf, Cond.selects RX2 yX2_countWrongPointersOf yX2_countWrongPointersOf, Cond.code yX2_countWrongPointersOf cX2_countWrongPointersOf 4 (some .int), Cond.fieldLink RX2 22 "ChordOverlay" "predecessors" "LChordOverlay$Table;", Cond.fieldLink RX2 25 "ChordOverlay" "fingers" "LChordOverlay$Table;", Cond.methodLink RX2 91 yX2_firstLivingSuccessor, Cond.instanceMethod yX2_firstLivingSuccessor, Cond.selects RX2 yX2_firstLivingSuccessor yX2_firstLivingSuccessor, Cond.code yX2_firstLivingSuccessor cX2_firstLivingSuccessor 4 (some .int), Cond.fieldLink RX2 18 "ChordOverlay" "successors" "LChordOverlay$Table;", Cond.methodLink RX2 85 yX1_at, Cond.instanceMethod yX1_at, Cond.selects RX1 yX1_at yX1_at, Cond.initialized RX1, Cond.code yX1_at cX1_at 4 (some .int), Cond.fieldLink RX1 18 "ChordOverlay$Table" "width" "I", Cond.fieldLink RX1 24 "ChordOverlay$Table" "cells" "[I"]
def wsX2_countWrongPointers_r2 : List Cond := [Cond.methodLink RX2 190 yX0_onward, Cond.static yX0_onward, Cond.initialized RX0, Cond.code yX0_onward cX0_onward 2 (some .int), Cond.methodLink RX2 133 yX2_firstLivingUpFrom, Cond.instanceMethod yX2_firstLivingUpFrom, Cond.selects RX2 yX2_firstLivingUpFrom yX2_firstLivingUpFrom, Cond.code yX2_firstLivingUpFrom cX2_firstLivingUpFrom 4 (some .int), Cond.methodLink RX2 196 yX2_firstLivingDownFrom, Cond.instanceMethod yX2_firstLivingDownFrom, Cond.selects RX2 yX2_firstLivingDownFrom yX2_firstLivingDownFrom, Cond.code yX2_firstLivingDownFrom cX2_firstLivingDownFrom 4 (some .int), Cond.methodLink RX2 175 yX0_fingerStart, Cond.static yX0_fingerStart, Cond.code yX0_fingerStart cX0_fingerStart 2 (some .int), Cond.methodLink RX0 11 yX0_onward]
def wsX2_countWrongPointers : List Cond := .code yX2_countWrongPointers cX2_countWrongPointers 3 (some .int) :: ((wsX2_countWrongPointers_r1 ++ wsX2_countWrongPointers_r2) ++ wsX20 ++ wsX10)
def wsX2_goRounds_r1 : List Cond := [Cond.methodLink RX2 99 yX2_requireRange, Cond.static yX2_requireRange, Cond.initialized RX2, Cond.code yX2_requireRange cX2_requireRange 3 none, Cond.classLink RX2 142 "java/lang/IllegalArgumentException", Cond.initialized "java/lang/IllegalArgumentException", Cond.methodLink RX2 115 yX2_letRoundGoBy, Cond.instanceMethod yX2_letRoundGoBy, Cond.selects RX2 yX2_letRoundGoBy yX2_letRoundGoBy, Cond.code yX2_letRoundGoBy cX2_letRoundGoBy 3 none, Cond.methodLink RX2 72 yX2_isAlive, Cond.instanceMethod yX2_isAlive, Cond.selects RX2 yX2_isAlive yX2_isAlive, Cond.code yX2_isAlive cX2_isAlive 2 (some .boolean), Cond.fieldLink RX2 9 "ChordOverlay" "lives" "[Z", Cond.methodLink RX2 103 yX2_dropDeadPredecessor, Cond.instanceMethod yX2_dropDeadPredecessor, Cond.selects RX2 yX2_dropDeadPredecessor yX2_dropDeadPredecessor, Cond.code yX2_dropDeadPredecessor cX2_dropDeadPredecessor 2 none, Cond.fieldLink RX2 22 "ChordOverlay" "predecessors" "LChordOverlay$Table;", Cond.methodLink RX2 85 yX1_at, Cond.instanceMethod yX1_at, Cond.selects RX1 yX1_at yX1_at, Cond.initialized RX1]
def wsX2_goRounds_r2 : List Cond := [Cond.code yX1_at cX1_at 4 (some .int), Cond.fieldLink RX1 18 "ChordOverlay$Table" "width" "I", Cond.fieldLink RX1 24 "ChordOverlay$Table" "cells" "[I", Cond.methodLink RX2 127 yX1_set, Cond.instanceMethod yX1_set, Cond.selects RX1 yX1_set yX1_set, Cond.code yX1_set cX1_set 5 none, Cond.methodLink RX2 106 yX2_mendSuccessors, Cond.instanceMethod yX2_mendSuccessors, Cond.selects RX2 yX2_mendSuccessors yX2_mendSuccessors, Cond.code yX2_mendSuccessors cX2_mendSuccessors 4 none, Cond.methodLink RX2 91 yX2_firstLivingSuccessor, Cond.instanceMethod yX2_firstLivingSuccessor, Cond.selects RX2 yX2_firstLivingSuccessor yX2_firstLivingSuccessor, Cond.code yX2_firstLivingSuccessor cX2_firstLivingSuccessor 4 (some .int), Cond.fieldLink RX2 18 "ChordOverlay" "successors" "LChordOverlay$Table;", Cond.methodLink RX2 166 yX0_isBetween, Cond.static yX0_isBetween, Cond.initialized RX0, Cond.code yX0_isBetween cX0_isBetween 3 (some .boolean), Cond.methodLink RX2 163 yX2_follow, Cond.instanceMethod yX2_follow, Cond.selects RX2 yX2_follow yX2_follow, Cond.code yX2_follow cX2_follow 5 none]
def wsX2_goRounds_r3 : List Cond := [Cond.methodLink RX2 149 yX2_setSuccessors, Cond.instanceMethod yX2_setSuccessors, Cond.selects RX2 yX2_setSuccessors yX2_setSuccessors, Cond.code yX2_setSuccessors cX2_setSuccessors 5 none, Cond.methodLink RX2 172 yX2_notifyOf, Cond.instanceMethod yX2_notifyOf, Cond.selects RX2 yX2_notifyOf yX2_notifyOf, Cond.code yX2_notifyOf cX2_notifyOf 4 none, Cond.methodLink RX2 109 yX2_renewFingers, Cond.instanceMethod yX2_renewFingers, Cond.selects RX2 yX2_renewFingers yX2_renewFingers, Cond.code yX2_renewFingers cX2_renewFingers 5 (some .int), Cond.fieldLink RX2 25 "ChordOverlay" "fingers" "LChordOverlay$Table;", Cond.methodLink RX2 175 yX0_fingerStart, Cond.static yX0_fingerStart, Cond.code yX0_fingerStart cX0_fingerStart 2 (some .int), Cond.methodLink RX0 11 yX0_onward, Cond.static yX0_onward, Cond.code yX0_onward cX0_onward 2 (some .int), Cond.methodLink RX2 81 yX2_find, Cond.instanceMethod yX2_find, Cond.selects RX2 yX2_find yX2_find, Cond.code yX2_find cX2_find 6 (some .int), Cond.fieldLink RX2 38 "ChordOverlay" "route" "[I"]
def wsX2_goRounds_r4 : List Cond := [Cond.fieldLink RX2 42 "ChordOverlay" "routeHops" "I", Cond.methodLink RX2 181 yX0_isUpTo, Cond.static yX0_isUpTo, Cond.code yX0_isUpTo cX0_isUpTo 3 (some .boolean), Cond.methodLink RX2 184 yX2_hopTowards, Cond.instanceMethod yX2_hopTowards, Cond.selects RX2 yX2_hopTowards yX2_hopTowards, Cond.code yX2_hopTowards cX2_hopTowards 6 (some .int), Cond.methodLink RX2 112 yX2_spreadValues, Cond.instanceMethod yX2_spreadValues, Cond.selects RX2 yX2_spreadValues yX2_spreadValues, Cond.code yX2_spreadValues cX2_spreadValues 4 (some .int), Cond.fieldLink RX2 28 "ChordOverlay" "values" "LChordOverlay$Table;", Cond.methodLink RX2 178 yX2_spreadValue, Cond.instanceMethod yX2_spreadValue, Cond.selects RX2 yX2_spreadValue yX2_spreadValue, Cond.code yX2_spreadValue cX2_spreadValue 4 (some .int), Cond.methodLink RX2 159 yX2_giveCopy, Cond.instanceMethod yX2_giveCopy, Cond.selects RX2 yX2_giveCopy yX2_giveCopy, Cond.code yX2_giveCopy cX2_giveCopy 5 (some .int), Cond.fieldLink RX2 31 "ChordOverlay" "stamps" "LChordOverlay$Table;", Cond.methodLink RX2 130 yX2_copyToHeirs, Cond.instanceMethod yX2_copyToHeirs]
def wsX2_goRounds_r5 : List Cond := [Cond.selects RX2 yX2_copyToHeirs yX2_copyToHeirs, Cond.code yX2_copyToHeirs cX2_copyToHeirs 6 (some .int), Cond.methodLink RX2 187 yX2_firstHeir, Cond.instanceMethod yX2_firstHeir, Cond.selects RX2 yX2_firstHeir yX2_firstHeir, Cond.code yX2_firstHeir cX2_firstHeir 5 (some .int), Cond.methodLink RX2 119 yX2_countWrongPointers, Cond.instanceMethod yX2_countWrongPointers, Cond.selects RX2 yX2_countWrongPointers yX2_countWrongPointers, Cond.code yX2_countWrongPointers cX2_countWrongPointers 3 (some .int), Cond.methodLink RX2 193 yX2_countWrongPointersOf, Cond.instanceMethod yX2_countWrongPointersOf, Cond.selects RX2 yX2_countWrongPointersOf yX2_countWrongPointersOf, Cond.code yX2_countWrongPointersOf cX2_countWrongPointersOf 4 (some .int), Cond.methodLink RX2 190 yX0_onward, Cond.methodLink RX2 133 yX2_firstLivingUpFrom, Cond.instanceMethod yX2_firstLivingUpFrom, Cond.selects RX2 yX2_firstLivingUpFrom yX2_firstLivingUpFrom, Cond.code yX2_firstLivingUpFrom cX2_firstLivingUpFrom 4 (some .int), Cond.methodLink RX2 196 yX2_firstLivingDownFrom, Cond.instanceMethod yX2_firstLivingDownFrom, Cond.selects RX2 yX2_firstLivingDownFrom yX2_firstLivingDownFrom, Cond.code yX2_firstLivingDownFrom cX2_firstLivingDownFrom 4 (some .int)]
def wsX2_goRounds : List Cond := .code yX2_goRounds cX2_goRounds 3 (some .int) :: ((wsX2_goRounds_r1 ++ (wsX2_goRounds_r2 ++ (wsX2_goRounds_r3 ++ (wsX2_goRounds_r4 ++ wsX2_goRounds_r5)))) ++ wsX20 ++ wsX10 ++ (vx_atS RX2 146 "java/lang/IllegalArgumentException" ["java/lang/RuntimeException", "java/lang/Exception"]).filter goodWord)
def wsX2_lookup_r1 : List Cond := [Cond.methodLink RX2 54 yX2_requireIdentifier, Cond.static yX2_requireIdentifier, Cond.initialized RX2, Cond.code yX2_requireIdentifier cX2_requireIdentifier 1 none, Cond.methodLink RX2 99 yX2_requireRange, Cond.static yX2_requireRange, Cond.code yX2_requireRange cX2_requireRange 3 none, Cond.classLink RX2 142 "java/lang/IllegalArgumentException", Cond.initialized "java/lang/IllegalArgumentException", Cond.methodLink RX2 78 yX2_requireAlive, Cond.instanceMethod yX2_requireAlive, Cond.selects RX2 yX2_requireAlive yX2_requireAlive, Cond.code yX2_requireAlive cX2_requireAlive 2 none, Cond.classLink RX2 61 "java/lang/IllegalStateException", Cond.initialized "java/lang/IllegalStateException", Cond.methodLink RX2 72 yX2_isAlive, Cond.instanceMethod yX2_isAlive, Cond.selects RX2 yX2_isAlive yX2_isAlive, Cond.code yX2_isAlive cX2_isAlive 2 (some .boolean), Cond.fieldLink RX2 9 "ChordOverlay" "lives" "[Z", Cond.methodLink RX2 81 yX2_find, Cond.instanceMethod yX2_find, Cond.selects RX2 yX2_find yX2_find, Cond.code yX2_find cX2_find 6 (some .int)]
def wsX2_lookup_r2 : List Cond := [Cond.fieldLink RX2 38 "ChordOverlay" "route" "[I", Cond.fieldLink RX2 42 "ChordOverlay" "routeHops" "I", Cond.methodLink RX2 91 yX2_firstLivingSuccessor, Cond.instanceMethod yX2_firstLivingSuccessor, Cond.selects RX2 yX2_firstLivingSuccessor yX2_firstLivingSuccessor, Cond.code yX2_firstLivingSuccessor cX2_firstLivingSuccessor 4 (some .int), Cond.fieldLink RX2 18 "ChordOverlay" "successors" "LChordOverlay$Table;", Cond.methodLink RX2 85 yX1_at, Cond.instanceMethod yX1_at, Cond.selects RX1 yX1_at yX1_at, Cond.initialized RX1, Cond.code yX1_at cX1_at 4 (some .int), Cond.fieldLink RX1 18 "ChordOverlay$Table" "width" "I", Cond.fieldLink RX1 24 "ChordOverlay$Table" "cells" "[I", Cond.methodLink RX2 181 yX0_isUpTo, Cond.static yX0_isUpTo, Cond.initialized RX0, Cond.code yX0_isUpTo cX0_isUpTo 3 (some .boolean), Cond.methodLink RX2 184 yX2_hopTowards, Cond.instanceMethod yX2_hopTowards, Cond.selects RX2 yX2_hopTowards yX2_hopTowards, Cond.code yX2_hopTowards cX2_hopTowards 6 (some .int), Cond.fieldLink RX2 25 "ChordOverlay" "fingers" "LChordOverlay$Table;", Cond.methodLink RX2 166 yX0_isBetween]
def wsX2_lookup_r3 : List Cond := [Cond.static yX0_isBetween, Cond.code yX0_isBetween cX0_isBetween 3 (some .boolean)]
def wsX2_lookup : List Cond := .code yX2_lookup cX2_lookup 3 (some .int) :: ((wsX2_lookup_r1 ++ (wsX2_lookup_r2 ++ wsX2_lookup_r3)) ++ wsX20 ++ wsX10 ++ (vx_atS RX2 146 "java/lang/IllegalArgumentException" ["java/lang/RuntimeException", "java/lang/Exception"]).filter goodWord ++ (vx_atS RX2 65 "java/lang/IllegalStateException" ["java/lang/RuntimeException", "java/lang/Exception"]).filter goodWord)
def wsX2_hops_r1 : List Cond := [Cond.fieldLink RX2 42 "ChordOverlay" "routeHops" "I", Cond.methodLink RX2 54 yX2_requireIdentifier, Cond.static yX2_requireIdentifier, Cond.initialized RX2, Cond.code yX2_requireIdentifier cX2_requireIdentifier 1 none, Cond.methodLink RX2 99 yX2_requireRange, Cond.static yX2_requireRange, Cond.code yX2_requireRange cX2_requireRange 3 none, Cond.classLink RX2 142 "java/lang/IllegalArgumentException", Cond.initialized "java/lang/IllegalArgumentException", Cond.methodLink RX2 78 yX2_requireAlive, Cond.instanceMethod yX2_requireAlive, Cond.selects RX2 yX2_requireAlive yX2_requireAlive, Cond.code yX2_requireAlive cX2_requireAlive 2 none, Cond.classLink RX2 61 "java/lang/IllegalStateException", Cond.initialized "java/lang/IllegalStateException", Cond.methodLink RX2 72 yX2_isAlive, Cond.instanceMethod yX2_isAlive, Cond.selects RX2 yX2_isAlive yX2_isAlive, Cond.code yX2_isAlive cX2_isAlive 2 (some .boolean), Cond.fieldLink RX2 9 "ChordOverlay" "lives" "[Z", Cond.methodLink RX2 81 yX2_find, Cond.instanceMethod yX2_find, Cond.selects RX2 yX2_find yX2_find]
def wsX2_hops_r2 : List Cond := [Cond.code yX2_find cX2_find 6 (some .int), Cond.fieldLink RX2 38 "ChordOverlay" "route" "[I", Cond.methodLink RX2 91 yX2_firstLivingSuccessor, Cond.instanceMethod yX2_firstLivingSuccessor, Cond.selects RX2 yX2_firstLivingSuccessor yX2_firstLivingSuccessor, Cond.code yX2_firstLivingSuccessor cX2_firstLivingSuccessor 4 (some .int), Cond.fieldLink RX2 18 "ChordOverlay" "successors" "LChordOverlay$Table;", Cond.methodLink RX2 85 yX1_at, Cond.instanceMethod yX1_at, Cond.selects RX1 yX1_at yX1_at, Cond.initialized RX1, Cond.code yX1_at cX1_at 4 (some .int), Cond.fieldLink RX1 18 "ChordOverlay$Table" "width" "I", Cond.fieldLink RX1 24 "ChordOverlay$Table" "cells" "[I", Cond.methodLink RX2 181 yX0_isUpTo, Cond.static yX0_isUpTo, Cond.initialized RX0, Cond.code yX0_isUpTo cX0_isUpTo 3 (some .boolean), Cond.methodLink RX2 184 yX2_hopTowards, Cond.instanceMethod yX2_hopTowards, Cond.selects RX2 yX2_hopTowards yX2_hopTowards, Cond.code yX2_hopTowards cX2_hopTowards 6 (some .int), Cond.fieldLink RX2 25 "ChordOverlay" "fingers" "LChordOverlay$Table;", Cond.methodLink RX2 166 yX0_isBetween]
def wsX2_hops_r3 : List Cond := [Cond.static yX0_isBetween, Cond.code yX0_isBetween cX0_isBetween 3 (some .boolean)]
def wsX2_hops : List Cond := .code yX2_hops cX2_hops 3 (some .int) :: ((wsX2_hops_r1 ++ (wsX2_hops_r2 ++ wsX2_hops_r3)) ++ wsX20 ++ wsX10 ++ (vx_atS RX2 146 "java/lang/IllegalArgumentException" ["java/lang/RuntimeException", "java/lang/Exception"]).filter goodWord ++ (vx_atS RX2 65 "java/lang/IllegalStateException" ["java/lang/RuntimeException", "java/lang/Exception"]).filter goodWord)
def wsX2_hopAt_r1 : List Cond := [Cond.classLink RX2 122 "java/lang/IndexOutOfBoundsException", Cond.initialized "java/lang/IndexOutOfBoundsException", Cond.fieldLink RX2 42 "ChordOverlay" "routeHops" "I", Cond.fieldLink RX2 38 "ChordOverlay" "route" "[I", Cond.methodLink RX2 54 yX2_requireIdentifier, Cond.static yX2_requireIdentifier, Cond.initialized RX2, Cond.code yX2_requireIdentifier cX2_requireIdentifier 1 none, Cond.methodLink RX2 99 yX2_requireRange, Cond.static yX2_requireRange, Cond.code yX2_requireRange cX2_requireRange 3 none, Cond.classLink RX2 142 "java/lang/IllegalArgumentException", Cond.initialized "java/lang/IllegalArgumentException", Cond.methodLink RX2 78 yX2_requireAlive, Cond.instanceMethod yX2_requireAlive, Cond.selects RX2 yX2_requireAlive yX2_requireAlive, Cond.code yX2_requireAlive cX2_requireAlive 2 none, Cond.classLink RX2 61 "java/lang/IllegalStateException", Cond.initialized "java/lang/IllegalStateException", Cond.methodLink RX2 72 yX2_isAlive, Cond.instanceMethod yX2_isAlive, Cond.selects RX2 yX2_isAlive yX2_isAlive, Cond.code yX2_isAlive cX2_isAlive 2 (some .boolean), Cond.fieldLink RX2 9 "ChordOverlay" "lives" "[Z"]
def wsX2_hopAt_r2 : List Cond := [Cond.methodLink RX2 81 yX2_find, Cond.instanceMethod yX2_find, Cond.selects RX2 yX2_find yX2_find, Cond.code yX2_find cX2_find 6 (some .int), Cond.methodLink RX2 91 yX2_firstLivingSuccessor, Cond.instanceMethod yX2_firstLivingSuccessor, Cond.selects RX2 yX2_firstLivingSuccessor yX2_firstLivingSuccessor, Cond.code yX2_firstLivingSuccessor cX2_firstLivingSuccessor 4 (some .int), Cond.fieldLink RX2 18 "ChordOverlay" "successors" "LChordOverlay$Table;", Cond.methodLink RX2 85 yX1_at, Cond.instanceMethod yX1_at, Cond.selects RX1 yX1_at yX1_at, Cond.initialized RX1, Cond.code yX1_at cX1_at 4 (some .int), Cond.fieldLink RX1 18 "ChordOverlay$Table" "width" "I", Cond.fieldLink RX1 24 "ChordOverlay$Table" "cells" "[I", Cond.methodLink RX2 181 yX0_isUpTo, Cond.static yX0_isUpTo, Cond.initialized RX0, Cond.code yX0_isUpTo cX0_isUpTo 3 (some .boolean), Cond.methodLink RX2 184 yX2_hopTowards, Cond.instanceMethod yX2_hopTowards, Cond.selects RX2 yX2_hopTowards yX2_hopTowards, Cond.code yX2_hopTowards cX2_hopTowards 6 (some .int)]
def wsX2_hopAt_r3 : List Cond := [Cond.fieldLink RX2 25 "ChordOverlay" "fingers" "LChordOverlay$Table;", Cond.methodLink RX2 166 yX0_isBetween, Cond.static yX0_isBetween, Cond.code yX0_isBetween cX0_isBetween 3 (some .boolean)]
def wsX2_hopAt : List Cond := .code yX2_hopAt cX2_hopAt 4 (some .int) :: ((wsX2_hopAt_r1 ++ (wsX2_hopAt_r2 ++ wsX2_hopAt_r3)) ++ wsX20 ++ wsX10 ++ (vx_atS RX2 126 "java/lang/IndexOutOfBoundsException" ["java/lang/RuntimeException", "java/lang/Exception"]).filter goodWord ++ (vx_atS RX2 146 "java/lang/IllegalArgumentException" ["java/lang/RuntimeException", "java/lang/Exception"]).filter goodWord ++ (vx_atS RX2 65 "java/lang/IllegalStateException" ["java/lang/RuntimeException", "java/lang/Exception"]).filter goodWord)
def wsX2_put_r1 : List Cond := [Cond.fieldLink RX2 34 "ChordOverlay" "lastStamp" "I", Cond.fieldLink RX2 28 "ChordOverlay" "values" "LChordOverlay$Table;", Cond.fieldLink RX2 31 "ChordOverlay" "stamps" "LChordOverlay$Table;", Cond.methodLink RX2 54 yX2_requireIdentifier, Cond.static yX2_requireIdentifier, Cond.initialized RX2, Cond.code yX2_requireIdentifier cX2_requireIdentifier 1 none, Cond.methodLink RX2 99 yX2_requireRange, Cond.static yX2_requireRange, Cond.code yX2_requireRange cX2_requireRange 3 none, Cond.classLink RX2 142 "java/lang/IllegalArgumentException", Cond.initialized "java/lang/IllegalArgumentException", Cond.methodLink RX2 78 yX2_requireAlive, Cond.instanceMethod yX2_requireAlive, Cond.selects RX2 yX2_requireAlive yX2_requireAlive, Cond.code yX2_requireAlive cX2_requireAlive 2 none, Cond.classLink RX2 61 "java/lang/IllegalStateException", Cond.initialized "java/lang/IllegalStateException", Cond.methodLink RX2 72 yX2_isAlive, Cond.instanceMethod yX2_isAlive, Cond.selects RX2 yX2_isAlive yX2_isAlive, Cond.code yX2_isAlive cX2_isAlive 2 (some .boolean), Cond.fieldLink RX2 9 "ChordOverlay" "lives" "[Z", Cond.methodLink RX2 81 yX2_find]
def wsX2_put_r2 : List Cond := [Cond.instanceMethod yX2_find, Cond.selects RX2 yX2_find yX2_find, Cond.code yX2_find cX2_find 6 (some .int), Cond.fieldLink RX2 38 "ChordOverlay" "route" "[I", Cond.fieldLink RX2 42 "ChordOverlay" "routeHops" "I", Cond.methodLink RX2 91 yX2_firstLivingSuccessor, Cond.instanceMethod yX2_firstLivingSuccessor, Cond.selects RX2 yX2_firstLivingSuccessor yX2_firstLivingSuccessor, Cond.code yX2_firstLivingSuccessor cX2_firstLivingSuccessor 4 (some .int), Cond.fieldLink RX2 18 "ChordOverlay" "successors" "LChordOverlay$Table;", Cond.methodLink RX2 85 yX1_at, Cond.instanceMethod yX1_at, Cond.selects RX1 yX1_at yX1_at, Cond.initialized RX1, Cond.code yX1_at cX1_at 4 (some .int), Cond.fieldLink RX1 18 "ChordOverlay$Table" "width" "I", Cond.fieldLink RX1 24 "ChordOverlay$Table" "cells" "[I", Cond.methodLink RX2 181 yX0_isUpTo, Cond.static yX0_isUpTo, Cond.initialized RX0, Cond.code yX0_isUpTo cX0_isUpTo 3 (some .boolean), Cond.methodLink RX2 184 yX2_hopTowards, Cond.instanceMethod yX2_hopTowards, Cond.selects RX2 yX2_hopTowards yX2_hopTowards]
def wsX2_put_r3 : List Cond := [Cond.code yX2_hopTowards cX2_hopTowards 6 (some .int), Cond.fieldLink RX2 25 "ChordOverlay" "fingers" "LChordOverlay$Table;", Cond.methodLink RX2 166 yX0_isBetween, Cond.static yX0_isBetween, Cond.code yX0_isBetween cX0_isBetween 3 (some .boolean), Cond.methodLink RX2 127 yX1_set, Cond.instanceMethod yX1_set, Cond.selects RX1 yX1_set yX1_set, Cond.code yX1_set cX1_set 5 none, Cond.methodLink RX2 130 yX2_copyToHeirs, Cond.instanceMethod yX2_copyToHeirs, Cond.selects RX2 yX2_copyToHeirs yX2_copyToHeirs, Cond.code yX2_copyToHeirs cX2_copyToHeirs 6 (some .int), Cond.methodLink RX2 187 yX2_firstHeir, Cond.instanceMethod yX2_firstHeir, Cond.selects RX2 yX2_firstHeir yX2_firstHeir, Cond.code yX2_firstHeir cX2_firstHeir 5 (some .int), Cond.methodLink RX2 159 yX2_giveCopy, Cond.instanceMethod yX2_giveCopy, Cond.selects RX2 yX2_giveCopy yX2_giveCopy, Cond.code yX2_giveCopy cX2_giveCopy 5 (some .int)]
def wsX2_put : List Cond := .code yX2_put cX2_put 5 (some .int) :: ((wsX2_put_r1 ++ (wsX2_put_r2 ++ wsX2_put_r3)) ++ wsX20 ++ wsX10 ++ (vx_atS RX2 146 "java/lang/IllegalArgumentException" ["java/lang/RuntimeException", "java/lang/Exception"]).filter goodWord ++ (vx_atS RX2 65 "java/lang/IllegalStateException" ["java/lang/RuntimeException", "java/lang/Exception"]).filter goodWord)
def wsX2_get_r1 : List Cond := [Cond.fieldLink RX2 28 "ChordOverlay" "values" "LChordOverlay$Table;", Cond.methodLink RX2 54 yX2_requireIdentifier, Cond.static yX2_requireIdentifier, Cond.initialized RX2, Cond.code yX2_requireIdentifier cX2_requireIdentifier 1 none, Cond.methodLink RX2 99 yX2_requireRange, Cond.static yX2_requireRange, Cond.code yX2_requireRange cX2_requireRange 3 none, Cond.classLink RX2 142 "java/lang/IllegalArgumentException", Cond.initialized "java/lang/IllegalArgumentException", Cond.methodLink RX2 78 yX2_requireAlive, Cond.instanceMethod yX2_requireAlive, Cond.selects RX2 yX2_requireAlive yX2_requireAlive, Cond.code yX2_requireAlive cX2_requireAlive 2 none, Cond.classLink RX2 61 "java/lang/IllegalStateException", Cond.initialized "java/lang/IllegalStateException", Cond.methodLink RX2 72 yX2_isAlive, Cond.instanceMethod yX2_isAlive, Cond.selects RX2 yX2_isAlive yX2_isAlive, Cond.code yX2_isAlive cX2_isAlive 2 (some .boolean), Cond.fieldLink RX2 9 "ChordOverlay" "lives" "[Z", Cond.methodLink RX2 81 yX2_find, Cond.instanceMethod yX2_find, Cond.selects RX2 yX2_find yX2_find]
def wsX2_get_r2 : List Cond := [Cond.code yX2_find cX2_find 6 (some .int), Cond.fieldLink RX2 38 "ChordOverlay" "route" "[I", Cond.fieldLink RX2 42 "ChordOverlay" "routeHops" "I", Cond.methodLink RX2 91 yX2_firstLivingSuccessor, Cond.instanceMethod yX2_firstLivingSuccessor, Cond.selects RX2 yX2_firstLivingSuccessor yX2_firstLivingSuccessor, Cond.code yX2_firstLivingSuccessor cX2_firstLivingSuccessor 4 (some .int), Cond.fieldLink RX2 18 "ChordOverlay" "successors" "LChordOverlay$Table;", Cond.methodLink RX2 85 yX1_at, Cond.instanceMethod yX1_at, Cond.selects RX1 yX1_at yX1_at, Cond.initialized RX1, Cond.code yX1_at cX1_at 4 (some .int), Cond.fieldLink RX1 18 "ChordOverlay$Table" "width" "I", Cond.fieldLink RX1 24 "ChordOverlay$Table" "cells" "[I", Cond.methodLink RX2 181 yX0_isUpTo, Cond.static yX0_isUpTo, Cond.initialized RX0, Cond.code yX0_isUpTo cX0_isUpTo 3 (some .boolean), Cond.methodLink RX2 184 yX2_hopTowards, Cond.instanceMethod yX2_hopTowards, Cond.selects RX2 yX2_hopTowards yX2_hopTowards, Cond.code yX2_hopTowards cX2_hopTowards 6 (some .int), Cond.fieldLink RX2 25 "ChordOverlay" "fingers" "LChordOverlay$Table;"]
def wsX2_get_r3 : List Cond := [Cond.methodLink RX2 166 yX0_isBetween, Cond.static yX0_isBetween, Cond.code yX0_isBetween cX0_isBetween 3 (some .boolean)]
def wsX2_get : List Cond := .code yX2_get cX2_get 3 (some .int) :: ((wsX2_get_r1 ++ (wsX2_get_r2 ++ wsX2_get_r3)) ++ wsX20 ++ wsX10 ++ (vx_atS RX2 146 "java/lang/IllegalArgumentException" ["java/lang/RuntimeException", "java/lang/Exception"]).filter goodWord ++ (vx_atS RX2 65 "java/lang/IllegalStateException" ["java/lang/RuntimeException", "java/lang/Exception"]).filter goodWord)
def wsX2_kept_r1 : List Cond := [Cond.fieldLink RX2 28 "ChordOverlay" "values" "LChordOverlay$Table;", Cond.methodLink RX2 54 yX2_requireIdentifier, Cond.static yX2_requireIdentifier, Cond.initialized RX2, Cond.code yX2_requireIdentifier cX2_requireIdentifier 1 none, Cond.methodLink RX2 99 yX2_requireRange, Cond.static yX2_requireRange, Cond.code yX2_requireRange cX2_requireRange 3 none, Cond.classLink RX2 142 "java/lang/IllegalArgumentException", Cond.initialized "java/lang/IllegalArgumentException", Cond.methodLink RX2 78 yX2_requireAlive, Cond.instanceMethod yX2_requireAlive, Cond.selects RX2 yX2_requireAlive yX2_requireAlive, Cond.code yX2_requireAlive cX2_requireAlive 2 none, Cond.classLink RX2 61 "java/lang/IllegalStateException", Cond.initialized "java/lang/IllegalStateException", Cond.methodLink RX2 72 yX2_isAlive, Cond.instanceMethod yX2_isAlive, Cond.selects RX2 yX2_isAlive yX2_isAlive, Cond.code yX2_isAlive cX2_isAlive 2 (some .boolean), Cond.fieldLink RX2 9 "ChordOverlay" "lives" "[Z", Cond.methodLink RX2 85 yX1_at, Cond.instanceMethod yX1_at, Cond.selects RX1 yX1_at yX1_at]
def wsX2_kept_r2 : List Cond := [Cond.initialized RX1, Cond.code yX1_at cX1_at 4 (some .int), Cond.fieldLink RX1 18 "ChordOverlay$Table" "width" "I", Cond.fieldLink RX1 24 "ChordOverlay$Table" "cells" "[I"]
def wsX2_kept : List Cond := .code yX2_kept cX2_kept 3 (some .int) :: ((wsX2_kept_r1 ++ wsX2_kept_r2) ++ wsX20 ++ wsX10 ++ (vx_atS RX2 146 "java/lang/IllegalArgumentException" ["java/lang/RuntimeException", "java/lang/Exception"]).filter goodWord ++ (vx_atS RX2 65 "java/lang/IllegalStateException" ["java/lang/RuntimeException", "java/lang/Exception"]).filter goodWord)
def wsX2_keepers : List Cond := .code yX2_keepers cX2_keepers 4 (some .int) :: ([.fieldLink RX2 28 "ChordOverlay" "values" "LChordOverlay$Table;", .methodLink RX2 54 yX2_requireIdentifier, .static yX2_requireIdentifier, .initialized RX2, .code yX2_requireIdentifier cX2_requireIdentifier 1 none, .methodLink RX2 99 yX2_requireRange, .static yX2_requireRange, .code yX2_requireRange cX2_requireRange 3 none, .classLink RX2 142 "java/lang/IllegalArgumentException", .initialized "java/lang/IllegalArgumentException", .methodLink RX2 72 yX2_isAlive, .instanceMethod yX2_isAlive, .selects RX2 yX2_isAlive yX2_isAlive, .code yX2_isAlive cX2_isAlive 2 (some .boolean), .fieldLink RX2 9 "ChordOverlay" "lives" "[Z", .methodLink RX2 85 yX1_at, .instanceMethod yX1_at, .selects RX1 yX1_at yX1_at, .initialized RX1, .code yX1_at cX1_at 4 (some .int), .fieldLink RX1 18 "ChordOverlay$Table" "width" "I", .fieldLink RX1 24 "ChordOverlay$Table" "cells" "[I"] ++ wsX20 ++ wsX10 ++ (vx_atS RX2 146 "java/lang/IllegalArgumentException" ["java/lang/RuntimeException", "java/lang/Exception"]).filter goodWord)
def wsX2_owner : List Cond := .code yX2_owner cX2_owner 2 (some .int) :: ([.methodLink RX2 54 yX2_requireIdentifier, .static yX2_requireIdentifier, .initialized RX2, .code yX2_requireIdentifier cX2_requireIdentifier 1 none, .methodLink RX2 99 yX2_requireRange, .static yX2_requireRange, .code yX2_requireRange cX2_requireRange 3 none, .classLink RX2 142 "java/lang/IllegalArgumentException", .initialized "java/lang/IllegalArgumentException", .methodLink RX2 133 yX2_firstLivingUpFrom, .instanceMethod yX2_firstLivingUpFrom, .selects RX2 yX2_firstLivingUpFrom yX2_firstLivingUpFrom, .code yX2_firstLivingUpFrom cX2_firstLivingUpFrom 4 (some .int), .methodLink RX2 190 yX0_onward, .static yX0_onward, .initialized RX0, .code yX0_onward cX0_onward 2 (some .int), .methodLink RX2 72 yX2_isAlive, .instanceMethod yX2_isAlive, .selects RX2 yX2_isAlive yX2_isAlive, .code yX2_isAlive cX2_isAlive 2 (some .boolean), .fieldLink RX2 9 "ChordOverlay" "lives" "[Z"] ++ wsX20 ++ (vx_atS RX2 146 "java/lang/IllegalArgumentException" ["java/lang/RuntimeException", "java/lang/Exception"]).filter goodWord)
def wsX2_wrongPointers_r1 : List Cond := [Cond.methodLink RX2 119 yX2_countWrongPointers, Cond.instanceMethod yX2_countWrongPointers, Cond.selects RX2 yX2_countWrongPointers yX2_countWrongPointers, Cond.initialized RX2, Cond.code yX2_countWrongPointers cX2_countWrongPointers 3 (some .int), Cond.methodLink RX2 72 yX2_isAlive, Cond.instanceMethod yX2_isAlive, Cond.selects RX2 yX2_isAlive yX2_isAlive, Cond.code yX2_isAlive cX2_isAlive 2 (some .boolean), Cond.fieldLink RX2 9 "ChordOverlay" "lives" "[Z", Cond.methodLink RX2 193 yX2_countWrongPointersOf, Cond.instanceMethod yX2_countWrongPointersOf, Cond.selects RX2 yX2_countWrongPointersOf yX2_countWrongPointersOf, Cond.code yX2_countWrongPointersOf cX2_countWrongPointersOf 4 (some .int), Cond.fieldLink RX2 22 "ChordOverlay" "predecessors" "LChordOverlay$Table;", Cond.fieldLink RX2 25 "ChordOverlay" "fingers" "LChordOverlay$Table;", Cond.methodLink RX2 91 yX2_firstLivingSuccessor, Cond.instanceMethod yX2_firstLivingSuccessor, Cond.selects RX2 yX2_firstLivingSuccessor yX2_firstLivingSuccessor, Cond.code yX2_firstLivingSuccessor cX2_firstLivingSuccessor 4 (some .int), Cond.fieldLink RX2 18 "ChordOverlay" "successors" "LChordOverlay$Table;", Cond.methodLink RX2 85 yX1_at, Cond.instanceMethod yX1_at, Cond.selects RX1 yX1_at yX1_at]
def wsX2_wrongPointers_r2 : List Cond := [Cond.initialized RX1, Cond.code yX1_at cX1_at 4 (some .int), Cond.fieldLink RX1 18 "ChordOverlay$Table" "width" "I", Cond.fieldLink RX1 24 "ChordOverlay$Table" "cells" "[I", Cond.methodLink RX2 190 yX0_onward, Cond.static yX0_onward, Cond.initialized RX0, Cond.code yX0_onward cX0_onward 2 (some .int), Cond.methodLink RX2 133 yX2_firstLivingUpFrom, Cond.instanceMethod yX2_firstLivingUpFrom, Cond.selects RX2 yX2_firstLivingUpFrom yX2_firstLivingUpFrom, Cond.code yX2_firstLivingUpFrom cX2_firstLivingUpFrom 4 (some .int), Cond.methodLink RX2 196 yX2_firstLivingDownFrom, Cond.instanceMethod yX2_firstLivingDownFrom, Cond.selects RX2 yX2_firstLivingDownFrom yX2_firstLivingDownFrom, Cond.code yX2_firstLivingDownFrom cX2_firstLivingDownFrom 4 (some .int), Cond.methodLink RX2 175 yX0_fingerStart, Cond.static yX0_fingerStart, Cond.code yX0_fingerStart cX0_fingerStart 2 (some .int), Cond.methodLink RX0 11 yX0_onward]
def wsX2_wrongPointers : List Cond := .code yX2_wrongPointers cX2_wrongPointers 1 (some .int) :: ((wsX2_wrongPointers_r1 ++ wsX2_wrongPointers_r2) ++ wsX20 ++ wsX10)
def wsX2_layPointersAside : List Cond := .code yX2_layPointersAside cX2_layPointersAside 1 none :: ([.fieldLink RX2 45 "ChordOverlay" "asideSuccessors" "LChordOverlay$Table;", .fieldLink RX2 18 "ChordOverlay" "successors" "LChordOverlay$Table;", .fieldLink RX2 48 "ChordOverlay" "asidePredecessors" "LChordOverlay$Table;", .fieldLink RX2 22 "ChordOverlay" "predecessors" "LChordOverlay$Table;", .fieldLink RX2 51 "ChordOverlay" "asideFingers" "LChordOverlay$Table;", .fieldLink RX2 25 "ChordOverlay" "fingers" "LChordOverlay$Table;", .methodLink RX2 199 yX1_copyFrom, .instanceMethod yX1_copyFrom, .selects RX1 yX1_copyFrom yX1_copyFrom, .initialized RX1, .code yX1_copyFrom cX1_copyFrom 2 none, .fieldLink RX1 24 "ChordOverlay$Table" "cells" "[I", .methodLink RX1 9 Lib.Math.min.name, .static Lib.Math.min.name, .initialized "java/lang/Math", .code Lib.Math.min.name Lib.Math.min.code 2 (some .int), .methodLink RX1 38 arraycopyName, .native arraycopyName, .static arraycopyName, .initialized "java/lang/System"] ++ wsX20 ++ wsX10)
def wsX2_takePointersBack : List Cond := .code yX2_takePointersBack cX2_takePointersBack 1 none :: ([.fieldLink RX2 18 "ChordOverlay" "successors" "LChordOverlay$Table;", .fieldLink RX2 45 "ChordOverlay" "asideSuccessors" "LChordOverlay$Table;", .fieldLink RX2 22 "ChordOverlay" "predecessors" "LChordOverlay$Table;", .fieldLink RX2 48 "ChordOverlay" "asidePredecessors" "LChordOverlay$Table;", .fieldLink RX2 25 "ChordOverlay" "fingers" "LChordOverlay$Table;", .fieldLink RX2 51 "ChordOverlay" "asideFingers" "LChordOverlay$Table;", .methodLink RX2 199 yX1_copyFrom, .instanceMethod yX1_copyFrom, .selects RX1 yX1_copyFrom yX1_copyFrom, .initialized RX1, .code yX1_copyFrom cX1_copyFrom 2 none, .fieldLink RX1 24 "ChordOverlay$Table" "cells" "[I", .methodLink RX1 9 Lib.Math.min.name, .static Lib.Math.min.name, .initialized "java/lang/Math", .code Lib.Math.min.name Lib.Math.min.code 2 (some .int), .methodLink RX1 38 arraycopyName, .native arraycopyName, .static arraycopyName, .initialized "java/lang/System"] ++ wsX20 ++ wsX10)
def wsX2_roundsToRight_r1 : List Cond := [Cond.methodLink RX2 99 yX2_requireRange, Cond.static yX2_requireRange, Cond.initialized RX2, Cond.code yX2_requireRange cX2_requireRange 3 none, Cond.classLink RX2 142 "java/lang/IllegalArgumentException", Cond.initialized "java/lang/IllegalArgumentException", Cond.methodLink RX2 136 yX2_layPointersAside, Cond.instanceMethod yX2_layPointersAside, Cond.selects RX2 yX2_layPointersAside yX2_layPointersAside, Cond.code yX2_layPointersAside cX2_layPointersAside 1 none, Cond.fieldLink RX2 45 "ChordOverlay" "asideSuccessors" "LChordOverlay$Table;", Cond.fieldLink RX2 18 "ChordOverlay" "successors" "LChordOverlay$Table;", Cond.fieldLink RX2 48 "ChordOverlay" "asidePredecessors" "LChordOverlay$Table;", Cond.fieldLink RX2 22 "ChordOverlay" "predecessors" "LChordOverlay$Table;", Cond.fieldLink RX2 51 "ChordOverlay" "asideFingers" "LChordOverlay$Table;", Cond.fieldLink RX2 25 "ChordOverlay" "fingers" "LChordOverlay$Table;", Cond.methodLink RX2 199 yX1_copyFrom, Cond.instanceMethod yX1_copyFrom, Cond.selects RX1 yX1_copyFrom yX1_copyFrom, Cond.initialized RX1, Cond.code yX1_copyFrom cX1_copyFrom 2 none, Cond.fieldLink RX1 24 "ChordOverlay$Table" "cells" "[I", Cond.methodLink RX1 9 Lib.Math.min.name, Cond.static Lib.Math.min.name]
def wsX2_roundsToRight_r2 : List Cond := [Cond.initialized "java/lang/Math", Cond.code Lib.Math.min.name Lib.Math.min.code 2 (some .int), Cond.methodLink RX1 38 arraycopyName, Cond.native arraycopyName, Cond.static arraycopyName, Cond.initialized "java/lang/System", Cond.methodLink RX2 119 yX2_countWrongPointers, Cond.instanceMethod yX2_countWrongPointers, Cond.selects RX2 yX2_countWrongPointers yX2_countWrongPointers, Cond.code yX2_countWrongPointers cX2_countWrongPointers 3 (some .int), Cond.methodLink RX2 72 yX2_isAlive, Cond.instanceMethod yX2_isAlive, Cond.selects RX2 yX2_isAlive yX2_isAlive, Cond.code yX2_isAlive cX2_isAlive 2 (some .boolean), Cond.fieldLink RX2 9 "ChordOverlay" "lives" "[Z", Cond.methodLink RX2 193 yX2_countWrongPointersOf, Cond.instanceMethod yX2_countWrongPointersOf, Cond.selects RX2 yX2_countWrongPointersOf yX2_countWrongPointersOf, Cond.code yX2_countWrongPointersOf cX2_countWrongPointersOf 4 (some .int), Cond.methodLink RX2 91 yX2_firstLivingSuccessor, Cond.instanceMethod yX2_firstLivingSuccessor, Cond.selects RX2 yX2_firstLivingSuccessor yX2_firstLivingSuccessor, Cond.code yX2_firstLivingSuccessor cX2_firstLivingSuccessor 4 (some .int), Cond.methodLink RX2 85 yX1_at]
def wsX2_roundsToRight_r3 : List Cond := [Cond.instanceMethod yX1_at, Cond.selects RX1 yX1_at yX1_at, Cond.code yX1_at cX1_at 4 (some .int), Cond.fieldLink RX1 18 "ChordOverlay$Table" "width" "I", Cond.methodLink RX2 190 yX0_onward, Cond.static yX0_onward, Cond.initialized RX0, Cond.code yX0_onward cX0_onward 2 (some .int), Cond.methodLink RX2 133 yX2_firstLivingUpFrom, Cond.instanceMethod yX2_firstLivingUpFrom, Cond.selects RX2 yX2_firstLivingUpFrom yX2_firstLivingUpFrom, Cond.code yX2_firstLivingUpFrom cX2_firstLivingUpFrom 4 (some .int), Cond.methodLink RX2 196 yX2_firstLivingDownFrom, Cond.instanceMethod yX2_firstLivingDownFrom, Cond.selects RX2 yX2_firstLivingDownFrom yX2_firstLivingDownFrom, Cond.code yX2_firstLivingDownFrom cX2_firstLivingDownFrom 4 (some .int), Cond.methodLink RX2 175 yX0_fingerStart, Cond.static yX0_fingerStart, Cond.code yX0_fingerStart cX0_fingerStart 2 (some .int), Cond.methodLink RX0 11 yX0_onward, Cond.methodLink RX2 115 yX2_letRoundGoBy, Cond.instanceMethod yX2_letRoundGoBy, Cond.selects RX2 yX2_letRoundGoBy yX2_letRoundGoBy, Cond.code yX2_letRoundGoBy cX2_letRoundGoBy 3 none]
def wsX2_roundsToRight_r4 : List Cond := [Cond.methodLink RX2 103 yX2_dropDeadPredecessor, Cond.instanceMethod yX2_dropDeadPredecessor, Cond.selects RX2 yX2_dropDeadPredecessor yX2_dropDeadPredecessor, Cond.code yX2_dropDeadPredecessor cX2_dropDeadPredecessor 2 none, Cond.methodLink RX2 127 yX1_set, Cond.instanceMethod yX1_set, Cond.selects RX1 yX1_set yX1_set, Cond.code yX1_set cX1_set 5 none, Cond.methodLink RX2 106 yX2_mendSuccessors, Cond.instanceMethod yX2_mendSuccessors, Cond.selects RX2 yX2_mendSuccessors yX2_mendSuccessors, Cond.code yX2_mendSuccessors cX2_mendSuccessors 4 none, Cond.methodLink RX2 166 yX0_isBetween, Cond.static yX0_isBetween, Cond.code yX0_isBetween cX0_isBetween 3 (some .boolean), Cond.methodLink RX2 163 yX2_follow, Cond.instanceMethod yX2_follow, Cond.selects RX2 yX2_follow yX2_follow, Cond.code yX2_follow cX2_follow 5 none, Cond.methodLink RX2 149 yX2_setSuccessors, Cond.instanceMethod yX2_setSuccessors, Cond.selects RX2 yX2_setSuccessors yX2_setSuccessors, Cond.code yX2_setSuccessors cX2_setSuccessors 5 none, Cond.methodLink RX2 172 yX2_notifyOf]
def wsX2_roundsToRight_r5 : List Cond := [Cond.instanceMethod yX2_notifyOf, Cond.selects RX2 yX2_notifyOf yX2_notifyOf, Cond.code yX2_notifyOf cX2_notifyOf 4 none, Cond.methodLink RX2 109 yX2_renewFingers, Cond.instanceMethod yX2_renewFingers, Cond.selects RX2 yX2_renewFingers yX2_renewFingers, Cond.code yX2_renewFingers cX2_renewFingers 5 (some .int), Cond.methodLink RX2 81 yX2_find, Cond.instanceMethod yX2_find, Cond.selects RX2 yX2_find yX2_find, Cond.code yX2_find cX2_find 6 (some .int), Cond.fieldLink RX2 38 "ChordOverlay" "route" "[I", Cond.fieldLink RX2 42 "ChordOverlay" "routeHops" "I", Cond.methodLink RX2 181 yX0_isUpTo, Cond.static yX0_isUpTo, Cond.code yX0_isUpTo cX0_isUpTo 3 (some .boolean), Cond.methodLink RX2 184 yX2_hopTowards, Cond.instanceMethod yX2_hopTowards, Cond.selects RX2 yX2_hopTowards yX2_hopTowards, Cond.code yX2_hopTowards cX2_hopTowards 6 (some .int), Cond.methodLink RX2 112 yX2_spreadValues, Cond.instanceMethod yX2_spreadValues, Cond.selects RX2 yX2_spreadValues yX2_spreadValues, Cond.code yX2_spreadValues cX2_spreadValues 4 (some .int)]
def wsX2_roundsToRight_r6 : List Cond := [Cond.fieldLink RX2 28 "ChordOverlay" "values" "LChordOverlay$Table;", Cond.methodLink RX2 178 yX2_spreadValue, Cond.instanceMethod yX2_spreadValue, Cond.selects RX2 yX2_spreadValue yX2_spreadValue, Cond.code yX2_spreadValue cX2_spreadValue 4 (some .int), Cond.methodLink RX2 159 yX2_giveCopy, Cond.instanceMethod yX2_giveCopy, Cond.selects RX2 yX2_giveCopy yX2_giveCopy, Cond.code yX2_giveCopy cX2_giveCopy 5 (some .int), Cond.fieldLink RX2 31 "ChordOverlay" "stamps" "LChordOverlay$Table;", Cond.methodLink RX2 130 yX2_copyToHeirs, Cond.instanceMethod yX2_copyToHeirs, Cond.selects RX2 yX2_copyToHeirs yX2_copyToHeirs, Cond.code yX2_copyToHeirs cX2_copyToHeirs 6 (some .int), Cond.methodLink RX2 187 yX2_firstHeir, Cond.instanceMethod yX2_firstHeir, Cond.selects RX2 yX2_firstHeir yX2_firstHeir, Cond.code yX2_firstHeir cX2_firstHeir 5 (some .int), Cond.methodLink RX2 139 yX2_takePointersBack, Cond.instanceMethod yX2_takePointersBack, Cond.selects RX2 yX2_takePointersBack yX2_takePointersBack, Cond.code yX2_takePointersBack cX2_takePointersBack 1 none]
def wsX2_roundsToRight : List Cond := .code yX2_roundsToRight cX2_roundsToRight 3 (some .int) :: ((wsX2_roundsToRight_r1 ++ (wsX2_roundsToRight_r2 ++ (wsX2_roundsToRight_r3 ++ (wsX2_roundsToRight_r4 ++ (wsX2_roundsToRight_r5 ++ wsX2_roundsToRight_r6))))) ++ wsX20 ++ wsX10 ++ (vx_atS RX2 146 "java/lang/IllegalArgumentException" ["java/lang/RuntimeException", "java/lang/Exception"]).filter goodWord)
def wsX3_init : List Cond := .code yX3_init cX3_init 1 none :: ([.methodLink RX3 1 objectInit, .instanceMethod objectInit, .code objectInit ⟨#[0xb1]⟩ 1 none, .arrayClass .boolean, .fieldLink RX3 7 "ChordOverlayModel" "lives" "[Z", .arrayClass .int, .fieldLink RX3 13 "ChordOverlayModel" "successor" "[I", .fieldLink RX3 17 "ChordOverlayModel" "predecessor" "[I", .fieldLink RX3 20 "ChordOverlayModel" "finger" "[I", .fieldLink RX3 23 "ChordOverlayModel" "value" "[I", .fieldLink RX3 26 "ChordOverlayModel" "stamp" "[I", .fieldLink RX3 29 "ChordOverlayModel" "way" "[I", .fieldLink RX3 32 "ChordOverlayModel" "heldSuccessor" "[I", .fieldLink RX3 35 "ChordOverlayModel" "heldPredecessor" "[I", .fieldLink RX3 38 "ChordOverlayModel" "heldFinger" "[I"] ++ wsX30)
def wsX3_thrown : List Cond := .code yX3_thrown cX3_thrown 1 (some .int) :: ([.fieldLink RX3 41 "ChordOverlayModel" "thrown" "I"] ++ wsX30)
def wsX3_fails : List Cond := .code yX3_fails cX3_fails 2 (some .int) :: ([.fieldLink RX3 41 "ChordOverlayModel" "thrown" "I"] ++ wsX30)
def wsX3_isId : List Cond := .code yX3_isId cX3_isId 1 (some .boolean) :: ([])
def wsX3_up : List Cond := .code yX3_up cX3_up 2 (some .int) :: ([])
def wsX3_isWithin : List Cond := .code yX3_isWithin cX3_isWithin 5 (some .boolean) :: ([.methodLink RX3 45 yX3_up, .static yX3_up, .initialized RX3, .code yX3_up cX3_up 2 (some .int)])
def wsX3_isBetween : List Cond := .code yX3_isBetween cX3_isBetween 3 (some .boolean) :: ([.methodLink RX3 49 yX3_isWithin, .static yX3_isWithin, .initialized RX3, .code yX3_isWithin cX3_isWithin 5 (some .boolean), .methodLink RX3 45 yX3_up, .static yX3_up, .code yX3_up cX3_up 2 (some .int)])
def wsX3_countLiving : List Cond := .code yX3_countLiving cX3_countLiving 3 (some .int) :: ([.fieldLink RX3 7 "ChordOverlayModel" "lives" "[Z"] ++ wsX30)
def wsX3_liveSuccessorOf : List Cond := .code yX3_liveSuccessorOf cX3_liveSuccessorOf 4 (some .int) :: ([.fieldLink RX3 7 "ChordOverlayModel" "lives" "[Z", .fieldLink RX3 13 "ChordOverlayModel" "successor" "[I"] ++ wsX30)
def wsX3_nextHop : List Cond := .code yX3_nextHop cX3_nextHop 7 (some .int) :: ([.fieldLink RX3 20 "ChordOverlayModel" "finger" "[I", .fieldLink RX3 7 "ChordOverlayModel" "lives" "[Z", .methodLink RX3 53 yX3_isBetween, .static yX3_isBetween, .initialized RX3, .code yX3_isBetween cX3_isBetween 3 (some .boolean), .methodLink RX3 49 yX3_isWithin, .static yX3_isWithin, .code yX3_isWithin cX3_isWithin 5 (some .boolean), .methodLink RX3 45 yX3_up, .static yX3_up, .code yX3_up cX3_up 2 (some .int)] ++ wsX30)
def wsX3_find : List Cond := .code yX3_find cX3_find 5 (some .int) :: ([.fieldLink RX3 60 "ChordOverlayModel" "hopped" "I", .fieldLink RX3 29 "ChordOverlayModel" "way" "[I", .methodLink RX3 56 yX3_liveSuccessorOf, .instanceMethod yX3_liveSuccessorOf, .selects RX3 yX3_liveSuccessorOf yX3_liveSuccessorOf, .initialized RX3, .code yX3_liveSuccessorOf cX3_liveSuccessorOf 4 (some .int), .fieldLink RX3 7 "ChordOverlayModel" "lives" "[Z", .fieldLink RX3 13 "ChordOverlayModel" "successor" "[I", .methodLink RX3 49 yX3_isWithin, .static yX3_isWithin, .code yX3_isWithin cX3_isWithin 5 (some .boolean), .methodLink RX3 45 yX3_up, .static yX3_up, .code yX3_up cX3_up 2 (some .int), .methodLink RX3 63 yX3_nextHop, .instanceMethod yX3_nextHop, .selects RX3 yX3_nextHop yX3_nextHop, .code yX3_nextHop cX3_nextHop 7 (some .int), .fieldLink RX3 20 "ChordOverlayModel" "finger" "[I", .methodLink RX3 53 yX3_isBetween, .static yX3_isBetween, .code yX3_isBetween cX3_isBetween 3 (some .boolean)] ++ wsX30)
def wsX3_begins : List Cond := .code yX3_begins cX3_begins 6 none :: ([.fieldLink RX3 7 "ChordOverlayModel" "lives" "[Z", .fieldLink RX3 13 "ChordOverlayModel" "successor" "[I", .fieldLink RX3 17 "ChordOverlayModel" "predecessor" "[I", .fieldLink RX3 20 "ChordOverlayModel" "finger" "[I", .fieldLink RX3 26 "ChordOverlayModel" "stamp" "[I"] ++ wsX30)
def wsX3_follows : List Cond := .code yX3_follows cX3_follows 5 none :: ([.fieldLink RX3 13 "ChordOverlayModel" "successor" "[I"] ++ wsX30)
def wsX3_create : List Cond := .code yX3_create cX3_create 2 (some .int) :: ([.fieldLink RX3 41 "ChordOverlayModel" "thrown" "I", .methodLink RX3 67 yX3_isId, .static yX3_isId, .initialized RX3, .code yX3_isId cX3_isId 1 (some .boolean), .methodLink RX3 71 yX3_fails, .instanceMethod yX3_fails, .selects RX3 yX3_fails yX3_fails, .code yX3_fails cX3_fails 2 (some .int), .methodLink RX3 74 yX3_countLiving, .instanceMethod yX3_countLiving, .selects RX3 yX3_countLiving yX3_countLiving, .code yX3_countLiving cX3_countLiving 3 (some .int), .fieldLink RX3 7 "ChordOverlayModel" "lives" "[Z", .methodLink RX3 78 yX3_begins, .instanceMethod yX3_begins, .selects RX3 yX3_begins yX3_begins, .code yX3_begins cX3_begins 6 none, .fieldLink RX3 13 "ChordOverlayModel" "successor" "[I", .fieldLink RX3 17 "ChordOverlayModel" "predecessor" "[I", .fieldLink RX3 20 "ChordOverlayModel" "finger" "[I", .fieldLink RX3 26 "ChordOverlayModel" "stamp" "[I"] ++ wsX30)
def wsX3_join_r1 : List Cond := [Cond.fieldLink RX3 41 "ChordOverlayModel" "thrown" "I", Cond.fieldLink RX3 7 "ChordOverlayModel" "lives" "[Z", Cond.fieldLink RX3 13 "ChordOverlayModel" "successor" "[I", Cond.methodLink RX3 67 yX3_isId, Cond.static yX3_isId, Cond.initialized RX3, Cond.code yX3_isId cX3_isId 1 (some .boolean), Cond.methodLink RX3 71 yX3_fails, Cond.instanceMethod yX3_fails, Cond.selects RX3 yX3_fails yX3_fails, Cond.code yX3_fails cX3_fails 2 (some .int), Cond.methodLink RX3 82 yX3_find, Cond.instanceMethod yX3_find, Cond.selects RX3 yX3_find yX3_find, Cond.code yX3_find cX3_find 5 (some .int), Cond.fieldLink RX3 60 "ChordOverlayModel" "hopped" "I", Cond.fieldLink RX3 29 "ChordOverlayModel" "way" "[I", Cond.methodLink RX3 56 yX3_liveSuccessorOf, Cond.instanceMethod yX3_liveSuccessorOf, Cond.selects RX3 yX3_liveSuccessorOf yX3_liveSuccessorOf, Cond.code yX3_liveSuccessorOf cX3_liveSuccessorOf 4 (some .int), Cond.methodLink RX3 49 yX3_isWithin, Cond.static yX3_isWithin, Cond.code yX3_isWithin cX3_isWithin 5 (some .boolean)]
def wsX3_join_r2 : List Cond := [Cond.methodLink RX3 45 yX3_up, Cond.static yX3_up, Cond.code yX3_up cX3_up 2 (some .int), Cond.methodLink RX3 63 yX3_nextHop, Cond.instanceMethod yX3_nextHop, Cond.selects RX3 yX3_nextHop yX3_nextHop, Cond.code yX3_nextHop cX3_nextHop 7 (some .int), Cond.fieldLink RX3 20 "ChordOverlayModel" "finger" "[I", Cond.methodLink RX3 53 yX3_isBetween, Cond.static yX3_isBetween, Cond.code yX3_isBetween cX3_isBetween 3 (some .boolean), Cond.methodLink RX3 78 yX3_begins, Cond.instanceMethod yX3_begins, Cond.selects RX3 yX3_begins yX3_begins, Cond.code yX3_begins cX3_begins 6 none, Cond.fieldLink RX3 17 "ChordOverlayModel" "predecessor" "[I", Cond.fieldLink RX3 26 "ChordOverlayModel" "stamp" "[I"]
def wsX3_join : List Cond := .code yX3_join cX3_join 4 (some .int) :: ((wsX3_join_r1 ++ wsX3_join_r2) ++ wsX30)
def wsX3_refuses : List Cond := .code yX3_refuses cX3_refuses 2 (some .int) :: ([.fieldLink RX3 7 "ChordOverlayModel" "lives" "[Z", .methodLink RX3 67 yX3_isId, .static yX3_isId, .initialized RX3, .code yX3_isId cX3_isId 1 (some .boolean)] ++ wsX30)
def wsX3_fail : List Cond := .code yX3_fail cX3_fail 2 (some .int) :: ([.fieldLink RX3 41 "ChordOverlayModel" "thrown" "I", .fieldLink RX3 7 "ChordOverlayModel" "lives" "[Z", .methodLink RX3 85 yX3_refuses, .instanceMethod yX3_refuses, .selects RX3 yX3_refuses yX3_refuses, .initialized RX3, .code yX3_refuses cX3_refuses 2 (some .int), .methodLink RX3 67 yX3_isId, .static yX3_isId, .code yX3_isId cX3_isId 1 (some .boolean), .methodLink RX3 74 yX3_countLiving, .instanceMethod yX3_countLiving, .selects RX3 yX3_countLiving yX3_countLiving, .code yX3_countLiving cX3_countLiving 3 (some .int)] ++ wsX30)
def wsX3_copy : List Cond := .code yX3_copy cX3_copy 4 (some .int) :: ([.fieldLink RX3 26 "ChordOverlayModel" "stamp" "[I", .fieldLink RX3 23 "ChordOverlayModel" "value" "[I"] ++ wsX30)
def wsX3_leave_r1 : List Cond := [Cond.fieldLink RX3 41 "ChordOverlayModel" "thrown" "I", Cond.fieldLink RX3 17 "ChordOverlayModel" "predecessor" "[I", Cond.fieldLink RX3 7 "ChordOverlayModel" "lives" "[Z", Cond.methodLink RX3 85 yX3_refuses, Cond.instanceMethod yX3_refuses, Cond.selects RX3 yX3_refuses yX3_refuses, Cond.initialized RX3, Cond.code yX3_refuses cX3_refuses 2 (some .int), Cond.methodLink RX3 67 yX3_isId, Cond.static yX3_isId, Cond.code yX3_isId cX3_isId 1 (some .boolean), Cond.methodLink RX3 56 yX3_liveSuccessorOf, Cond.instanceMethod yX3_liveSuccessorOf, Cond.selects RX3 yX3_liveSuccessorOf yX3_liveSuccessorOf, Cond.code yX3_liveSuccessorOf cX3_liveSuccessorOf 4 (some .int), Cond.fieldLink RX3 13 "ChordOverlayModel" "successor" "[I", Cond.methodLink RX3 88 yX3_copy, Cond.instanceMethod yX3_copy, Cond.selects RX3 yX3_copy yX3_copy, Cond.code yX3_copy cX3_copy 4 (some .int), Cond.fieldLink RX3 26 "ChordOverlayModel" "stamp" "[I", Cond.fieldLink RX3 23 "ChordOverlayModel" "value" "[I", Cond.methodLink RX3 91 yX3_follows, Cond.instanceMethod yX3_follows]
def wsX3_leave_r2 : List Cond := [Cond.selects RX3 yX3_follows yX3_follows, Cond.code yX3_follows cX3_follows 5 none, Cond.methodLink RX3 74 yX3_countLiving, Cond.instanceMethod yX3_countLiving, Cond.selects RX3 yX3_countLiving yX3_countLiving, Cond.code yX3_countLiving cX3_countLiving 3 (some .int)]
def wsX3_leave : List Cond := .code yX3_leave cX3_leave 5 (some .int) :: ((wsX3_leave_r1 ++ wsX3_leave_r2) ++ wsX30)
def wsX3_living : List Cond := .code yX3_living cX3_living 1 (some .int) :: ([.fieldLink RX3 41 "ChordOverlayModel" "thrown" "I", .methodLink RX3 74 yX3_countLiving, .instanceMethod yX3_countLiving, .selects RX3 yX3_countLiving yX3_countLiving, .initialized RX3, .code yX3_countLiving cX3_countLiving 3 (some .int), .fieldLink RX3 7 "ChordOverlayModel" "lives" "[Z"] ++ wsX30)
def wsX3_isLiving : List Cond := .code yX3_isLiving cX3_isLiving 2 (some .boolean) :: ([.fieldLink RX3 41 "ChordOverlayModel" "thrown" "I", .fieldLink RX3 7 "ChordOverlayModel" "lives" "[Z", .methodLink RX3 67 yX3_isId, .static yX3_isId, .initialized RX3, .code yX3_isId cX3_isId 1 (some .boolean)] ++ wsX30)
def wsX3_successor : List Cond := .code yX3_successor cX3_successor 3 (some .int) :: ([.fieldLink RX3 41 "ChordOverlayModel" "thrown" "I", .fieldLink RX3 13 "ChordOverlayModel" "successor" "[I", .methodLink RX3 67 yX3_isId, .static yX3_isId, .initialized RX3, .code yX3_isId cX3_isId 1 (some .boolean), .methodLink RX3 85 yX3_refuses, .instanceMethod yX3_refuses, .selects RX3 yX3_refuses yX3_refuses, .code yX3_refuses cX3_refuses 2 (some .int), .fieldLink RX3 7 "ChordOverlayModel" "lives" "[Z"] ++ wsX30)
def wsX3_liveSuccessor : List Cond := .code yX3_liveSuccessor cX3_liveSuccessor 2 (some .int) :: ([.fieldLink RX3 41 "ChordOverlayModel" "thrown" "I", .methodLink RX3 85 yX3_refuses, .instanceMethod yX3_refuses, .selects RX3 yX3_refuses yX3_refuses, .initialized RX3, .code yX3_refuses cX3_refuses 2 (some .int), .fieldLink RX3 7 "ChordOverlayModel" "lives" "[Z", .methodLink RX3 67 yX3_isId, .static yX3_isId, .code yX3_isId cX3_isId 1 (some .boolean), .methodLink RX3 56 yX3_liveSuccessorOf, .instanceMethod yX3_liveSuccessorOf, .selects RX3 yX3_liveSuccessorOf yX3_liveSuccessorOf, .code yX3_liveSuccessorOf cX3_liveSuccessorOf 4 (some .int), .fieldLink RX3 13 "ChordOverlayModel" "successor" "[I"] ++ wsX30)
def wsX3_predecessor : List Cond := .code yX3_predecessor cX3_predecessor 2 (some .int) :: ([.fieldLink RX3 41 "ChordOverlayModel" "thrown" "I", .fieldLink RX3 17 "ChordOverlayModel" "predecessor" "[I", .methodLink RX3 85 yX3_refuses, .instanceMethod yX3_refuses, .selects RX3 yX3_refuses yX3_refuses, .initialized RX3, .code yX3_refuses cX3_refuses 2 (some .int), .fieldLink RX3 7 "ChordOverlayModel" "lives" "[Z", .methodLink RX3 67 yX3_isId, .static yX3_isId, .code yX3_isId cX3_isId 1 (some .boolean)] ++ wsX30)
def wsX3_finger : List Cond := .code yX3_finger cX3_finger 3 (some .int) :: ([.fieldLink RX3 41 "ChordOverlayModel" "thrown" "I", .fieldLink RX3 20 "ChordOverlayModel" "finger" "[I", .methodLink RX3 67 yX3_isId, .static yX3_isId, .initialized RX3, .code yX3_isId cX3_isId 1 (some .boolean), .methodLink RX3 85 yX3_refuses, .instanceMethod yX3_refuses, .selects RX3 yX3_refuses yX3_refuses, .code yX3_refuses cX3_refuses 2 (some .int), .fieldLink RX3 7 "ChordOverlayModel" "lives" "[Z"] ++ wsX30)
def wsX3_checks : List Cond := .code yX3_checks cX3_checks 2 none :: ([.fieldLink RX3 17 "ChordOverlayModel" "predecessor" "[I", .fieldLink RX3 7 "ChordOverlayModel" "lives" "[Z"] ++ wsX30)
def wsX3_stabilizes : List Cond := .code yX3_stabilizes cX3_stabilizes 5 none :: ([.fieldLink RX3 17 "ChordOverlayModel" "predecessor" "[I", .fieldLink RX3 7 "ChordOverlayModel" "lives" "[Z", .methodLink RX3 56 yX3_liveSuccessorOf, .instanceMethod yX3_liveSuccessorOf, .selects RX3 yX3_liveSuccessorOf yX3_liveSuccessorOf, .initialized RX3, .code yX3_liveSuccessorOf cX3_liveSuccessorOf 4 (some .int), .fieldLink RX3 13 "ChordOverlayModel" "successor" "[I", .methodLink RX3 53 yX3_isBetween, .static yX3_isBetween, .code yX3_isBetween cX3_isBetween 3 (some .boolean), .methodLink RX3 49 yX3_isWithin, .static yX3_isWithin, .code yX3_isWithin cX3_isWithin 5 (some .boolean), .methodLink RX3 45 yX3_up, .static yX3_up, .code yX3_up cX3_up 2 (some .int), .methodLink RX3 91 yX3_follows, .instanceMethod yX3_follows, .selects RX3 yX3_follows yX3_follows, .code yX3_follows cX3_follows 5 none] ++ wsX30)
def wsX3_fixes_r1 : List Cond := [Cond.fieldLink RX3 20 "ChordOverlayModel" "finger" "[I", Cond.methodLink RX3 82 yX3_find, Cond.instanceMethod yX3_find, Cond.selects RX3 yX3_find yX3_find, Cond.initialized RX3, Cond.code yX3_find cX3_find 5 (some .int), Cond.fieldLink RX3 60 "ChordOverlayModel" "hopped" "I", Cond.fieldLink RX3 29 "ChordOverlayModel" "way" "[I", Cond.methodLink RX3 56 yX3_liveSuccessorOf, Cond.instanceMethod yX3_liveSuccessorOf, Cond.selects RX3 yX3_liveSuccessorOf yX3_liveSuccessorOf, Cond.code yX3_liveSuccessorOf cX3_liveSuccessorOf 4 (some .int), Cond.fieldLink RX3 7 "ChordOverlayModel" "lives" "[Z", Cond.fieldLink RX3 13 "ChordOverlayModel" "successor" "[I", Cond.methodLink RX3 49 yX3_isWithin, Cond.static yX3_isWithin, Cond.code yX3_isWithin cX3_isWithin 5 (some .boolean), Cond.methodLink RX3 45 yX3_up, Cond.static yX3_up, Cond.code yX3_up cX3_up 2 (some .int), Cond.methodLink RX3 63 yX3_nextHop, Cond.instanceMethod yX3_nextHop, Cond.selects RX3 yX3_nextHop yX3_nextHop, Cond.code yX3_nextHop cX3_nextHop 7 (some .int)]
def wsX3_fixes_r2 : List Cond := [Cond.methodLink RX3 53 yX3_isBetween, Cond.static yX3_isBetween, Cond.code yX3_isBetween cX3_isBetween 3 (some .boolean)]
def wsX3_fixes : List Cond := .code yX3_fixes cX3_fixes 5 (some .int) :: ((wsX3_fixes_r1 ++ wsX3_fixes_r2) ++ wsX30)
def wsX3_spreads : List Cond := .code yX3_spreads cX3_spreads 8 (some .int) :: ([.fieldLink RX3 13 "ChordOverlayModel" "successor" "[I", .fieldLink RX3 7 "ChordOverlayModel" "lives" "[Z", .methodLink RX3 88 yX3_copy, .instanceMethod yX3_copy, .selects RX3 yX3_copy yX3_copy, .initialized RX3, .code yX3_copy cX3_copy 4 (some .int), .fieldLink RX3 26 "ChordOverlayModel" "stamp" "[I", .fieldLink RX3 23 "ChordOverlayModel" "value" "[I"] ++ wsX30)
def wsX3_replicates_r1 : List Cond := [Cond.fieldLink RX3 26 "ChordOverlayModel" "stamp" "[I", Cond.fieldLink RX3 17 "ChordOverlayModel" "predecessor" "[I", Cond.methodLink RX3 49 yX3_isWithin, Cond.static yX3_isWithin, Cond.initialized RX3, Cond.code yX3_isWithin cX3_isWithin 5 (some .boolean), Cond.methodLink RX3 45 yX3_up, Cond.static yX3_up, Cond.code yX3_up cX3_up 2 (some .int), Cond.methodLink RX3 82 yX3_find, Cond.instanceMethod yX3_find, Cond.selects RX3 yX3_find yX3_find, Cond.code yX3_find cX3_find 5 (some .int), Cond.fieldLink RX3 60 "ChordOverlayModel" "hopped" "I", Cond.fieldLink RX3 29 "ChordOverlayModel" "way" "[I", Cond.methodLink RX3 56 yX3_liveSuccessorOf, Cond.instanceMethod yX3_liveSuccessorOf, Cond.selects RX3 yX3_liveSuccessorOf yX3_liveSuccessorOf, Cond.code yX3_liveSuccessorOf cX3_liveSuccessorOf 4 (some .int), Cond.fieldLink RX3 7 "ChordOverlayModel" "lives" "[Z", Cond.fieldLink RX3 13 "ChordOverlayModel" "successor" "[I", Cond.methodLink RX3 63 yX3_nextHop, Cond.instanceMethod yX3_nextHop, Cond.selects RX3 yX3_nextHop yX3_nextHop]
def wsX3_replicates_r2 : List Cond := [Cond.code yX3_nextHop cX3_nextHop 7 (some .int), Cond.fieldLink RX3 20 "ChordOverlayModel" "finger" "[I", Cond.methodLink RX3 53 yX3_isBetween, Cond.static yX3_isBetween, Cond.code yX3_isBetween cX3_isBetween 3 (some .boolean), Cond.methodLink RX3 95 yX3_spreads, Cond.instanceMethod yX3_spreads, Cond.selects RX3 yX3_spreads yX3_spreads, Cond.code yX3_spreads cX3_spreads 8 (some .int), Cond.methodLink RX3 88 yX3_copy, Cond.instanceMethod yX3_copy, Cond.selects RX3 yX3_copy yX3_copy, Cond.code yX3_copy cX3_copy 4 (some .int), Cond.fieldLink RX3 23 "ChordOverlayModel" "value" "[I"]
def wsX3_replicates : List Cond := .code yX3_replicates cX3_replicates 6 (some .int) :: ((wsX3_replicates_r1 ++ wsX3_replicates_r2) ++ wsX30)
def wsX3_check : List Cond := .code yX3_check cX3_check 2 (some .boolean) :: ([.fieldLink RX3 41 "ChordOverlayModel" "thrown" "I", .fieldLink RX3 17 "ChordOverlayModel" "predecessor" "[I", .methodLink RX3 85 yX3_refuses, .instanceMethod yX3_refuses, .selects RX3 yX3_refuses yX3_refuses, .initialized RX3, .code yX3_refuses cX3_refuses 2 (some .int), .fieldLink RX3 7 "ChordOverlayModel" "lives" "[Z", .methodLink RX3 67 yX3_isId, .static yX3_isId, .code yX3_isId cX3_isId 1 (some .boolean), .methodLink RX3 98 yX3_checks, .instanceMethod yX3_checks, .selects RX3 yX3_checks yX3_checks, .code yX3_checks cX3_checks 2 none] ++ wsX30)
def wsX3_stabilize_r1 : List Cond := [Cond.fieldLink RX3 41 "ChordOverlayModel" "thrown" "I", Cond.fieldLink RX3 13 "ChordOverlayModel" "successor" "[I", Cond.methodLink RX3 85 yX3_refuses, Cond.instanceMethod yX3_refuses, Cond.selects RX3 yX3_refuses yX3_refuses, Cond.initialized RX3, Cond.code yX3_refuses cX3_refuses 2 (some .int), Cond.fieldLink RX3 7 "ChordOverlayModel" "lives" "[Z", Cond.methodLink RX3 67 yX3_isId, Cond.static yX3_isId, Cond.code yX3_isId cX3_isId 1 (some .boolean), Cond.methodLink RX3 102 yX3_stabilizes, Cond.instanceMethod yX3_stabilizes, Cond.selects RX3 yX3_stabilizes yX3_stabilizes, Cond.code yX3_stabilizes cX3_stabilizes 5 none, Cond.fieldLink RX3 17 "ChordOverlayModel" "predecessor" "[I", Cond.methodLink RX3 56 yX3_liveSuccessorOf, Cond.instanceMethod yX3_liveSuccessorOf, Cond.selects RX3 yX3_liveSuccessorOf yX3_liveSuccessorOf, Cond.code yX3_liveSuccessorOf cX3_liveSuccessorOf 4 (some .int), Cond.methodLink RX3 53 yX3_isBetween, Cond.static yX3_isBetween, Cond.code yX3_isBetween cX3_isBetween 3 (some .boolean), Cond.methodLink RX3 49 yX3_isWithin]
def wsX3_stabilize_r2 : List Cond := [Cond.static yX3_isWithin, Cond.code yX3_isWithin cX3_isWithin 5 (some .boolean), Cond.methodLink RX3 45 yX3_up, Cond.static yX3_up, Cond.code yX3_up cX3_up 2 (some .int), Cond.methodLink RX3 91 yX3_follows, Cond.instanceMethod yX3_follows, Cond.selects RX3 yX3_follows yX3_follows, Cond.code yX3_follows cX3_follows 5 none]
def wsX3_stabilize : List Cond := .code yX3_stabilize cX3_stabilize 2 (some .int) :: ((wsX3_stabilize_r1 ++ wsX3_stabilize_r2) ++ wsX30)
def wsX3_fix_r1 : List Cond := [Cond.fieldLink RX3 41 "ChordOverlayModel" "thrown" "I", Cond.methodLink RX3 85 yX3_refuses, Cond.instanceMethod yX3_refuses, Cond.selects RX3 yX3_refuses yX3_refuses, Cond.initialized RX3, Cond.code yX3_refuses cX3_refuses 2 (some .int), Cond.fieldLink RX3 7 "ChordOverlayModel" "lives" "[Z", Cond.methodLink RX3 67 yX3_isId, Cond.static yX3_isId, Cond.code yX3_isId cX3_isId 1 (some .boolean), Cond.methodLink RX3 105 yX3_fixes, Cond.instanceMethod yX3_fixes, Cond.selects RX3 yX3_fixes yX3_fixes, Cond.code yX3_fixes cX3_fixes 5 (some .int), Cond.fieldLink RX3 20 "ChordOverlayModel" "finger" "[I", Cond.methodLink RX3 82 yX3_find, Cond.instanceMethod yX3_find, Cond.selects RX3 yX3_find yX3_find, Cond.code yX3_find cX3_find 5 (some .int), Cond.fieldLink RX3 60 "ChordOverlayModel" "hopped" "I", Cond.fieldLink RX3 29 "ChordOverlayModel" "way" "[I", Cond.methodLink RX3 56 yX3_liveSuccessorOf, Cond.instanceMethod yX3_liveSuccessorOf, Cond.selects RX3 yX3_liveSuccessorOf yX3_liveSuccessorOf]
def wsX3_fix_r2 : List Cond := [Cond.code yX3_liveSuccessorOf cX3_liveSuccessorOf 4 (some .int), Cond.fieldLink RX3 13 "ChordOverlayModel" "successor" "[I", Cond.methodLink RX3 49 yX3_isWithin, Cond.static yX3_isWithin, Cond.code yX3_isWithin cX3_isWithin 5 (some .boolean), Cond.methodLink RX3 45 yX3_up, Cond.static yX3_up, Cond.code yX3_up cX3_up 2 (some .int), Cond.methodLink RX3 63 yX3_nextHop, Cond.instanceMethod yX3_nextHop, Cond.selects RX3 yX3_nextHop yX3_nextHop, Cond.code yX3_nextHop cX3_nextHop 7 (some .int), Cond.methodLink RX3 53 yX3_isBetween, Cond.static yX3_isBetween, Cond.code yX3_isBetween cX3_isBetween 3 (some .boolean)]
def wsX3_fix : List Cond := .code yX3_fix cX3_fix 2 (some .int) :: ((wsX3_fix_r1 ++ wsX3_fix_r2) ++ wsX30)
def wsX3_replicate_r1 : List Cond := [Cond.fieldLink RX3 41 "ChordOverlayModel" "thrown" "I", Cond.methodLink RX3 85 yX3_refuses, Cond.instanceMethod yX3_refuses, Cond.selects RX3 yX3_refuses yX3_refuses, Cond.initialized RX3, Cond.code yX3_refuses cX3_refuses 2 (some .int), Cond.fieldLink RX3 7 "ChordOverlayModel" "lives" "[Z", Cond.methodLink RX3 67 yX3_isId, Cond.static yX3_isId, Cond.code yX3_isId cX3_isId 1 (some .boolean), Cond.methodLink RX3 108 yX3_replicates, Cond.instanceMethod yX3_replicates, Cond.selects RX3 yX3_replicates yX3_replicates, Cond.code yX3_replicates cX3_replicates 6 (some .int), Cond.fieldLink RX3 26 "ChordOverlayModel" "stamp" "[I", Cond.fieldLink RX3 17 "ChordOverlayModel" "predecessor" "[I", Cond.methodLink RX3 49 yX3_isWithin, Cond.static yX3_isWithin, Cond.code yX3_isWithin cX3_isWithin 5 (some .boolean), Cond.methodLink RX3 45 yX3_up, Cond.static yX3_up, Cond.code yX3_up cX3_up 2 (some .int), Cond.methodLink RX3 82 yX3_find, Cond.instanceMethod yX3_find]
def wsX3_replicate_r2 : List Cond := [Cond.selects RX3 yX3_find yX3_find, Cond.code yX3_find cX3_find 5 (some .int), Cond.fieldLink RX3 60 "ChordOverlayModel" "hopped" "I", Cond.fieldLink RX3 29 "ChordOverlayModel" "way" "[I", Cond.methodLink RX3 56 yX3_liveSuccessorOf, Cond.instanceMethod yX3_liveSuccessorOf, Cond.selects RX3 yX3_liveSuccessorOf yX3_liveSuccessorOf, Cond.code yX3_liveSuccessorOf cX3_liveSuccessorOf 4 (some .int), Cond.fieldLink RX3 13 "ChordOverlayModel" "successor" "[I", Cond.methodLink RX3 63 yX3_nextHop, Cond.instanceMethod yX3_nextHop, Cond.selects RX3 yX3_nextHop yX3_nextHop, Cond.code yX3_nextHop cX3_nextHop 7 (some .int), Cond.fieldLink RX3 20 "ChordOverlayModel" "finger" "[I", Cond.methodLink RX3 53 yX3_isBetween, Cond.static yX3_isBetween, Cond.code yX3_isBetween cX3_isBetween 3 (some .boolean), Cond.methodLink RX3 95 yX3_spreads, Cond.instanceMethod yX3_spreads, Cond.selects RX3 yX3_spreads yX3_spreads, Cond.code yX3_spreads cX3_spreads 8 (some .int), Cond.methodLink RX3 88 yX3_copy, Cond.instanceMethod yX3_copy, Cond.selects RX3 yX3_copy yX3_copy]
def wsX3_replicate_r3 : List Cond := [Cond.code yX3_copy cX3_copy 4 (some .int), Cond.fieldLink RX3 23 "ChordOverlayModel" "value" "[I"]
def wsX3_replicate : List Cond := .code yX3_replicate cX3_replicate 2 (some .int) :: ((wsX3_replicate_r1 ++ (wsX3_replicate_r2 ++ wsX3_replicate_r3)) ++ wsX30)
def wsX3_round_r1 : List Cond := [Cond.fieldLink RX3 7 "ChordOverlayModel" "lives" "[Z", Cond.methodLink RX3 98 yX3_checks, Cond.instanceMethod yX3_checks, Cond.selects RX3 yX3_checks yX3_checks, Cond.initialized RX3, Cond.code yX3_checks cX3_checks 2 none, Cond.fieldLink RX3 17 "ChordOverlayModel" "predecessor" "[I", Cond.methodLink RX3 102 yX3_stabilizes, Cond.instanceMethod yX3_stabilizes, Cond.selects RX3 yX3_stabilizes yX3_stabilizes, Cond.code yX3_stabilizes cX3_stabilizes 5 none, Cond.methodLink RX3 56 yX3_liveSuccessorOf, Cond.instanceMethod yX3_liveSuccessorOf, Cond.selects RX3 yX3_liveSuccessorOf yX3_liveSuccessorOf, Cond.code yX3_liveSuccessorOf cX3_liveSuccessorOf 4 (some .int), Cond.fieldLink RX3 13 "ChordOverlayModel" "successor" "[I", Cond.methodLink RX3 53 yX3_isBetween, Cond.static yX3_isBetween, Cond.code yX3_isBetween cX3_isBetween 3 (some .boolean), Cond.methodLink RX3 49 yX3_isWithin, Cond.static yX3_isWithin, Cond.code yX3_isWithin cX3_isWithin 5 (some .boolean), Cond.methodLink RX3 45 yX3_up, Cond.static yX3_up]
def wsX3_round_r2 : List Cond := [Cond.code yX3_up cX3_up 2 (some .int), Cond.methodLink RX3 91 yX3_follows, Cond.instanceMethod yX3_follows, Cond.selects RX3 yX3_follows yX3_follows, Cond.code yX3_follows cX3_follows 5 none, Cond.methodLink RX3 105 yX3_fixes, Cond.instanceMethod yX3_fixes, Cond.selects RX3 yX3_fixes yX3_fixes, Cond.code yX3_fixes cX3_fixes 5 (some .int), Cond.fieldLink RX3 20 "ChordOverlayModel" "finger" "[I", Cond.methodLink RX3 82 yX3_find, Cond.instanceMethod yX3_find, Cond.selects RX3 yX3_find yX3_find, Cond.code yX3_find cX3_find 5 (some .int), Cond.fieldLink RX3 60 "ChordOverlayModel" "hopped" "I", Cond.fieldLink RX3 29 "ChordOverlayModel" "way" "[I", Cond.methodLink RX3 63 yX3_nextHop, Cond.instanceMethod yX3_nextHop, Cond.selects RX3 yX3_nextHop yX3_nextHop, Cond.code yX3_nextHop cX3_nextHop 7 (some .int), Cond.methodLink RX3 108 yX3_replicates, Cond.instanceMethod yX3_replicates, Cond.selects RX3 yX3_replicates yX3_replicates, Cond.code yX3_replicates cX3_replicates 6 (some .int)]
def wsX3_round_r3 : List Cond := [Cond.fieldLink RX3 26 "ChordOverlayModel" "stamp" "[I", Cond.methodLink RX3 95 yX3_spreads, Cond.instanceMethod yX3_spreads, Cond.selects RX3 yX3_spreads yX3_spreads, Cond.code yX3_spreads cX3_spreads 8 (some .int), Cond.methodLink RX3 88 yX3_copy, Cond.instanceMethod yX3_copy, Cond.selects RX3 yX3_copy yX3_copy, Cond.code yX3_copy cX3_copy 4 (some .int), Cond.fieldLink RX3 23 "ChordOverlayModel" "value" "[I"]
def wsX3_round : List Cond := .code yX3_round cX3_round 5 none :: ((wsX3_round_r1 ++ (wsX3_round_r2 ++ wsX3_round_r3)) ++ wsX30)
def wsX3_ownerOf : List Cond := .code yX3_ownerOf cX3_ownerOf 4 (some .int) :: ([.fieldLink RX3 7 "ChordOverlayModel" "lives" "[Z"] ++ wsX30)
def wsX3_before : List Cond := .code yX3_before cX3_before 4 (some .int) :: ([.fieldLink RX3 7 "ChordOverlayModel" "lives" "[Z"] ++ wsX30)
def wsX3_wrongOf : List Cond := .code yX3_wrongOf cX3_wrongOf 4 (some .int) :: ([.fieldLink RX3 17 "ChordOverlayModel" "predecessor" "[I", .fieldLink RX3 20 "ChordOverlayModel" "finger" "[I", .methodLink RX3 56 yX3_liveSuccessorOf, .instanceMethod yX3_liveSuccessorOf, .selects RX3 yX3_liveSuccessorOf yX3_liveSuccessorOf, .initialized RX3, .code yX3_liveSuccessorOf cX3_liveSuccessorOf 4 (some .int), .fieldLink RX3 7 "ChordOverlayModel" "lives" "[Z", .fieldLink RX3 13 "ChordOverlayModel" "successor" "[I", .methodLink RX3 127 yX3_ownerOf, .instanceMethod yX3_ownerOf, .selects RX3 yX3_ownerOf yX3_ownerOf, .code yX3_ownerOf cX3_ownerOf 4 (some .int), .methodLink RX3 130 yX3_before, .instanceMethod yX3_before, .selects RX3 yX3_before yX3_before, .code yX3_before cX3_before 4 (some .int)] ++ wsX30)
def wsX3_countWrong : List Cond := .code yX3_countWrong cX3_countWrong 3 (some .int) :: ([.fieldLink RX3 7 "ChordOverlayModel" "lives" "[Z", .methodLink RX3 133 yX3_wrongOf, .instanceMethod yX3_wrongOf, .selects RX3 yX3_wrongOf yX3_wrongOf, .initialized RX3, .code yX3_wrongOf cX3_wrongOf 4 (some .int), .fieldLink RX3 17 "ChordOverlayModel" "predecessor" "[I", .fieldLink RX3 20 "ChordOverlayModel" "finger" "[I", .methodLink RX3 56 yX3_liveSuccessorOf, .instanceMethod yX3_liveSuccessorOf, .selects RX3 yX3_liveSuccessorOf yX3_liveSuccessorOf, .code yX3_liveSuccessorOf cX3_liveSuccessorOf 4 (some .int), .fieldLink RX3 13 "ChordOverlayModel" "successor" "[I", .methodLink RX3 127 yX3_ownerOf, .instanceMethod yX3_ownerOf, .selects RX3 yX3_ownerOf yX3_ownerOf, .code yX3_ownerOf cX3_ownerOf 4 (some .int), .methodLink RX3 130 yX3_before, .instanceMethod yX3_before, .selects RX3 yX3_before yX3_before, .code yX3_before cX3_before 4 (some .int)] ++ wsX30)
def wsX3_goRounds_r1 : List Cond := [Cond.fieldLink RX3 41 "ChordOverlayModel" "thrown" "I", Cond.methodLink RX3 71 yX3_fails, Cond.instanceMethod yX3_fails, Cond.selects RX3 yX3_fails yX3_fails, Cond.initialized RX3, Cond.code yX3_fails cX3_fails 2 (some .int), Cond.methodLink RX3 111 yX3_round, Cond.instanceMethod yX3_round, Cond.selects RX3 yX3_round yX3_round, Cond.code yX3_round cX3_round 5 none, Cond.fieldLink RX3 7 "ChordOverlayModel" "lives" "[Z", Cond.methodLink RX3 98 yX3_checks, Cond.instanceMethod yX3_checks, Cond.selects RX3 yX3_checks yX3_checks, Cond.code yX3_checks cX3_checks 2 none, Cond.fieldLink RX3 17 "ChordOverlayModel" "predecessor" "[I", Cond.methodLink RX3 102 yX3_stabilizes, Cond.instanceMethod yX3_stabilizes, Cond.selects RX3 yX3_stabilizes yX3_stabilizes, Cond.code yX3_stabilizes cX3_stabilizes 5 none, Cond.methodLink RX3 56 yX3_liveSuccessorOf, Cond.instanceMethod yX3_liveSuccessorOf, Cond.selects RX3 yX3_liveSuccessorOf yX3_liveSuccessorOf, Cond.code yX3_liveSuccessorOf cX3_liveSuccessorOf 4 (some .int)]
def wsX3_goRounds_r2 : List Cond := [Cond.fieldLink RX3 13 "ChordOverlayModel" "successor" "[I", Cond.methodLink RX3 53 yX3_isBetween, Cond.static yX3_isBetween, Cond.code yX3_isBetween cX3_isBetween 3 (some .boolean), Cond.methodLink RX3 49 yX3_isWithin, Cond.static yX3_isWithin, Cond.code yX3_isWithin cX3_isWithin 5 (some .boolean), Cond.methodLink RX3 45 yX3_up, Cond.static yX3_up, Cond.code yX3_up cX3_up 2 (some .int), Cond.methodLink RX3 91 yX3_follows, Cond.instanceMethod yX3_follows, Cond.selects RX3 yX3_follows yX3_follows, Cond.code yX3_follows cX3_follows 5 none, Cond.methodLink RX3 105 yX3_fixes, Cond.instanceMethod yX3_fixes, Cond.selects RX3 yX3_fixes yX3_fixes, Cond.code yX3_fixes cX3_fixes 5 (some .int), Cond.fieldLink RX3 20 "ChordOverlayModel" "finger" "[I", Cond.methodLink RX3 82 yX3_find, Cond.instanceMethod yX3_find, Cond.selects RX3 yX3_find yX3_find, Cond.code yX3_find cX3_find 5 (some .int), Cond.fieldLink RX3 60 "ChordOverlayModel" "hopped" "I"]
def wsX3_goRounds_r3 : List Cond := [Cond.fieldLink RX3 29 "ChordOverlayModel" "way" "[I", Cond.methodLink RX3 63 yX3_nextHop, Cond.instanceMethod yX3_nextHop, Cond.selects RX3 yX3_nextHop yX3_nextHop, Cond.code yX3_nextHop cX3_nextHop 7 (some .int), Cond.methodLink RX3 108 yX3_replicates, Cond.instanceMethod yX3_replicates, Cond.selects RX3 yX3_replicates yX3_replicates, Cond.code yX3_replicates cX3_replicates 6 (some .int), Cond.fieldLink RX3 26 "ChordOverlayModel" "stamp" "[I", Cond.methodLink RX3 95 yX3_spreads, Cond.instanceMethod yX3_spreads, Cond.selects RX3 yX3_spreads yX3_spreads, Cond.code yX3_spreads cX3_spreads 8 (some .int), Cond.methodLink RX3 88 yX3_copy, Cond.instanceMethod yX3_copy, Cond.selects RX3 yX3_copy yX3_copy, Cond.code yX3_copy cX3_copy 4 (some .int), Cond.fieldLink RX3 23 "ChordOverlayModel" "value" "[I", Cond.methodLink RX3 115 yX3_countWrong, Cond.instanceMethod yX3_countWrong, Cond.selects RX3 yX3_countWrong yX3_countWrong, Cond.code yX3_countWrong cX3_countWrong 3 (some .int), Cond.methodLink RX3 133 yX3_wrongOf]
def wsX3_goRounds_r4 : List Cond := [Cond.instanceMethod yX3_wrongOf, Cond.selects RX3 yX3_wrongOf yX3_wrongOf, Cond.code yX3_wrongOf cX3_wrongOf 4 (some .int), Cond.methodLink RX3 127 yX3_ownerOf, Cond.instanceMethod yX3_ownerOf, Cond.selects RX3 yX3_ownerOf yX3_ownerOf, Cond.code yX3_ownerOf cX3_ownerOf 4 (some .int), Cond.methodLink RX3 130 yX3_before, Cond.instanceMethod yX3_before, Cond.selects RX3 yX3_before yX3_before, Cond.code yX3_before cX3_before 4 (some .int)]
def wsX3_goRounds : List Cond := .code yX3_goRounds cX3_goRounds 3 (some .int) :: ((wsX3_goRounds_r1 ++ (wsX3_goRounds_r2 ++ (wsX3_goRounds_r3 ++ wsX3_goRounds_r4))) ++ wsX30)
def wsX3_refusesLookup : List Cond := .code yX3_refusesLookup cX3_refusesLookup 3 (some .int) :: ([.methodLink RX3 67 yX3_isId, .static yX3_isId, .initialized RX3, .code yX3_isId cX3_isId 1 (some .boolean), .methodLink RX3 85 yX3_refuses, .instanceMethod yX3_refuses, .selects RX3 yX3_refuses yX3_refuses, .code yX3_refuses cX3_refuses 2 (some .int), .fieldLink RX3 7 "ChordOverlayModel" "lives" "[Z"] ++ wsX30)
def wsX3_lookup_r1 : List Cond := [Cond.fieldLink RX3 41 "ChordOverlayModel" "thrown" "I", Cond.methodLink RX3 118 yX3_refusesLookup, Cond.instanceMethod yX3_refusesLookup, Cond.selects RX3 yX3_refusesLookup yX3_refusesLookup, Cond.initialized RX3, Cond.code yX3_refusesLookup cX3_refusesLookup 3 (some .int), Cond.methodLink RX3 67 yX3_isId, Cond.static yX3_isId, Cond.code yX3_isId cX3_isId 1 (some .boolean), Cond.methodLink RX3 85 yX3_refuses, Cond.instanceMethod yX3_refuses, Cond.selects RX3 yX3_refuses yX3_refuses, Cond.code yX3_refuses cX3_refuses 2 (some .int), Cond.fieldLink RX3 7 "ChordOverlayModel" "lives" "[Z", Cond.methodLink RX3 82 yX3_find, Cond.instanceMethod yX3_find, Cond.selects RX3 yX3_find yX3_find, Cond.code yX3_find cX3_find 5 (some .int), Cond.fieldLink RX3 60 "ChordOverlayModel" "hopped" "I", Cond.fieldLink RX3 29 "ChordOverlayModel" "way" "[I", Cond.methodLink RX3 56 yX3_liveSuccessorOf, Cond.instanceMethod yX3_liveSuccessorOf, Cond.selects RX3 yX3_liveSuccessorOf yX3_liveSuccessorOf, Cond.code yX3_liveSuccessorOf cX3_liveSuccessorOf 4 (some .int)]
def wsX3_lookup_r2 : List Cond := [Cond.fieldLink RX3 13 "ChordOverlayModel" "successor" "[I", Cond.methodLink RX3 49 yX3_isWithin, Cond.static yX3_isWithin, Cond.code yX3_isWithin cX3_isWithin 5 (some .boolean), Cond.methodLink RX3 45 yX3_up, Cond.static yX3_up, Cond.code yX3_up cX3_up 2 (some .int), Cond.methodLink RX3 63 yX3_nextHop, Cond.instanceMethod yX3_nextHop, Cond.selects RX3 yX3_nextHop yX3_nextHop, Cond.code yX3_nextHop cX3_nextHop 7 (some .int), Cond.fieldLink RX3 20 "ChordOverlayModel" "finger" "[I", Cond.methodLink RX3 53 yX3_isBetween, Cond.static yX3_isBetween, Cond.code yX3_isBetween cX3_isBetween 3 (some .boolean)]
def wsX3_lookup : List Cond := .code yX3_lookup cX3_lookup 3 (some .int) :: ((wsX3_lookup_r1 ++ wsX3_lookup_r2) ++ wsX30)
def wsX3_hops_r1 : List Cond := [Cond.fieldLink RX3 41 "ChordOverlayModel" "thrown" "I", Cond.fieldLink RX3 60 "ChordOverlayModel" "hopped" "I", Cond.methodLink RX3 118 yX3_refusesLookup, Cond.instanceMethod yX3_refusesLookup, Cond.selects RX3 yX3_refusesLookup yX3_refusesLookup, Cond.initialized RX3, Cond.code yX3_refusesLookup cX3_refusesLookup 3 (some .int), Cond.methodLink RX3 67 yX3_isId, Cond.static yX3_isId, Cond.code yX3_isId cX3_isId 1 (some .boolean), Cond.methodLink RX3 85 yX3_refuses, Cond.instanceMethod yX3_refuses, Cond.selects RX3 yX3_refuses yX3_refuses, Cond.code yX3_refuses cX3_refuses 2 (some .int), Cond.fieldLink RX3 7 "ChordOverlayModel" "lives" "[Z", Cond.methodLink RX3 82 yX3_find, Cond.instanceMethod yX3_find, Cond.selects RX3 yX3_find yX3_find, Cond.code yX3_find cX3_find 5 (some .int), Cond.fieldLink RX3 29 "ChordOverlayModel" "way" "[I", Cond.methodLink RX3 56 yX3_liveSuccessorOf, Cond.instanceMethod yX3_liveSuccessorOf, Cond.selects RX3 yX3_liveSuccessorOf yX3_liveSuccessorOf, Cond.code yX3_liveSuccessorOf cX3_liveSuccessorOf 4 (some .int)]
def wsX3_hops_r2 : List Cond := [Cond.fieldLink RX3 13 "ChordOverlayModel" "successor" "[I", Cond.methodLink RX3 49 yX3_isWithin, Cond.static yX3_isWithin, Cond.code yX3_isWithin cX3_isWithin 5 (some .boolean), Cond.methodLink RX3 45 yX3_up, Cond.static yX3_up, Cond.code yX3_up cX3_up 2 (some .int), Cond.methodLink RX3 63 yX3_nextHop, Cond.instanceMethod yX3_nextHop, Cond.selects RX3 yX3_nextHop yX3_nextHop, Cond.code yX3_nextHop cX3_nextHop 7 (some .int), Cond.fieldLink RX3 20 "ChordOverlayModel" "finger" "[I", Cond.methodLink RX3 53 yX3_isBetween, Cond.static yX3_isBetween, Cond.code yX3_isBetween cX3_isBetween 3 (some .boolean)]
def wsX3_hops : List Cond := .code yX3_hops cX3_hops 4 (some .int) :: ((wsX3_hops_r1 ++ wsX3_hops_r2) ++ wsX30)
def wsX3_hopAt_r1 : List Cond := [Cond.fieldLink RX3 41 "ChordOverlayModel" "thrown" "I", Cond.fieldLink RX3 60 "ChordOverlayModel" "hopped" "I", Cond.fieldLink RX3 29 "ChordOverlayModel" "way" "[I", Cond.methodLink RX3 118 yX3_refusesLookup, Cond.instanceMethod yX3_refusesLookup, Cond.selects RX3 yX3_refusesLookup yX3_refusesLookup, Cond.initialized RX3, Cond.code yX3_refusesLookup cX3_refusesLookup 3 (some .int), Cond.methodLink RX3 67 yX3_isId, Cond.static yX3_isId, Cond.code yX3_isId cX3_isId 1 (some .boolean), Cond.methodLink RX3 85 yX3_refuses, Cond.instanceMethod yX3_refuses, Cond.selects RX3 yX3_refuses yX3_refuses, Cond.code yX3_refuses cX3_refuses 2 (some .int), Cond.fieldLink RX3 7 "ChordOverlayModel" "lives" "[Z", Cond.methodLink RX3 82 yX3_find, Cond.instanceMethod yX3_find, Cond.selects RX3 yX3_find yX3_find, Cond.code yX3_find cX3_find 5 (some .int), Cond.methodLink RX3 56 yX3_liveSuccessorOf, Cond.instanceMethod yX3_liveSuccessorOf, Cond.selects RX3 yX3_liveSuccessorOf yX3_liveSuccessorOf, Cond.code yX3_liveSuccessorOf cX3_liveSuccessorOf 4 (some .int)]
def wsX3_hopAt_r2 : List Cond := [Cond.fieldLink RX3 13 "ChordOverlayModel" "successor" "[I", Cond.methodLink RX3 49 yX3_isWithin, Cond.static yX3_isWithin, Cond.code yX3_isWithin cX3_isWithin 5 (some .boolean), Cond.methodLink RX3 45 yX3_up, Cond.static yX3_up, Cond.code yX3_up cX3_up 2 (some .int), Cond.methodLink RX3 63 yX3_nextHop, Cond.instanceMethod yX3_nextHop, Cond.selects RX3 yX3_nextHop yX3_nextHop, Cond.code yX3_nextHop cX3_nextHop 7 (some .int), Cond.fieldLink RX3 20 "ChordOverlayModel" "finger" "[I", Cond.methodLink RX3 53 yX3_isBetween, Cond.static yX3_isBetween, Cond.code yX3_isBetween cX3_isBetween 3 (some .boolean), Cond.methodLink RX3 71 yX3_fails, Cond.instanceMethod yX3_fails, Cond.selects RX3 yX3_fails yX3_fails, Cond.code yX3_fails cX3_fails 2 (some .int)]
def wsX3_hopAt : List Cond := .code yX3_hopAt cX3_hopAt 5 (some .int) :: ((wsX3_hopAt_r1 ++ wsX3_hopAt_r2) ++ wsX30)
def wsX3_put_r1 : List Cond := [Cond.fieldLink RX3 41 "ChordOverlayModel" "thrown" "I", Cond.fieldLink RX3 121 "ChordOverlayModel" "stamps" "I", Cond.fieldLink RX3 26 "ChordOverlayModel" "stamp" "[I", Cond.fieldLink RX3 23 "ChordOverlayModel" "value" "[I", Cond.methodLink RX3 118 yX3_refusesLookup, Cond.instanceMethod yX3_refusesLookup, Cond.selects RX3 yX3_refusesLookup yX3_refusesLookup, Cond.initialized RX3, Cond.code yX3_refusesLookup cX3_refusesLookup 3 (some .int), Cond.methodLink RX3 67 yX3_isId, Cond.static yX3_isId, Cond.code yX3_isId cX3_isId 1 (some .boolean), Cond.methodLink RX3 85 yX3_refuses, Cond.instanceMethod yX3_refuses, Cond.selects RX3 yX3_refuses yX3_refuses, Cond.code yX3_refuses cX3_refuses 2 (some .int), Cond.fieldLink RX3 7 "ChordOverlayModel" "lives" "[Z", Cond.methodLink RX3 82 yX3_find, Cond.instanceMethod yX3_find, Cond.selects RX3 yX3_find yX3_find, Cond.code yX3_find cX3_find 5 (some .int), Cond.fieldLink RX3 60 "ChordOverlayModel" "hopped" "I", Cond.fieldLink RX3 29 "ChordOverlayModel" "way" "[I", Cond.methodLink RX3 56 yX3_liveSuccessorOf]
def wsX3_put_r2 : List Cond := [Cond.instanceMethod yX3_liveSuccessorOf, Cond.selects RX3 yX3_liveSuccessorOf yX3_liveSuccessorOf, Cond.code yX3_liveSuccessorOf cX3_liveSuccessorOf 4 (some .int), Cond.fieldLink RX3 13 "ChordOverlayModel" "successor" "[I", Cond.methodLink RX3 49 yX3_isWithin, Cond.static yX3_isWithin, Cond.code yX3_isWithin cX3_isWithin 5 (some .boolean), Cond.methodLink RX3 45 yX3_up, Cond.static yX3_up, Cond.code yX3_up cX3_up 2 (some .int), Cond.methodLink RX3 63 yX3_nextHop, Cond.instanceMethod yX3_nextHop, Cond.selects RX3 yX3_nextHop yX3_nextHop, Cond.code yX3_nextHop cX3_nextHop 7 (some .int), Cond.fieldLink RX3 20 "ChordOverlayModel" "finger" "[I", Cond.methodLink RX3 53 yX3_isBetween, Cond.static yX3_isBetween, Cond.code yX3_isBetween cX3_isBetween 3 (some .boolean), Cond.methodLink RX3 95 yX3_spreads, Cond.instanceMethod yX3_spreads, Cond.selects RX3 yX3_spreads yX3_spreads, Cond.code yX3_spreads cX3_spreads 8 (some .int), Cond.methodLink RX3 88 yX3_copy, Cond.instanceMethod yX3_copy]
def wsX3_put_r3 : List Cond := [Cond.selects RX3 yX3_copy yX3_copy, Cond.code yX3_copy cX3_copy 4 (some .int)]
def wsX3_put : List Cond := .code yX3_put cX3_put 6 (some .int) :: ((wsX3_put_r1 ++ (wsX3_put_r2 ++ wsX3_put_r3)) ++ wsX30)
def wsX3_keptAt : List Cond := .code yX3_keptAt cX3_keptAt 3 (some .int) :: ([.fieldLink RX3 26 "ChordOverlayModel" "stamp" "[I", .fieldLink RX3 23 "ChordOverlayModel" "value" "[I"] ++ wsX30)
def wsX3_get_r1 : List Cond := [Cond.fieldLink RX3 41 "ChordOverlayModel" "thrown" "I", Cond.methodLink RX3 118 yX3_refusesLookup, Cond.instanceMethod yX3_refusesLookup, Cond.selects RX3 yX3_refusesLookup yX3_refusesLookup, Cond.initialized RX3, Cond.code yX3_refusesLookup cX3_refusesLookup 3 (some .int), Cond.methodLink RX3 67 yX3_isId, Cond.static yX3_isId, Cond.code yX3_isId cX3_isId 1 (some .boolean), Cond.methodLink RX3 85 yX3_refuses, Cond.instanceMethod yX3_refuses, Cond.selects RX3 yX3_refuses yX3_refuses, Cond.code yX3_refuses cX3_refuses 2 (some .int), Cond.fieldLink RX3 7 "ChordOverlayModel" "lives" "[Z", Cond.methodLink RX3 82 yX3_find, Cond.instanceMethod yX3_find, Cond.selects RX3 yX3_find yX3_find, Cond.code yX3_find cX3_find 5 (some .int), Cond.fieldLink RX3 60 "ChordOverlayModel" "hopped" "I", Cond.fieldLink RX3 29 "ChordOverlayModel" "way" "[I", Cond.methodLink RX3 56 yX3_liveSuccessorOf, Cond.instanceMethod yX3_liveSuccessorOf, Cond.selects RX3 yX3_liveSuccessorOf yX3_liveSuccessorOf, Cond.code yX3_liveSuccessorOf cX3_liveSuccessorOf 4 (some .int)]
def wsX3_get_r2 : List Cond := [Cond.fieldLink RX3 13 "ChordOverlayModel" "successor" "[I", Cond.methodLink RX3 49 yX3_isWithin, Cond.static yX3_isWithin, Cond.code yX3_isWithin cX3_isWithin 5 (some .boolean), Cond.methodLink RX3 45 yX3_up, Cond.static yX3_up, Cond.code yX3_up cX3_up 2 (some .int), Cond.methodLink RX3 63 yX3_nextHop, Cond.instanceMethod yX3_nextHop, Cond.selects RX3 yX3_nextHop yX3_nextHop, Cond.code yX3_nextHop cX3_nextHop 7 (some .int), Cond.fieldLink RX3 20 "ChordOverlayModel" "finger" "[I", Cond.methodLink RX3 53 yX3_isBetween, Cond.static yX3_isBetween, Cond.code yX3_isBetween cX3_isBetween 3 (some .boolean), Cond.methodLink RX3 124 yX3_keptAt, Cond.instanceMethod yX3_keptAt, Cond.selects RX3 yX3_keptAt yX3_keptAt, Cond.code yX3_keptAt cX3_keptAt 3 (some .int), Cond.fieldLink RX3 26 "ChordOverlayModel" "stamp" "[I", Cond.fieldLink RX3 23 "ChordOverlayModel" "value" "[I"]
def wsX3_get : List Cond := .code yX3_get cX3_get 4 (some .int) :: ((wsX3_get_r1 ++ wsX3_get_r2) ++ wsX30)
def wsX3_kept : List Cond := .code yX3_kept cX3_kept 3 (some .int) :: ([.fieldLink RX3 41 "ChordOverlayModel" "thrown" "I", .methodLink RX3 118 yX3_refusesLookup, .instanceMethod yX3_refusesLookup, .selects RX3 yX3_refusesLookup yX3_refusesLookup, .initialized RX3, .code yX3_refusesLookup cX3_refusesLookup 3 (some .int), .methodLink RX3 67 yX3_isId, .static yX3_isId, .code yX3_isId cX3_isId 1 (some .boolean), .methodLink RX3 85 yX3_refuses, .instanceMethod yX3_refuses, .selects RX3 yX3_refuses yX3_refuses, .code yX3_refuses cX3_refuses 2 (some .int), .fieldLink RX3 7 "ChordOverlayModel" "lives" "[Z", .methodLink RX3 124 yX3_keptAt, .instanceMethod yX3_keptAt, .selects RX3 yX3_keptAt yX3_keptAt, .code yX3_keptAt cX3_keptAt 3 (some .int), .fieldLink RX3 26 "ChordOverlayModel" "stamp" "[I", .fieldLink RX3 23 "ChordOverlayModel" "value" "[I"] ++ wsX30)
def wsX3_keepers : List Cond := .code yX3_keepers cX3_keepers 4 (some .int) :: ([.fieldLink RX3 41 "ChordOverlayModel" "thrown" "I", .fieldLink RX3 7 "ChordOverlayModel" "lives" "[Z", .fieldLink RX3 26 "ChordOverlayModel" "stamp" "[I", .methodLink RX3 67 yX3_isId, .static yX3_isId, .initialized RX3, .code yX3_isId cX3_isId 1 (some .boolean), .methodLink RX3 71 yX3_fails, .instanceMethod yX3_fails, .selects RX3 yX3_fails yX3_fails, .code yX3_fails cX3_fails 2 (some .int)] ++ wsX30)
def wsX3_owner : List Cond := .code yX3_owner cX3_owner 2 (some .int) :: ([.fieldLink RX3 41 "ChordOverlayModel" "thrown" "I", .methodLink RX3 67 yX3_isId, .static yX3_isId, .initialized RX3, .code yX3_isId cX3_isId 1 (some .boolean), .methodLink RX3 127 yX3_ownerOf, .instanceMethod yX3_ownerOf, .selects RX3 yX3_ownerOf yX3_ownerOf, .code yX3_ownerOf cX3_ownerOf 4 (some .int), .fieldLink RX3 7 "ChordOverlayModel" "lives" "[Z", .methodLink RX3 71 yX3_fails, .instanceMethod yX3_fails, .selects RX3 yX3_fails yX3_fails, .code yX3_fails cX3_fails 2 (some .int)] ++ wsX30)
def wsX3_wrongPointers_r1 : List Cond := [Cond.fieldLink RX3 41 "ChordOverlayModel" "thrown" "I", Cond.methodLink RX3 115 yX3_countWrong, Cond.instanceMethod yX3_countWrong, Cond.selects RX3 yX3_countWrong yX3_countWrong, Cond.initialized RX3, Cond.code yX3_countWrong cX3_countWrong 3 (some .int), Cond.fieldLink RX3 7 "ChordOverlayModel" "lives" "[Z", Cond.methodLink RX3 133 yX3_wrongOf, Cond.instanceMethod yX3_wrongOf, Cond.selects RX3 yX3_wrongOf yX3_wrongOf, Cond.code yX3_wrongOf cX3_wrongOf 4 (some .int), Cond.fieldLink RX3 17 "ChordOverlayModel" "predecessor" "[I", Cond.fieldLink RX3 20 "ChordOverlayModel" "finger" "[I", Cond.methodLink RX3 56 yX3_liveSuccessorOf, Cond.instanceMethod yX3_liveSuccessorOf, Cond.selects RX3 yX3_liveSuccessorOf yX3_liveSuccessorOf, Cond.code yX3_liveSuccessorOf cX3_liveSuccessorOf 4 (some .int), Cond.fieldLink RX3 13 "ChordOverlayModel" "successor" "[I", Cond.methodLink RX3 127 yX3_ownerOf, Cond.instanceMethod yX3_ownerOf, Cond.selects RX3 yX3_ownerOf yX3_ownerOf, Cond.code yX3_ownerOf cX3_ownerOf 4 (some .int), Cond.methodLink RX3 130 yX3_before, Cond.instanceMethod yX3_before]
def wsX3_wrongPointers_r2 : List Cond := [Cond.selects RX3 yX3_before yX3_before, Cond.code yX3_before cX3_before 4 (some .int)]
def wsX3_wrongPointers : List Cond := .code yX3_wrongPointers cX3_wrongPointers 1 (some .int) :: ((wsX3_wrongPointers_r1 ++ wsX3_wrongPointers_r2) ++ wsX30)
def wsX3_move : List Cond := .code yX3_move cX3_move 3 none :: ([])
def wsX3_roundsToRight_r1 : List Cond := [Cond.fieldLink RX3 41 "ChordOverlayModel" "thrown" "I", Cond.fieldLink RX3 13 "ChordOverlayModel" "successor" "[I", Cond.fieldLink RX3 32 "ChordOverlayModel" "heldSuccessor" "[I", Cond.fieldLink RX3 17 "ChordOverlayModel" "predecessor" "[I", Cond.fieldLink RX3 35 "ChordOverlayModel" "heldPredecessor" "[I", Cond.fieldLink RX3 20 "ChordOverlayModel" "finger" "[I", Cond.fieldLink RX3 38 "ChordOverlayModel" "heldFinger" "[I", Cond.methodLink RX3 71 yX3_fails, Cond.instanceMethod yX3_fails, Cond.selects RX3 yX3_fails yX3_fails, Cond.initialized RX3, Cond.code yX3_fails cX3_fails 2 (some .int), Cond.methodLink RX3 136 yX3_move, Cond.static yX3_move, Cond.code yX3_move cX3_move 3 none, Cond.methodLink RX3 115 yX3_countWrong, Cond.instanceMethod yX3_countWrong, Cond.selects RX3 yX3_countWrong yX3_countWrong, Cond.code yX3_countWrong cX3_countWrong 3 (some .int), Cond.fieldLink RX3 7 "ChordOverlayModel" "lives" "[Z", Cond.methodLink RX3 133 yX3_wrongOf, Cond.instanceMethod yX3_wrongOf, Cond.selects RX3 yX3_wrongOf yX3_wrongOf, Cond.code yX3_wrongOf cX3_wrongOf 4 (some .int)]
def wsX3_roundsToRight_r2 : List Cond := [Cond.methodLink RX3 56 yX3_liveSuccessorOf, Cond.instanceMethod yX3_liveSuccessorOf, Cond.selects RX3 yX3_liveSuccessorOf yX3_liveSuccessorOf, Cond.code yX3_liveSuccessorOf cX3_liveSuccessorOf 4 (some .int), Cond.methodLink RX3 127 yX3_ownerOf, Cond.instanceMethod yX3_ownerOf, Cond.selects RX3 yX3_ownerOf yX3_ownerOf, Cond.code yX3_ownerOf cX3_ownerOf 4 (some .int), Cond.methodLink RX3 130 yX3_before, Cond.instanceMethod yX3_before, Cond.selects RX3 yX3_before yX3_before, Cond.code yX3_before cX3_before 4 (some .int), Cond.methodLink RX3 111 yX3_round, Cond.instanceMethod yX3_round, Cond.selects RX3 yX3_round yX3_round, Cond.code yX3_round cX3_round 5 none, Cond.methodLink RX3 98 yX3_checks, Cond.instanceMethod yX3_checks, Cond.selects RX3 yX3_checks yX3_checks, Cond.code yX3_checks cX3_checks 2 none, Cond.methodLink RX3 102 yX3_stabilizes, Cond.instanceMethod yX3_stabilizes, Cond.selects RX3 yX3_stabilizes yX3_stabilizes, Cond.code yX3_stabilizes cX3_stabilizes 5 none]
def wsX3_roundsToRight_r3 : List Cond := [Cond.methodLink RX3 53 yX3_isBetween, Cond.static yX3_isBetween, Cond.code yX3_isBetween cX3_isBetween 3 (some .boolean), Cond.methodLink RX3 49 yX3_isWithin, Cond.static yX3_isWithin, Cond.code yX3_isWithin cX3_isWithin 5 (some .boolean), Cond.methodLink RX3 45 yX3_up, Cond.static yX3_up, Cond.code yX3_up cX3_up 2 (some .int), Cond.methodLink RX3 91 yX3_follows, Cond.instanceMethod yX3_follows, Cond.selects RX3 yX3_follows yX3_follows, Cond.code yX3_follows cX3_follows 5 none, Cond.methodLink RX3 105 yX3_fixes, Cond.instanceMethod yX3_fixes, Cond.selects RX3 yX3_fixes yX3_fixes, Cond.code yX3_fixes cX3_fixes 5 (some .int), Cond.methodLink RX3 82 yX3_find, Cond.instanceMethod yX3_find, Cond.selects RX3 yX3_find yX3_find, Cond.code yX3_find cX3_find 5 (some .int), Cond.fieldLink RX3 60 "ChordOverlayModel" "hopped" "I", Cond.fieldLink RX3 29 "ChordOverlayModel" "way" "[I", Cond.methodLink RX3 63 yX3_nextHop]
def wsX3_roundsToRight_r4 : List Cond := [Cond.instanceMethod yX3_nextHop, Cond.selects RX3 yX3_nextHop yX3_nextHop, Cond.code yX3_nextHop cX3_nextHop 7 (some .int), Cond.methodLink RX3 108 yX3_replicates, Cond.instanceMethod yX3_replicates, Cond.selects RX3 yX3_replicates yX3_replicates, Cond.code yX3_replicates cX3_replicates 6 (some .int), Cond.fieldLink RX3 26 "ChordOverlayModel" "stamp" "[I", Cond.methodLink RX3 95 yX3_spreads, Cond.instanceMethod yX3_spreads, Cond.selects RX3 yX3_spreads yX3_spreads, Cond.code yX3_spreads cX3_spreads 8 (some .int), Cond.methodLink RX3 88 yX3_copy, Cond.instanceMethod yX3_copy, Cond.selects RX3 yX3_copy yX3_copy, Cond.code yX3_copy cX3_copy 4 (some .int), Cond.fieldLink RX3 23 "ChordOverlayModel" "value" "[I"]
def wsX3_roundsToRight : List Cond := .code yX3_roundsToRight cX3_roundsToRight 3 (some .int) :: ((wsX3_roundsToRight_r1 ++ (wsX3_roundsToRight_r2 ++ (wsX3_roundsToRight_r3 ++ wsX3_roundsToRight_r4))) ++ wsX30)
def wsJ9_max_7cf53 : List Cond := .code yJ9_max_7cf53 cJ9_max_7cf53 2 (some .int) :: ([])
def wsJ9_min_7cf53 : List Cond := .code yJ9_min_7cf53 cJ9_min_7cf53 2 (some .int) :: ([])
def wsL_create_r1 : List Cond := [Cond.classLink RL 13 "java/lang/IllegalArgumentException", Cond.classLink RL 15 "java/lang/IllegalStateException", Cond.methodLink RL 7 yX2_create, Cond.instanceMethod yX2_create, Cond.selects RX2 yX2_create yX2_create, Cond.initialized RX2, Cond.code yX2_create cX2_create 2 (some .int), Cond.classLink RX2 61 "java/lang/IllegalStateException", Cond.initialized "java/lang/IllegalStateException", Cond.methodLink RX2 54 yX2_requireIdentifier, Cond.static yX2_requireIdentifier, Cond.code yX2_requireIdentifier cX2_requireIdentifier 1 none, Cond.methodLink RX2 99 yX2_requireRange, Cond.static yX2_requireRange, Cond.code yX2_requireRange cX2_requireRange 3 none, Cond.classLink RX2 142 "java/lang/IllegalArgumentException", Cond.initialized "java/lang/IllegalArgumentException", Cond.methodLink RX2 57 yX2_countLiving, Cond.instanceMethod yX2_countLiving, Cond.selects RX2 yX2_countLiving yX2_countLiving, Cond.code yX2_countLiving cX2_countLiving 3 (some .int), Cond.methodLink RX2 72 yX2_isAlive, Cond.instanceMethod yX2_isAlive, Cond.selects RX2 yX2_isAlive yX2_isAlive]
def wsL_create_r2 : List Cond := [Cond.code yX2_isAlive cX2_isAlive 2 (some .boolean), Cond.fieldLink RX2 9 "ChordOverlay" "lives" "[Z", Cond.methodLink RX2 68 yX2_beginLife, Cond.instanceMethod yX2_beginLife, Cond.selects RX2 yX2_beginLife yX2_beginLife, Cond.code yX2_beginLife cX2_beginLife 5 none, Cond.fieldLink RX2 22 "ChordOverlay" "predecessors" "LChordOverlay$Table;", Cond.fieldLink RX2 25 "ChordOverlay" "fingers" "LChordOverlay$Table;", Cond.fieldLink RX2 28 "ChordOverlay" "values" "LChordOverlay$Table;", Cond.fieldLink RX2 31 "ChordOverlay" "stamps" "LChordOverlay$Table;", Cond.methodLink RX2 149 yX2_setSuccessors, Cond.instanceMethod yX2_setSuccessors, Cond.selects RX2 yX2_setSuccessors yX2_setSuccessors, Cond.code yX2_setSuccessors cX2_setSuccessors 5 none, Cond.fieldLink RX2 18 "ChordOverlay" "successors" "LChordOverlay$Table;", Cond.methodLink RX2 127 yX1_set, Cond.instanceMethod yX1_set, Cond.selects RX1 yX1_set yX1_set, Cond.initialized RX1, Cond.code yX1_set cX1_set 5 none, Cond.fieldLink RX1 18 "ChordOverlay$Table" "width" "I", Cond.fieldLink RX1 24 "ChordOverlay$Table" "cells" "[I", Cond.methodLink RX2 152 yX1_clear, Cond.instanceMethod yX1_clear]
def wsL_create_r3 : List Cond := [Cond.selects RX1 yX1_clear yX1_clear, Cond.code yX1_clear cX1_clear 3 none, Cond.methodLink RX1 34 yX1_set, Cond.methodLink RX2 155 yX2_setAlive, Cond.instanceMethod yX2_setAlive, Cond.selects RX2 yX2_setAlive yX2_setAlive, Cond.code yX2_setAlive cX2_setAlive 3 none]
def wsL_create : List Cond := .codeWith yL_create cL_create 4 (some .int) [(0, 9, 12, 13), (0, 9, 15, 15)] :: ((wsL_create_r1 ++ (wsL_create_r2 ++ wsL_create_r3)) ++ wsX20 ++ wsX10 ++ (vx_atS RX2 65 "java/lang/IllegalStateException" ["java/lang/RuntimeException", "java/lang/Exception"]).filter goodWord ++ (vx_atS RX2 146 "java/lang/IllegalArgumentException" ["java/lang/RuntimeException", "java/lang/Exception"]).filter goodWord)
def wsL_join_r1 : List Cond := [Cond.classLink RL 13 "java/lang/IllegalArgumentException", Cond.classLink RL 15 "java/lang/IllegalStateException", Cond.methodLink RL 17 yX2_join, Cond.instanceMethod yX2_join, Cond.selects RX2 yX2_join yX2_join, Cond.initialized RX2, Cond.code yX2_join cX2_join 4 (some .int), Cond.classLink RX2 61 "java/lang/IllegalStateException", Cond.initialized "java/lang/IllegalStateException", Cond.fieldLink RX2 18 "ChordOverlay" "successors" "LChordOverlay$Table;", Cond.methodLink RX2 54 yX2_requireIdentifier, Cond.static yX2_requireIdentifier, Cond.code yX2_requireIdentifier cX2_requireIdentifier 1 none, Cond.methodLink RX2 99 yX2_requireRange, Cond.static yX2_requireRange, Cond.code yX2_requireRange cX2_requireRange 3 none, Cond.classLink RX2 142 "java/lang/IllegalArgumentException", Cond.initialized "java/lang/IllegalArgumentException", Cond.methodLink RX2 72 yX2_isAlive, Cond.instanceMethod yX2_isAlive, Cond.selects RX2 yX2_isAlive yX2_isAlive, Cond.code yX2_isAlive cX2_isAlive 2 (some .boolean), Cond.fieldLink RX2 9 "ChordOverlay" "lives" "[Z", Cond.methodLink RX2 78 yX2_requireAlive]
def wsL_join_r2 : List Cond := [Cond.instanceMethod yX2_requireAlive, Cond.selects RX2 yX2_requireAlive yX2_requireAlive, Cond.code yX2_requireAlive cX2_requireAlive 2 none, Cond.methodLink RX2 81 yX2_find, Cond.instanceMethod yX2_find, Cond.selects RX2 yX2_find yX2_find, Cond.code yX2_find cX2_find 6 (some .int), Cond.fieldLink RX2 38 "ChordOverlay" "route" "[I", Cond.fieldLink RX2 42 "ChordOverlay" "routeHops" "I", Cond.methodLink RX2 91 yX2_firstLivingSuccessor, Cond.instanceMethod yX2_firstLivingSuccessor, Cond.selects RX2 yX2_firstLivingSuccessor yX2_firstLivingSuccessor, Cond.code yX2_firstLivingSuccessor cX2_firstLivingSuccessor 4 (some .int), Cond.methodLink RX2 85 yX1_at, Cond.instanceMethod yX1_at, Cond.selects RX1 yX1_at yX1_at, Cond.initialized RX1, Cond.code yX1_at cX1_at 4 (some .int), Cond.fieldLink RX1 18 "ChordOverlay$Table" "width" "I", Cond.fieldLink RX1 24 "ChordOverlay$Table" "cells" "[I", Cond.methodLink RX2 181 yX0_isUpTo, Cond.static yX0_isUpTo, Cond.initialized RX0, Cond.code yX0_isUpTo cX0_isUpTo 3 (some .boolean)]
def wsL_join_r3 : List Cond := [Cond.methodLink RX2 184 yX2_hopTowards, Cond.instanceMethod yX2_hopTowards, Cond.selects RX2 yX2_hopTowards yX2_hopTowards, Cond.code yX2_hopTowards cX2_hopTowards 6 (some .int), Cond.fieldLink RX2 25 "ChordOverlay" "fingers" "LChordOverlay$Table;", Cond.methodLink RX2 166 yX0_isBetween, Cond.static yX0_isBetween, Cond.code yX0_isBetween cX0_isBetween 3 (some .boolean), Cond.methodLink RX2 68 yX2_beginLife, Cond.instanceMethod yX2_beginLife, Cond.selects RX2 yX2_beginLife yX2_beginLife, Cond.code yX2_beginLife cX2_beginLife 5 none, Cond.fieldLink RX2 22 "ChordOverlay" "predecessors" "LChordOverlay$Table;", Cond.fieldLink RX2 28 "ChordOverlay" "values" "LChordOverlay$Table;", Cond.fieldLink RX2 31 "ChordOverlay" "stamps" "LChordOverlay$Table;", Cond.methodLink RX2 149 yX2_setSuccessors, Cond.instanceMethod yX2_setSuccessors, Cond.selects RX2 yX2_setSuccessors yX2_setSuccessors, Cond.code yX2_setSuccessors cX2_setSuccessors 5 none, Cond.methodLink RX2 127 yX1_set, Cond.instanceMethod yX1_set, Cond.selects RX1 yX1_set yX1_set, Cond.code yX1_set cX1_set 5 none, Cond.methodLink RX2 152 yX1_clear]
def wsL_join_r4 : List Cond := [Cond.instanceMethod yX1_clear, Cond.selects RX1 yX1_clear yX1_clear, Cond.code yX1_clear cX1_clear 3 none, Cond.methodLink RX1 34 yX1_set, Cond.methodLink RX2 155 yX2_setAlive, Cond.instanceMethod yX2_setAlive, Cond.selects RX2 yX2_setAlive yX2_setAlive, Cond.code yX2_setAlive cX2_setAlive 3 none]
def wsL_join : List Cond := .codeWith yL_join cL_join 5 (some .int) [(0, 10, 13, 13), (0, 10, 17, 15)] :: ((wsL_join_r1 ++ (wsL_join_r2 ++ (wsL_join_r3 ++ wsL_join_r4))) ++ wsX20 ++ wsX10 ++ (vx_atS RX2 65 "java/lang/IllegalStateException" ["java/lang/RuntimeException", "java/lang/Exception"]).filter goodWord ++ (vx_atS RX2 146 "java/lang/IllegalArgumentException" ["java/lang/RuntimeException", "java/lang/Exception"]).filter goodWord)
def wsL_fail_r1 : List Cond := [Cond.classLink RL 13 "java/lang/IllegalArgumentException", Cond.classLink RL 15 "java/lang/IllegalStateException", Cond.methodLink RL 21 yX2_fail, Cond.instanceMethod yX2_fail, Cond.selects RX2 yX2_fail yX2_fail, Cond.initialized RX2, Cond.code yX2_fail cX2_fail 2 (some .int), Cond.methodLink RX2 54 yX2_requireIdentifier, Cond.static yX2_requireIdentifier, Cond.code yX2_requireIdentifier cX2_requireIdentifier 1 none, Cond.methodLink RX2 99 yX2_requireRange, Cond.static yX2_requireRange, Cond.code yX2_requireRange cX2_requireRange 3 none, Cond.classLink RX2 142 "java/lang/IllegalArgumentException", Cond.initialized "java/lang/IllegalArgumentException", Cond.methodLink RX2 78 yX2_requireAlive, Cond.instanceMethod yX2_requireAlive, Cond.selects RX2 yX2_requireAlive yX2_requireAlive, Cond.code yX2_requireAlive cX2_requireAlive 2 none, Cond.classLink RX2 61 "java/lang/IllegalStateException", Cond.initialized "java/lang/IllegalStateException", Cond.methodLink RX2 72 yX2_isAlive, Cond.instanceMethod yX2_isAlive, Cond.selects RX2 yX2_isAlive yX2_isAlive]
def wsL_fail_r2 : List Cond := [Cond.code yX2_isAlive cX2_isAlive 2 (some .boolean), Cond.fieldLink RX2 9 "ChordOverlay" "lives" "[Z", Cond.methodLink RX2 88 yX2_endLife, Cond.instanceMethod yX2_endLife, Cond.selects RX2 yX2_endLife yX2_endLife, Cond.code yX2_endLife cX2_endLife 2 none, Cond.methodLink RX2 155 yX2_setAlive, Cond.instanceMethod yX2_setAlive, Cond.selects RX2 yX2_setAlive yX2_setAlive, Cond.code yX2_setAlive cX2_setAlive 3 none, Cond.methodLink RX2 57 yX2_countLiving, Cond.instanceMethod yX2_countLiving, Cond.selects RX2 yX2_countLiving yX2_countLiving, Cond.code yX2_countLiving cX2_countLiving 3 (some .int)]
def wsL_fail : List Cond := .codeWith yL_fail cL_fail 4 (some .int) [(0, 9, 12, 13), (0, 9, 15, 15)] :: ((wsL_fail_r1 ++ wsL_fail_r2) ++ wsX20 ++ (vx_atS RX2 146 "java/lang/IllegalArgumentException" ["java/lang/RuntimeException", "java/lang/Exception"]).filter goodWord ++ (vx_atS RX2 65 "java/lang/IllegalStateException" ["java/lang/RuntimeException", "java/lang/Exception"]).filter goodWord)
def wsL_leave_r1 : List Cond := [Cond.classLink RL 13 "java/lang/IllegalArgumentException", Cond.classLink RL 15 "java/lang/IllegalStateException", Cond.methodLink RL 24 yX2_leave, Cond.instanceMethod yX2_leave, Cond.selects RX2 yX2_leave yX2_leave, Cond.initialized RX2, Cond.code yX2_leave cX2_leave 3 (some .int), Cond.methodLink RX2 54 yX2_requireIdentifier, Cond.static yX2_requireIdentifier, Cond.code yX2_requireIdentifier cX2_requireIdentifier 1 none, Cond.methodLink RX2 99 yX2_requireRange, Cond.static yX2_requireRange, Cond.code yX2_requireRange cX2_requireRange 3 none, Cond.classLink RX2 142 "java/lang/IllegalArgumentException", Cond.initialized "java/lang/IllegalArgumentException", Cond.methodLink RX2 78 yX2_requireAlive, Cond.instanceMethod yX2_requireAlive, Cond.selects RX2 yX2_requireAlive yX2_requireAlive, Cond.code yX2_requireAlive cX2_requireAlive 2 none, Cond.classLink RX2 61 "java/lang/IllegalStateException", Cond.initialized "java/lang/IllegalStateException", Cond.methodLink RX2 72 yX2_isAlive, Cond.instanceMethod yX2_isAlive, Cond.selects RX2 yX2_isAlive yX2_isAlive]
def wsL_leave_r2 : List Cond := [Cond.code yX2_isAlive cX2_isAlive 2 (some .boolean), Cond.fieldLink RX2 9 "ChordOverlay" "lives" "[Z", Cond.methodLink RX2 91 yX2_firstLivingSuccessor, Cond.instanceMethod yX2_firstLivingSuccessor, Cond.selects RX2 yX2_firstLivingSuccessor yX2_firstLivingSuccessor, Cond.code yX2_firstLivingSuccessor cX2_firstLivingSuccessor 4 (some .int), Cond.fieldLink RX2 18 "ChordOverlay" "successors" "LChordOverlay$Table;", Cond.methodLink RX2 85 yX1_at, Cond.instanceMethod yX1_at, Cond.selects RX1 yX1_at yX1_at, Cond.initialized RX1, Cond.code yX1_at cX1_at 4 (some .int), Cond.fieldLink RX1 18 "ChordOverlay$Table" "width" "I", Cond.fieldLink RX1 24 "ChordOverlay$Table" "cells" "[I", Cond.methodLink RX2 95 yX2_handOver, Cond.instanceMethod yX2_handOver, Cond.selects RX2 yX2_handOver yX2_handOver, Cond.code yX2_handOver cX2_handOver 4 none, Cond.fieldLink RX2 22 "ChordOverlay" "predecessors" "LChordOverlay$Table;", Cond.methodLink RX2 159 yX2_giveCopy, Cond.instanceMethod yX2_giveCopy, Cond.selects RX2 yX2_giveCopy yX2_giveCopy, Cond.code yX2_giveCopy cX2_giveCopy 5 (some .int), Cond.fieldLink RX2 31 "ChordOverlay" "stamps" "LChordOverlay$Table;"]
def wsL_leave_r3 : List Cond := [Cond.fieldLink RX2 28 "ChordOverlay" "values" "LChordOverlay$Table;", Cond.methodLink RX2 127 yX1_set, Cond.instanceMethod yX1_set, Cond.selects RX1 yX1_set yX1_set, Cond.code yX1_set cX1_set 5 none, Cond.methodLink RX2 163 yX2_follow, Cond.instanceMethod yX2_follow, Cond.selects RX2 yX2_follow yX2_follow, Cond.code yX2_follow cX2_follow 5 none, Cond.methodLink RX2 149 yX2_setSuccessors, Cond.instanceMethod yX2_setSuccessors, Cond.selects RX2 yX2_setSuccessors yX2_setSuccessors, Cond.code yX2_setSuccessors cX2_setSuccessors 5 none, Cond.methodLink RX2 88 yX2_endLife, Cond.instanceMethod yX2_endLife, Cond.selects RX2 yX2_endLife yX2_endLife, Cond.code yX2_endLife cX2_endLife 2 none, Cond.methodLink RX2 155 yX2_setAlive, Cond.instanceMethod yX2_setAlive, Cond.selects RX2 yX2_setAlive yX2_setAlive, Cond.code yX2_setAlive cX2_setAlive 3 none, Cond.methodLink RX2 57 yX2_countLiving, Cond.instanceMethod yX2_countLiving, Cond.selects RX2 yX2_countLiving yX2_countLiving]
def wsL_leave_r4 : List Cond := [Cond.code yX2_countLiving cX2_countLiving 3 (some .int)]
def wsL_leave : List Cond := .codeWith yL_leave cL_leave 4 (some .int) [(0, 9, 12, 13), (0, 9, 15, 15)] :: ((wsL_leave_r1 ++ (wsL_leave_r2 ++ (wsL_leave_r3 ++ wsL_leave_r4))) ++ wsX20 ++ wsX10 ++ (vx_atS RX2 146 "java/lang/IllegalArgumentException" ["java/lang/RuntimeException", "java/lang/Exception"]).filter goodWord ++ (vx_atS RX2 65 "java/lang/IllegalStateException" ["java/lang/RuntimeException", "java/lang/Exception"]).filter goodWord)
def wsL_isLiving : List Cond := .codeWith yL_isLiving cL_isLiving 4 (some .int) [(0, 16, 19, 13)] :: ([.classLink RL 13 "java/lang/IllegalArgumentException", .methodLink RL 27 yX2_isLiving, .instanceMethod yX2_isLiving, .selects RX2 yX2_isLiving yX2_isLiving, .initialized RX2, .code yX2_isLiving cX2_isLiving 2 (some .boolean), .methodLink RX2 54 yX2_requireIdentifier, .static yX2_requireIdentifier, .code yX2_requireIdentifier cX2_requireIdentifier 1 none, .methodLink RX2 99 yX2_requireRange, .static yX2_requireRange, .code yX2_requireRange cX2_requireRange 3 none, .classLink RX2 142 "java/lang/IllegalArgumentException", .initialized "java/lang/IllegalArgumentException", .methodLink RX2 72 yX2_isAlive, .instanceMethod yX2_isAlive, .selects RX2 yX2_isAlive yX2_isAlive, .code yX2_isAlive cX2_isAlive 2 (some .boolean), .fieldLink RX2 9 "ChordOverlay" "lives" "[Z"] ++ wsX20 ++ (vx_atS RX2 146 "java/lang/IllegalArgumentException" ["java/lang/RuntimeException", "java/lang/Exception"]).filter goodWord)
def wsL_successor_r1 : List Cond := [Cond.classLink RL 13 "java/lang/IllegalArgumentException", Cond.classLink RL 15 "java/lang/IllegalStateException", Cond.methodLink RL 31 yX2_successor, Cond.instanceMethod yX2_successor, Cond.selects RX2 yX2_successor yX2_successor, Cond.initialized RX2, Cond.code yX2_successor cX2_successor 3 (some .int), Cond.fieldLink RX2 18 "ChordOverlay" "successors" "LChordOverlay$Table;", Cond.methodLink RX2 54 yX2_requireIdentifier, Cond.static yX2_requireIdentifier, Cond.code yX2_requireIdentifier cX2_requireIdentifier 1 none, Cond.methodLink RX2 99 yX2_requireRange, Cond.static yX2_requireRange, Cond.code yX2_requireRange cX2_requireRange 3 none, Cond.classLink RX2 142 "java/lang/IllegalArgumentException", Cond.initialized "java/lang/IllegalArgumentException", Cond.methodLink RX2 78 yX2_requireAlive, Cond.instanceMethod yX2_requireAlive, Cond.selects RX2 yX2_requireAlive yX2_requireAlive, Cond.code yX2_requireAlive cX2_requireAlive 2 none, Cond.classLink RX2 61 "java/lang/IllegalStateException", Cond.initialized "java/lang/IllegalStateException", Cond.methodLink RX2 72 yX2_isAlive, Cond.instanceMethod yX2_isAlive]
def wsL_successor_r2 : List Cond := [Cond.selects RX2 yX2_isAlive yX2_isAlive, Cond.code yX2_isAlive cX2_isAlive 2 (some .boolean), Cond.fieldLink RX2 9 "ChordOverlay" "lives" "[Z", Cond.methodLink RX2 85 yX1_at, Cond.instanceMethod yX1_at, Cond.selects RX1 yX1_at yX1_at, Cond.initialized RX1, Cond.code yX1_at cX1_at 4 (some .int), Cond.fieldLink RX1 18 "ChordOverlay$Table" "width" "I", Cond.fieldLink RX1 24 "ChordOverlay$Table" "cells" "[I"]
def wsL_successor : List Cond := .codeWith yL_successor cL_successor 5 (some .int) [(0, 10, 13, 13), (0, 10, 17, 15)] :: ((wsL_successor_r1 ++ wsL_successor_r2) ++ wsX20 ++ wsX10 ++ (vx_atS RX2 146 "java/lang/IllegalArgumentException" ["java/lang/RuntimeException", "java/lang/Exception"]).filter goodWord ++ (vx_atS RX2 65 "java/lang/IllegalStateException" ["java/lang/RuntimeException", "java/lang/Exception"]).filter goodWord)
def wsL_liveSuccessor_r1 : List Cond := [Cond.classLink RL 13 "java/lang/IllegalArgumentException", Cond.classLink RL 15 "java/lang/IllegalStateException", Cond.methodLink RL 34 yX2_liveSuccessor, Cond.instanceMethod yX2_liveSuccessor, Cond.selects RX2 yX2_liveSuccessor yX2_liveSuccessor, Cond.initialized RX2, Cond.code yX2_liveSuccessor cX2_liveSuccessor 2 (some .int), Cond.methodLink RX2 54 yX2_requireIdentifier, Cond.static yX2_requireIdentifier, Cond.code yX2_requireIdentifier cX2_requireIdentifier 1 none, Cond.methodLink RX2 99 yX2_requireRange, Cond.static yX2_requireRange, Cond.code yX2_requireRange cX2_requireRange 3 none, Cond.classLink RX2 142 "java/lang/IllegalArgumentException", Cond.initialized "java/lang/IllegalArgumentException", Cond.methodLink RX2 78 yX2_requireAlive, Cond.instanceMethod yX2_requireAlive, Cond.selects RX2 yX2_requireAlive yX2_requireAlive, Cond.code yX2_requireAlive cX2_requireAlive 2 none, Cond.classLink RX2 61 "java/lang/IllegalStateException", Cond.initialized "java/lang/IllegalStateException", Cond.methodLink RX2 72 yX2_isAlive, Cond.instanceMethod yX2_isAlive, Cond.selects RX2 yX2_isAlive yX2_isAlive]
def wsL_liveSuccessor_r2 : List Cond := [Cond.code yX2_isAlive cX2_isAlive 2 (some .boolean), Cond.fieldLink RX2 9 "ChordOverlay" "lives" "[Z", Cond.methodLink RX2 91 yX2_firstLivingSuccessor, Cond.instanceMethod yX2_firstLivingSuccessor, Cond.selects RX2 yX2_firstLivingSuccessor yX2_firstLivingSuccessor, Cond.code yX2_firstLivingSuccessor cX2_firstLivingSuccessor 4 (some .int), Cond.fieldLink RX2 18 "ChordOverlay" "successors" "LChordOverlay$Table;", Cond.methodLink RX2 85 yX1_at, Cond.instanceMethod yX1_at, Cond.selects RX1 yX1_at yX1_at, Cond.initialized RX1, Cond.code yX1_at cX1_at 4 (some .int), Cond.fieldLink RX1 18 "ChordOverlay$Table" "width" "I", Cond.fieldLink RX1 24 "ChordOverlay$Table" "cells" "[I"]
def wsL_liveSuccessor : List Cond := .codeWith yL_liveSuccessor cL_liveSuccessor 4 (some .int) [(0, 9, 12, 13), (0, 9, 15, 15)] :: ((wsL_liveSuccessor_r1 ++ wsL_liveSuccessor_r2) ++ wsX20 ++ wsX10 ++ (vx_atS RX2 146 "java/lang/IllegalArgumentException" ["java/lang/RuntimeException", "java/lang/Exception"]).filter goodWord ++ (vx_atS RX2 65 "java/lang/IllegalStateException" ["java/lang/RuntimeException", "java/lang/Exception"]).filter goodWord)
def wsL_predecessor_r1 : List Cond := [Cond.classLink RL 13 "java/lang/IllegalArgumentException", Cond.classLink RL 15 "java/lang/IllegalStateException", Cond.methodLink RL 37 yX2_predecessor, Cond.instanceMethod yX2_predecessor, Cond.selects RX2 yX2_predecessor yX2_predecessor, Cond.initialized RX2, Cond.code yX2_predecessor cX2_predecessor 2 (some .int), Cond.fieldLink RX2 22 "ChordOverlay" "predecessors" "LChordOverlay$Table;", Cond.methodLink RX2 54 yX2_requireIdentifier, Cond.static yX2_requireIdentifier, Cond.code yX2_requireIdentifier cX2_requireIdentifier 1 none, Cond.methodLink RX2 99 yX2_requireRange, Cond.static yX2_requireRange, Cond.code yX2_requireRange cX2_requireRange 3 none, Cond.classLink RX2 142 "java/lang/IllegalArgumentException", Cond.initialized "java/lang/IllegalArgumentException", Cond.methodLink RX2 78 yX2_requireAlive, Cond.instanceMethod yX2_requireAlive, Cond.selects RX2 yX2_requireAlive yX2_requireAlive, Cond.code yX2_requireAlive cX2_requireAlive 2 none, Cond.classLink RX2 61 "java/lang/IllegalStateException", Cond.initialized "java/lang/IllegalStateException", Cond.methodLink RX2 72 yX2_isAlive, Cond.instanceMethod yX2_isAlive]
def wsL_predecessor_r2 : List Cond := [Cond.selects RX2 yX2_isAlive yX2_isAlive, Cond.code yX2_isAlive cX2_isAlive 2 (some .boolean), Cond.fieldLink RX2 9 "ChordOverlay" "lives" "[Z", Cond.methodLink RX2 85 yX1_at, Cond.instanceMethod yX1_at, Cond.selects RX1 yX1_at yX1_at, Cond.initialized RX1, Cond.code yX1_at cX1_at 4 (some .int), Cond.fieldLink RX1 18 "ChordOverlay$Table" "width" "I", Cond.fieldLink RX1 24 "ChordOverlay$Table" "cells" "[I"]
def wsL_predecessor : List Cond := .codeWith yL_predecessor cL_predecessor 4 (some .int) [(0, 9, 12, 13), (0, 9, 15, 15)] :: ((wsL_predecessor_r1 ++ wsL_predecessor_r2) ++ wsX20 ++ wsX10 ++ (vx_atS RX2 146 "java/lang/IllegalArgumentException" ["java/lang/RuntimeException", "java/lang/Exception"]).filter goodWord ++ (vx_atS RX2 65 "java/lang/IllegalStateException" ["java/lang/RuntimeException", "java/lang/Exception"]).filter goodWord)
def wsL_finger_r1 : List Cond := [Cond.classLink RL 13 "java/lang/IllegalArgumentException", Cond.classLink RL 15 "java/lang/IllegalStateException", Cond.methodLink RL 40 yX2_finger, Cond.instanceMethod yX2_finger, Cond.selects RX2 yX2_finger yX2_finger, Cond.initialized RX2, Cond.code yX2_finger cX2_finger 3 (some .int), Cond.fieldLink RX2 25 "ChordOverlay" "fingers" "LChordOverlay$Table;", Cond.methodLink RX2 54 yX2_requireIdentifier, Cond.static yX2_requireIdentifier, Cond.code yX2_requireIdentifier cX2_requireIdentifier 1 none, Cond.methodLink RX2 99 yX2_requireRange, Cond.static yX2_requireRange, Cond.code yX2_requireRange cX2_requireRange 3 none, Cond.classLink RX2 142 "java/lang/IllegalArgumentException", Cond.initialized "java/lang/IllegalArgumentException", Cond.methodLink RX2 78 yX2_requireAlive, Cond.instanceMethod yX2_requireAlive, Cond.selects RX2 yX2_requireAlive yX2_requireAlive, Cond.code yX2_requireAlive cX2_requireAlive 2 none, Cond.classLink RX2 61 "java/lang/IllegalStateException", Cond.initialized "java/lang/IllegalStateException", Cond.methodLink RX2 72 yX2_isAlive, Cond.instanceMethod yX2_isAlive]
def wsL_finger_r2 : List Cond := [Cond.selects RX2 yX2_isAlive yX2_isAlive, Cond.code yX2_isAlive cX2_isAlive 2 (some .boolean), Cond.fieldLink RX2 9 "ChordOverlay" "lives" "[Z", Cond.methodLink RX2 85 yX1_at, Cond.instanceMethod yX1_at, Cond.selects RX1 yX1_at yX1_at, Cond.initialized RX1, Cond.code yX1_at cX1_at 4 (some .int), Cond.fieldLink RX1 18 "ChordOverlay$Table" "width" "I", Cond.fieldLink RX1 24 "ChordOverlay$Table" "cells" "[I"]
def wsL_finger : List Cond := .codeWith yL_finger cL_finger 5 (some .int) [(0, 10, 13, 13), (0, 10, 17, 15)] :: ((wsL_finger_r1 ++ wsL_finger_r2) ++ wsX20 ++ wsX10 ++ (vx_atS RX2 146 "java/lang/IllegalArgumentException" ["java/lang/RuntimeException", "java/lang/Exception"]).filter goodWord ++ (vx_atS RX2 65 "java/lang/IllegalStateException" ["java/lang/RuntimeException", "java/lang/Exception"]).filter goodWord)
def wsL_check_r1 : List Cond := [Cond.classLink RL 13 "java/lang/IllegalArgumentException", Cond.classLink RL 15 "java/lang/IllegalStateException", Cond.methodLink RL 43 yX2_check, Cond.instanceMethod yX2_check, Cond.selects RX2 yX2_check yX2_check, Cond.initialized RX2, Cond.code yX2_check cX2_check 2 (some .boolean), Cond.fieldLink RX2 22 "ChordOverlay" "predecessors" "LChordOverlay$Table;", Cond.methodLink RX2 54 yX2_requireIdentifier, Cond.static yX2_requireIdentifier, Cond.code yX2_requireIdentifier cX2_requireIdentifier 1 none, Cond.methodLink RX2 99 yX2_requireRange, Cond.static yX2_requireRange, Cond.code yX2_requireRange cX2_requireRange 3 none, Cond.classLink RX2 142 "java/lang/IllegalArgumentException", Cond.initialized "java/lang/IllegalArgumentException", Cond.methodLink RX2 78 yX2_requireAlive, Cond.instanceMethod yX2_requireAlive, Cond.selects RX2 yX2_requireAlive yX2_requireAlive, Cond.code yX2_requireAlive cX2_requireAlive 2 none, Cond.classLink RX2 61 "java/lang/IllegalStateException", Cond.initialized "java/lang/IllegalStateException", Cond.methodLink RX2 72 yX2_isAlive, Cond.instanceMethod yX2_isAlive]
def wsL_check_r2 : List Cond := [Cond.selects RX2 yX2_isAlive yX2_isAlive, Cond.code yX2_isAlive cX2_isAlive 2 (some .boolean), Cond.fieldLink RX2 9 "ChordOverlay" "lives" "[Z", Cond.methodLink RX2 103 yX2_dropDeadPredecessor, Cond.instanceMethod yX2_dropDeadPredecessor, Cond.selects RX2 yX2_dropDeadPredecessor yX2_dropDeadPredecessor, Cond.code yX2_dropDeadPredecessor cX2_dropDeadPredecessor 2 none, Cond.methodLink RX2 85 yX1_at, Cond.instanceMethod yX1_at, Cond.selects RX1 yX1_at yX1_at, Cond.initialized RX1, Cond.code yX1_at cX1_at 4 (some .int), Cond.fieldLink RX1 18 "ChordOverlay$Table" "width" "I", Cond.fieldLink RX1 24 "ChordOverlay$Table" "cells" "[I", Cond.methodLink RX2 127 yX1_set, Cond.instanceMethod yX1_set, Cond.selects RX1 yX1_set yX1_set, Cond.code yX1_set cX1_set 5 none]
def wsL_check : List Cond := .codeWith yL_check cL_check 4 (some .int) [(0, 16, 19, 13), (0, 16, 22, 15)] :: ((wsL_check_r1 ++ wsL_check_r2) ++ wsX20 ++ wsX10 ++ (vx_atS RX2 146 "java/lang/IllegalArgumentException" ["java/lang/RuntimeException", "java/lang/Exception"]).filter goodWord ++ (vx_atS RX2 65 "java/lang/IllegalStateException" ["java/lang/RuntimeException", "java/lang/Exception"]).filter goodWord)
def wsL_stabilize_r1 : List Cond := [Cond.classLink RL 13 "java/lang/IllegalArgumentException", Cond.classLink RL 15 "java/lang/IllegalStateException", Cond.methodLink RL 46 yX2_stabilize, Cond.instanceMethod yX2_stabilize, Cond.selects RX2 yX2_stabilize yX2_stabilize, Cond.initialized RX2, Cond.code yX2_stabilize cX2_stabilize 2 (some .int), Cond.fieldLink RX2 18 "ChordOverlay" "successors" "LChordOverlay$Table;", Cond.methodLink RX2 54 yX2_requireIdentifier, Cond.static yX2_requireIdentifier, Cond.code yX2_requireIdentifier cX2_requireIdentifier 1 none, Cond.methodLink RX2 99 yX2_requireRange, Cond.static yX2_requireRange, Cond.code yX2_requireRange cX2_requireRange 3 none, Cond.classLink RX2 142 "java/lang/IllegalArgumentException", Cond.initialized "java/lang/IllegalArgumentException", Cond.methodLink RX2 78 yX2_requireAlive, Cond.instanceMethod yX2_requireAlive, Cond.selects RX2 yX2_requireAlive yX2_requireAlive, Cond.code yX2_requireAlive cX2_requireAlive 2 none, Cond.classLink RX2 61 "java/lang/IllegalStateException", Cond.initialized "java/lang/IllegalStateException", Cond.methodLink RX2 72 yX2_isAlive, Cond.instanceMethod yX2_isAlive]
def wsL_stabilize_r2 : List Cond := [Cond.selects RX2 yX2_isAlive yX2_isAlive, Cond.code yX2_isAlive cX2_isAlive 2 (some .boolean), Cond.fieldLink RX2 9 "ChordOverlay" "lives" "[Z", Cond.methodLink RX2 106 yX2_mendSuccessors, Cond.instanceMethod yX2_mendSuccessors, Cond.selects RX2 yX2_mendSuccessors yX2_mendSuccessors, Cond.code yX2_mendSuccessors cX2_mendSuccessors 4 none, Cond.fieldLink RX2 22 "ChordOverlay" "predecessors" "LChordOverlay$Table;", Cond.methodLink RX2 91 yX2_firstLivingSuccessor, Cond.instanceMethod yX2_firstLivingSuccessor, Cond.selects RX2 yX2_firstLivingSuccessor yX2_firstLivingSuccessor, Cond.code yX2_firstLivingSuccessor cX2_firstLivingSuccessor 4 (some .int), Cond.methodLink RX2 85 yX1_at, Cond.instanceMethod yX1_at, Cond.selects RX1 yX1_at yX1_at, Cond.initialized RX1, Cond.code yX1_at cX1_at 4 (some .int), Cond.fieldLink RX1 18 "ChordOverlay$Table" "width" "I", Cond.fieldLink RX1 24 "ChordOverlay$Table" "cells" "[I", Cond.methodLink RX2 166 yX0_isBetween, Cond.static yX0_isBetween, Cond.initialized RX0, Cond.code yX0_isBetween cX0_isBetween 3 (some .boolean), Cond.methodLink RX2 163 yX2_follow]
def wsL_stabilize_r3 : List Cond := [Cond.instanceMethod yX2_follow, Cond.selects RX2 yX2_follow yX2_follow, Cond.code yX2_follow cX2_follow 5 none, Cond.methodLink RX2 149 yX2_setSuccessors, Cond.instanceMethod yX2_setSuccessors, Cond.selects RX2 yX2_setSuccessors yX2_setSuccessors, Cond.code yX2_setSuccessors cX2_setSuccessors 5 none, Cond.methodLink RX2 127 yX1_set, Cond.instanceMethod yX1_set, Cond.selects RX1 yX1_set yX1_set, Cond.code yX1_set cX1_set 5 none, Cond.methodLink RX2 172 yX2_notifyOf, Cond.instanceMethod yX2_notifyOf, Cond.selects RX2 yX2_notifyOf yX2_notifyOf, Cond.code yX2_notifyOf cX2_notifyOf 4 none]
def wsL_stabilize : List Cond := .codeWith yL_stabilize cL_stabilize 4 (some .int) [(0, 9, 12, 13), (0, 9, 15, 15)] :: ((wsL_stabilize_r1 ++ (wsL_stabilize_r2 ++ wsL_stabilize_r3)) ++ wsX20 ++ wsX10 ++ (vx_atS RX2 146 "java/lang/IllegalArgumentException" ["java/lang/RuntimeException", "java/lang/Exception"]).filter goodWord ++ (vx_atS RX2 65 "java/lang/IllegalStateException" ["java/lang/RuntimeException", "java/lang/Exception"]).filter goodWord)
def wsL_fix_r1 : List Cond := [Cond.classLink RL 13 "java/lang/IllegalArgumentException", Cond.classLink RL 15 "java/lang/IllegalStateException", Cond.methodLink RL 49 yX2_fix, Cond.instanceMethod yX2_fix, Cond.selects RX2 yX2_fix yX2_fix, Cond.initialized RX2, Cond.code yX2_fix cX2_fix 2 (some .int), Cond.methodLink RX2 54 yX2_requireIdentifier, Cond.static yX2_requireIdentifier, Cond.code yX2_requireIdentifier cX2_requireIdentifier 1 none, Cond.methodLink RX2 99 yX2_requireRange, Cond.static yX2_requireRange, Cond.code yX2_requireRange cX2_requireRange 3 none, Cond.classLink RX2 142 "java/lang/IllegalArgumentException", Cond.initialized "java/lang/IllegalArgumentException", Cond.methodLink RX2 78 yX2_requireAlive, Cond.instanceMethod yX2_requireAlive, Cond.selects RX2 yX2_requireAlive yX2_requireAlive, Cond.code yX2_requireAlive cX2_requireAlive 2 none, Cond.classLink RX2 61 "java/lang/IllegalStateException", Cond.initialized "java/lang/IllegalStateException", Cond.methodLink RX2 72 yX2_isAlive, Cond.instanceMethod yX2_isAlive, Cond.selects RX2 yX2_isAlive yX2_isAlive]
def wsL_fix_r2 : List Cond := [Cond.code yX2_isAlive cX2_isAlive 2 (some .boolean), Cond.fieldLink RX2 9 "ChordOverlay" "lives" "[Z", Cond.methodLink RX2 109 yX2_renewFingers, Cond.instanceMethod yX2_renewFingers, Cond.selects RX2 yX2_renewFingers yX2_renewFingers, Cond.code yX2_renewFingers cX2_renewFingers 5 (some .int), Cond.fieldLink RX2 25 "ChordOverlay" "fingers" "LChordOverlay$Table;", Cond.methodLink RX2 175 yX0_fingerStart, Cond.static yX0_fingerStart, Cond.initialized RX0, Cond.code yX0_fingerStart cX0_fingerStart 2 (some .int), Cond.methodLink RX0 11 yX0_onward, Cond.static yX0_onward, Cond.code yX0_onward cX0_onward 2 (some .int), Cond.methodLink RX2 81 yX2_find, Cond.instanceMethod yX2_find, Cond.selects RX2 yX2_find yX2_find, Cond.code yX2_find cX2_find 6 (some .int), Cond.fieldLink RX2 38 "ChordOverlay" "route" "[I", Cond.fieldLink RX2 42 "ChordOverlay" "routeHops" "I", Cond.methodLink RX2 91 yX2_firstLivingSuccessor, Cond.instanceMethod yX2_firstLivingSuccessor, Cond.selects RX2 yX2_firstLivingSuccessor yX2_firstLivingSuccessor, Cond.code yX2_firstLivingSuccessor cX2_firstLivingSuccessor 4 (some .int)]
def wsL_fix_r3 : List Cond := [Cond.fieldLink RX2 18 "ChordOverlay" "successors" "LChordOverlay$Table;", Cond.methodLink RX2 85 yX1_at, Cond.instanceMethod yX1_at, Cond.selects RX1 yX1_at yX1_at, Cond.initialized RX1, Cond.code yX1_at cX1_at 4 (some .int), Cond.fieldLink RX1 18 "ChordOverlay$Table" "width" "I", Cond.fieldLink RX1 24 "ChordOverlay$Table" "cells" "[I", Cond.methodLink RX2 181 yX0_isUpTo, Cond.static yX0_isUpTo, Cond.code yX0_isUpTo cX0_isUpTo 3 (some .boolean), Cond.methodLink RX2 184 yX2_hopTowards, Cond.instanceMethod yX2_hopTowards, Cond.selects RX2 yX2_hopTowards yX2_hopTowards, Cond.code yX2_hopTowards cX2_hopTowards 6 (some .int), Cond.methodLink RX2 166 yX0_isBetween, Cond.static yX0_isBetween, Cond.code yX0_isBetween cX0_isBetween 3 (some .boolean), Cond.methodLink RX2 127 yX1_set, Cond.instanceMethod yX1_set, Cond.selects RX1 yX1_set yX1_set, Cond.code yX1_set cX1_set 5 none]
def wsL_fix : List Cond := .codeWith yL_fix cL_fix 4 (some .int) [(0, 9, 12, 13), (0, 9, 15, 15)] :: ((wsL_fix_r1 ++ (wsL_fix_r2 ++ wsL_fix_r3)) ++ wsX20 ++ wsX10 ++ (vx_atS RX2 146 "java/lang/IllegalArgumentException" ["java/lang/RuntimeException", "java/lang/Exception"]).filter goodWord ++ (vx_atS RX2 65 "java/lang/IllegalStateException" ["java/lang/RuntimeException", "java/lang/Exception"]).filter goodWord)
def wsL_replicate_r1 : List Cond := [Cond.classLink RL 13 "java/lang/IllegalArgumentException", Cond.classLink RL 15 "java/lang/IllegalStateException", Cond.methodLink RL 52 yX2_replicate, Cond.instanceMethod yX2_replicate, Cond.selects RX2 yX2_replicate yX2_replicate, Cond.initialized RX2, Cond.code yX2_replicate cX2_replicate 2 (some .int), Cond.methodLink RX2 54 yX2_requireIdentifier, Cond.static yX2_requireIdentifier, Cond.code yX2_requireIdentifier cX2_requireIdentifier 1 none, Cond.methodLink RX2 99 yX2_requireRange, Cond.static yX2_requireRange, Cond.code yX2_requireRange cX2_requireRange 3 none, Cond.classLink RX2 142 "java/lang/IllegalArgumentException", Cond.initialized "java/lang/IllegalArgumentException", Cond.methodLink RX2 78 yX2_requireAlive, Cond.instanceMethod yX2_requireAlive, Cond.selects RX2 yX2_requireAlive yX2_requireAlive, Cond.code yX2_requireAlive cX2_requireAlive 2 none, Cond.classLink RX2 61 "java/lang/IllegalStateException", Cond.initialized "java/lang/IllegalStateException", Cond.methodLink RX2 72 yX2_isAlive, Cond.instanceMethod yX2_isAlive, Cond.selects RX2 yX2_isAlive yX2_isAlive]
def wsL_replicate_r2 : List Cond := [Cond.code yX2_isAlive cX2_isAlive 2 (some .boolean), Cond.fieldLink RX2 9 "ChordOverlay" "lives" "[Z", Cond.methodLink RX2 112 yX2_spreadValues, Cond.instanceMethod yX2_spreadValues, Cond.selects RX2 yX2_spreadValues yX2_spreadValues, Cond.code yX2_spreadValues cX2_spreadValues 4 (some .int), Cond.fieldLink RX2 28 "ChordOverlay" "values" "LChordOverlay$Table;", Cond.methodLink RX2 85 yX1_at, Cond.instanceMethod yX1_at, Cond.selects RX1 yX1_at yX1_at, Cond.initialized RX1, Cond.code yX1_at cX1_at 4 (some .int), Cond.fieldLink RX1 18 "ChordOverlay$Table" "width" "I", Cond.fieldLink RX1 24 "ChordOverlay$Table" "cells" "[I", Cond.methodLink RX2 178 yX2_spreadValue, Cond.instanceMethod yX2_spreadValue, Cond.selects RX2 yX2_spreadValue yX2_spreadValue, Cond.code yX2_spreadValue cX2_spreadValue 4 (some .int), Cond.fieldLink RX2 22 "ChordOverlay" "predecessors" "LChordOverlay$Table;", Cond.methodLink RX2 181 yX0_isUpTo, Cond.static yX0_isUpTo, Cond.initialized RX0, Cond.code yX0_isUpTo cX0_isUpTo 3 (some .boolean), Cond.methodLink RX2 81 yX2_find]
def wsL_replicate_r3 : List Cond := [Cond.instanceMethod yX2_find, Cond.selects RX2 yX2_find yX2_find, Cond.code yX2_find cX2_find 6 (some .int), Cond.fieldLink RX2 38 "ChordOverlay" "route" "[I", Cond.fieldLink RX2 42 "ChordOverlay" "routeHops" "I", Cond.methodLink RX2 91 yX2_firstLivingSuccessor, Cond.instanceMethod yX2_firstLivingSuccessor, Cond.selects RX2 yX2_firstLivingSuccessor yX2_firstLivingSuccessor, Cond.code yX2_firstLivingSuccessor cX2_firstLivingSuccessor 4 (some .int), Cond.fieldLink RX2 18 "ChordOverlay" "successors" "LChordOverlay$Table;", Cond.methodLink RX2 184 yX2_hopTowards, Cond.instanceMethod yX2_hopTowards, Cond.selects RX2 yX2_hopTowards yX2_hopTowards, Cond.code yX2_hopTowards cX2_hopTowards 6 (some .int), Cond.fieldLink RX2 25 "ChordOverlay" "fingers" "LChordOverlay$Table;", Cond.methodLink RX2 166 yX0_isBetween, Cond.static yX0_isBetween, Cond.code yX0_isBetween cX0_isBetween 3 (some .boolean), Cond.methodLink RX2 159 yX2_giveCopy, Cond.instanceMethod yX2_giveCopy, Cond.selects RX2 yX2_giveCopy yX2_giveCopy, Cond.code yX2_giveCopy cX2_giveCopy 5 (some .int), Cond.fieldLink RX2 31 "ChordOverlay" "stamps" "LChordOverlay$Table;", Cond.methodLink RX2 127 yX1_set]
def wsL_replicate_r4 : List Cond := [Cond.instanceMethod yX1_set, Cond.selects RX1 yX1_set yX1_set, Cond.code yX1_set cX1_set 5 none, Cond.methodLink RX2 130 yX2_copyToHeirs, Cond.instanceMethod yX2_copyToHeirs, Cond.selects RX2 yX2_copyToHeirs yX2_copyToHeirs, Cond.code yX2_copyToHeirs cX2_copyToHeirs 6 (some .int), Cond.methodLink RX2 187 yX2_firstHeir, Cond.instanceMethod yX2_firstHeir, Cond.selects RX2 yX2_firstHeir yX2_firstHeir, Cond.code yX2_firstHeir cX2_firstHeir 5 (some .int)]
def wsL_replicate : List Cond := .codeWith yL_replicate cL_replicate 4 (some .int) [(0, 9, 12, 13), (0, 9, 15, 15)] :: ((wsL_replicate_r1 ++ (wsL_replicate_r2 ++ (wsL_replicate_r3 ++ wsL_replicate_r4))) ++ wsX20 ++ wsX10 ++ (vx_atS RX2 146 "java/lang/IllegalArgumentException" ["java/lang/RuntimeException", "java/lang/Exception"]).filter goodWord ++ (vx_atS RX2 65 "java/lang/IllegalStateException" ["java/lang/RuntimeException", "java/lang/Exception"]).filter goodWord)
def wsL_goRounds_r1 : List Cond := [Cond.classLink RL 13 "java/lang/IllegalArgumentException", Cond.methodLink RL 55 yX2_goRounds, Cond.instanceMethod yX2_goRounds, Cond.selects RX2 yX2_goRounds yX2_goRounds, Cond.initialized RX2, Cond.code yX2_goRounds cX2_goRounds 3 (some .int), Cond.methodLink RX2 99 yX2_requireRange, Cond.static yX2_requireRange, Cond.code yX2_requireRange cX2_requireRange 3 none, Cond.classLink RX2 142 "java/lang/IllegalArgumentException", Cond.initialized "java/lang/IllegalArgumentException", Cond.methodLink RX2 115 yX2_letRoundGoBy, Cond.instanceMethod yX2_letRoundGoBy, Cond.selects RX2 yX2_letRoundGoBy yX2_letRoundGoBy, Cond.code yX2_letRoundGoBy cX2_letRoundGoBy 3 none, Cond.methodLink RX2 72 yX2_isAlive, Cond.instanceMethod yX2_isAlive, Cond.selects RX2 yX2_isAlive yX2_isAlive, Cond.code yX2_isAlive cX2_isAlive 2 (some .boolean), Cond.fieldLink RX2 9 "ChordOverlay" "lives" "[Z", Cond.methodLink RX2 103 yX2_dropDeadPredecessor, Cond.instanceMethod yX2_dropDeadPredecessor, Cond.selects RX2 yX2_dropDeadPredecessor yX2_dropDeadPredecessor, Cond.code yX2_dropDeadPredecessor cX2_dropDeadPredecessor 2 none]
def wsL_goRounds_r2 : List Cond := [Cond.fieldLink RX2 22 "ChordOverlay" "predecessors" "LChordOverlay$Table;", Cond.methodLink RX2 85 yX1_at, Cond.instanceMethod yX1_at, Cond.selects RX1 yX1_at yX1_at, Cond.initialized RX1, Cond.code yX1_at cX1_at 4 (some .int), Cond.fieldLink RX1 18 "ChordOverlay$Table" "width" "I", Cond.fieldLink RX1 24 "ChordOverlay$Table" "cells" "[I", Cond.methodLink RX2 127 yX1_set, Cond.instanceMethod yX1_set, Cond.selects RX1 yX1_set yX1_set, Cond.code yX1_set cX1_set 5 none, Cond.methodLink RX2 106 yX2_mendSuccessors, Cond.instanceMethod yX2_mendSuccessors, Cond.selects RX2 yX2_mendSuccessors yX2_mendSuccessors, Cond.code yX2_mendSuccessors cX2_mendSuccessors 4 none, Cond.methodLink RX2 91 yX2_firstLivingSuccessor, Cond.instanceMethod yX2_firstLivingSuccessor, Cond.selects RX2 yX2_firstLivingSuccessor yX2_firstLivingSuccessor, Cond.code yX2_firstLivingSuccessor cX2_firstLivingSuccessor 4 (some .int), Cond.fieldLink RX2 18 "ChordOverlay" "successors" "LChordOverlay$Table;", Cond.methodLink RX2 166 yX0_isBetween, Cond.static yX0_isBetween, Cond.initialized RX0]
def wsL_goRounds_r3 : List Cond := [Cond.code yX0_isBetween cX0_isBetween 3 (some .boolean), Cond.methodLink RX2 163 yX2_follow, Cond.instanceMethod yX2_follow, Cond.selects RX2 yX2_follow yX2_follow, Cond.code yX2_follow cX2_follow 5 none, Cond.methodLink RX2 149 yX2_setSuccessors, Cond.instanceMethod yX2_setSuccessors, Cond.selects RX2 yX2_setSuccessors yX2_setSuccessors, Cond.code yX2_setSuccessors cX2_setSuccessors 5 none, Cond.methodLink RX2 172 yX2_notifyOf, Cond.instanceMethod yX2_notifyOf, Cond.selects RX2 yX2_notifyOf yX2_notifyOf, Cond.code yX2_notifyOf cX2_notifyOf 4 none, Cond.methodLink RX2 109 yX2_renewFingers, Cond.instanceMethod yX2_renewFingers, Cond.selects RX2 yX2_renewFingers yX2_renewFingers, Cond.code yX2_renewFingers cX2_renewFingers 5 (some .int), Cond.fieldLink RX2 25 "ChordOverlay" "fingers" "LChordOverlay$Table;", Cond.methodLink RX2 175 yX0_fingerStart, Cond.static yX0_fingerStart, Cond.code yX0_fingerStart cX0_fingerStart 2 (some .int), Cond.methodLink RX0 11 yX0_onward, Cond.static yX0_onward, Cond.code yX0_onward cX0_onward 2 (some .int)]
def wsL_goRounds_r4 : List Cond := [Cond.methodLink RX2 81 yX2_find, Cond.instanceMethod yX2_find, Cond.selects RX2 yX2_find yX2_find, Cond.code yX2_find cX2_find 6 (some .int), Cond.fieldLink RX2 38 "ChordOverlay" "route" "[I", Cond.fieldLink RX2 42 "ChordOverlay" "routeHops" "I", Cond.methodLink RX2 181 yX0_isUpTo, Cond.static yX0_isUpTo, Cond.code yX0_isUpTo cX0_isUpTo 3 (some .boolean), Cond.methodLink RX2 184 yX2_hopTowards, Cond.instanceMethod yX2_hopTowards, Cond.selects RX2 yX2_hopTowards yX2_hopTowards, Cond.code yX2_hopTowards cX2_hopTowards 6 (some .int), Cond.methodLink RX2 112 yX2_spreadValues, Cond.instanceMethod yX2_spreadValues, Cond.selects RX2 yX2_spreadValues yX2_spreadValues, Cond.code yX2_spreadValues cX2_spreadValues 4 (some .int), Cond.fieldLink RX2 28 "ChordOverlay" "values" "LChordOverlay$Table;", Cond.methodLink RX2 178 yX2_spreadValue, Cond.instanceMethod yX2_spreadValue, Cond.selects RX2 yX2_spreadValue yX2_spreadValue, Cond.code yX2_spreadValue cX2_spreadValue 4 (some .int), Cond.methodLink RX2 159 yX2_giveCopy, Cond.instanceMethod yX2_giveCopy]
def wsL_goRounds_r5 : List Cond := [Cond.selects RX2 yX2_giveCopy yX2_giveCopy, Cond.code yX2_giveCopy cX2_giveCopy 5 (some .int), Cond.fieldLink RX2 31 "ChordOverlay" "stamps" "LChordOverlay$Table;", Cond.methodLink RX2 130 yX2_copyToHeirs, Cond.instanceMethod yX2_copyToHeirs, Cond.selects RX2 yX2_copyToHeirs yX2_copyToHeirs, Cond.code yX2_copyToHeirs cX2_copyToHeirs 6 (some .int), Cond.methodLink RX2 187 yX2_firstHeir, Cond.instanceMethod yX2_firstHeir, Cond.selects RX2 yX2_firstHeir yX2_firstHeir, Cond.code yX2_firstHeir cX2_firstHeir 5 (some .int), Cond.methodLink RX2 119 yX2_countWrongPointers, Cond.instanceMethod yX2_countWrongPointers, Cond.selects RX2 yX2_countWrongPointers yX2_countWrongPointers, Cond.code yX2_countWrongPointers cX2_countWrongPointers 3 (some .int), Cond.methodLink RX2 193 yX2_countWrongPointersOf, Cond.instanceMethod yX2_countWrongPointersOf, Cond.selects RX2 yX2_countWrongPointersOf yX2_countWrongPointersOf, Cond.code yX2_countWrongPointersOf cX2_countWrongPointersOf 4 (some .int), Cond.methodLink RX2 190 yX0_onward, Cond.methodLink RX2 133 yX2_firstLivingUpFrom, Cond.instanceMethod yX2_firstLivingUpFrom, Cond.selects RX2 yX2_firstLivingUpFrom yX2_firstLivingUpFrom, Cond.code yX2_firstLivingUpFrom cX2_firstLivingUpFrom 4 (some .int)]
def wsL_goRounds_r6 : List Cond := [Cond.methodLink RX2 196 yX2_firstLivingDownFrom, Cond.instanceMethod yX2_firstLivingDownFrom, Cond.selects RX2 yX2_firstLivingDownFrom yX2_firstLivingDownFrom, Cond.code yX2_firstLivingDownFrom cX2_firstLivingDownFrom 4 (some .int)]
def wsL_goRounds : List Cond := .codeWith yL_goRounds cL_goRounds 4 (some .int) [(0, 9, 12, 13)] :: ((wsL_goRounds_r1 ++ (wsL_goRounds_r2 ++ (wsL_goRounds_r3 ++ (wsL_goRounds_r4 ++ (wsL_goRounds_r5 ++ wsL_goRounds_r6))))) ++ wsX20 ++ wsX10 ++ (vx_atS RX2 146 "java/lang/IllegalArgumentException" ["java/lang/RuntimeException", "java/lang/Exception"]).filter goodWord)
def wsL_lookup_r1 : List Cond := [Cond.classLink RL 13 "java/lang/IllegalArgumentException", Cond.classLink RL 15 "java/lang/IllegalStateException", Cond.methodLink RL 58 yX2_lookup, Cond.instanceMethod yX2_lookup, Cond.selects RX2 yX2_lookup yX2_lookup, Cond.initialized RX2, Cond.code yX2_lookup cX2_lookup 3 (some .int), Cond.methodLink RX2 54 yX2_requireIdentifier, Cond.static yX2_requireIdentifier, Cond.code yX2_requireIdentifier cX2_requireIdentifier 1 none, Cond.methodLink RX2 99 yX2_requireRange, Cond.static yX2_requireRange, Cond.code yX2_requireRange cX2_requireRange 3 none, Cond.classLink RX2 142 "java/lang/IllegalArgumentException", Cond.initialized "java/lang/IllegalArgumentException", Cond.methodLink RX2 78 yX2_requireAlive, Cond.instanceMethod yX2_requireAlive, Cond.selects RX2 yX2_requireAlive yX2_requireAlive, Cond.code yX2_requireAlive cX2_requireAlive 2 none, Cond.classLink RX2 61 "java/lang/IllegalStateException", Cond.initialized "java/lang/IllegalStateException", Cond.methodLink RX2 72 yX2_isAlive, Cond.instanceMethod yX2_isAlive, Cond.selects RX2 yX2_isAlive yX2_isAlive]
def wsL_lookup_r2 : List Cond := [Cond.code yX2_isAlive cX2_isAlive 2 (some .boolean), Cond.fieldLink RX2 9 "ChordOverlay" "lives" "[Z", Cond.methodLink RX2 81 yX2_find, Cond.instanceMethod yX2_find, Cond.selects RX2 yX2_find yX2_find, Cond.code yX2_find cX2_find 6 (some .int), Cond.fieldLink RX2 38 "ChordOverlay" "route" "[I", Cond.fieldLink RX2 42 "ChordOverlay" "routeHops" "I", Cond.methodLink RX2 91 yX2_firstLivingSuccessor, Cond.instanceMethod yX2_firstLivingSuccessor, Cond.selects RX2 yX2_firstLivingSuccessor yX2_firstLivingSuccessor, Cond.code yX2_firstLivingSuccessor cX2_firstLivingSuccessor 4 (some .int), Cond.fieldLink RX2 18 "ChordOverlay" "successors" "LChordOverlay$Table;", Cond.methodLink RX2 85 yX1_at, Cond.instanceMethod yX1_at, Cond.selects RX1 yX1_at yX1_at, Cond.initialized RX1, Cond.code yX1_at cX1_at 4 (some .int), Cond.fieldLink RX1 18 "ChordOverlay$Table" "width" "I", Cond.fieldLink RX1 24 "ChordOverlay$Table" "cells" "[I", Cond.methodLink RX2 181 yX0_isUpTo, Cond.static yX0_isUpTo, Cond.initialized RX0, Cond.code yX0_isUpTo cX0_isUpTo 3 (some .boolean)]
def wsL_lookup_r3 : List Cond := [Cond.methodLink RX2 184 yX2_hopTowards, Cond.instanceMethod yX2_hopTowards, Cond.selects RX2 yX2_hopTowards yX2_hopTowards, Cond.code yX2_hopTowards cX2_hopTowards 6 (some .int), Cond.fieldLink RX2 25 "ChordOverlay" "fingers" "LChordOverlay$Table;", Cond.methodLink RX2 166 yX0_isBetween, Cond.static yX0_isBetween, Cond.code yX0_isBetween cX0_isBetween 3 (some .boolean)]
def wsL_lookup : List Cond := .codeWith yL_lookup cL_lookup 5 (some .int) [(0, 10, 13, 13), (0, 10, 17, 15)] :: ((wsL_lookup_r1 ++ (wsL_lookup_r2 ++ wsL_lookup_r3)) ++ wsX20 ++ wsX10 ++ (vx_atS RX2 146 "java/lang/IllegalArgumentException" ["java/lang/RuntimeException", "java/lang/Exception"]).filter goodWord ++ (vx_atS RX2 65 "java/lang/IllegalStateException" ["java/lang/RuntimeException", "java/lang/Exception"]).filter goodWord)
def wsL_hops_r1 : List Cond := [Cond.classLink RL 13 "java/lang/IllegalArgumentException", Cond.classLink RL 15 "java/lang/IllegalStateException", Cond.methodLink RL 61 yX2_hops, Cond.instanceMethod yX2_hops, Cond.selects RX2 yX2_hops yX2_hops, Cond.initialized RX2, Cond.code yX2_hops cX2_hops 3 (some .int), Cond.fieldLink RX2 42 "ChordOverlay" "routeHops" "I", Cond.methodLink RX2 54 yX2_requireIdentifier, Cond.static yX2_requireIdentifier, Cond.code yX2_requireIdentifier cX2_requireIdentifier 1 none, Cond.methodLink RX2 99 yX2_requireRange, Cond.static yX2_requireRange, Cond.code yX2_requireRange cX2_requireRange 3 none, Cond.classLink RX2 142 "java/lang/IllegalArgumentException", Cond.initialized "java/lang/IllegalArgumentException", Cond.methodLink RX2 78 yX2_requireAlive, Cond.instanceMethod yX2_requireAlive, Cond.selects RX2 yX2_requireAlive yX2_requireAlive, Cond.code yX2_requireAlive cX2_requireAlive 2 none, Cond.classLink RX2 61 "java/lang/IllegalStateException", Cond.initialized "java/lang/IllegalStateException", Cond.methodLink RX2 72 yX2_isAlive, Cond.instanceMethod yX2_isAlive]
def wsL_hops_r2 : List Cond := [Cond.selects RX2 yX2_isAlive yX2_isAlive, Cond.code yX2_isAlive cX2_isAlive 2 (some .boolean), Cond.fieldLink RX2 9 "ChordOverlay" "lives" "[Z", Cond.methodLink RX2 81 yX2_find, Cond.instanceMethod yX2_find, Cond.selects RX2 yX2_find yX2_find, Cond.code yX2_find cX2_find 6 (some .int), Cond.fieldLink RX2 38 "ChordOverlay" "route" "[I", Cond.methodLink RX2 91 yX2_firstLivingSuccessor, Cond.instanceMethod yX2_firstLivingSuccessor, Cond.selects RX2 yX2_firstLivingSuccessor yX2_firstLivingSuccessor, Cond.code yX2_firstLivingSuccessor cX2_firstLivingSuccessor 4 (some .int), Cond.fieldLink RX2 18 "ChordOverlay" "successors" "LChordOverlay$Table;", Cond.methodLink RX2 85 yX1_at, Cond.instanceMethod yX1_at, Cond.selects RX1 yX1_at yX1_at, Cond.initialized RX1, Cond.code yX1_at cX1_at 4 (some .int), Cond.fieldLink RX1 18 "ChordOverlay$Table" "width" "I", Cond.fieldLink RX1 24 "ChordOverlay$Table" "cells" "[I", Cond.methodLink RX2 181 yX0_isUpTo, Cond.static yX0_isUpTo, Cond.initialized RX0, Cond.code yX0_isUpTo cX0_isUpTo 3 (some .boolean)]
def wsL_hops_r3 : List Cond := [Cond.methodLink RX2 184 yX2_hopTowards, Cond.instanceMethod yX2_hopTowards, Cond.selects RX2 yX2_hopTowards yX2_hopTowards, Cond.code yX2_hopTowards cX2_hopTowards 6 (some .int), Cond.fieldLink RX2 25 "ChordOverlay" "fingers" "LChordOverlay$Table;", Cond.methodLink RX2 166 yX0_isBetween, Cond.static yX0_isBetween, Cond.code yX0_isBetween cX0_isBetween 3 (some .boolean)]
def wsL_hops : List Cond := .codeWith yL_hops cL_hops 5 (some .int) [(0, 10, 13, 13), (0, 10, 17, 15)] :: ((wsL_hops_r1 ++ (wsL_hops_r2 ++ wsL_hops_r3)) ++ wsX20 ++ wsX10 ++ (vx_atS RX2 146 "java/lang/IllegalArgumentException" ["java/lang/RuntimeException", "java/lang/Exception"]).filter goodWord ++ (vx_atS RX2 65 "java/lang/IllegalStateException" ["java/lang/RuntimeException", "java/lang/Exception"]).filter goodWord)
def wsL_hopAt_r1 : List Cond := [Cond.classLink RL 13 "java/lang/IllegalArgumentException", Cond.classLink RL 15 "java/lang/IllegalStateException", Cond.classLink RL 68 "java/lang/IndexOutOfBoundsException", Cond.methodLink RL 64 yX2_hopAt, Cond.instanceMethod yX2_hopAt, Cond.selects RX2 yX2_hopAt yX2_hopAt, Cond.initialized RX2, Cond.code yX2_hopAt cX2_hopAt 4 (some .int), Cond.classLink RX2 122 "java/lang/IndexOutOfBoundsException", Cond.initialized "java/lang/IndexOutOfBoundsException", Cond.fieldLink RX2 42 "ChordOverlay" "routeHops" "I", Cond.fieldLink RX2 38 "ChordOverlay" "route" "[I", Cond.methodLink RX2 54 yX2_requireIdentifier, Cond.static yX2_requireIdentifier, Cond.code yX2_requireIdentifier cX2_requireIdentifier 1 none, Cond.methodLink RX2 99 yX2_requireRange, Cond.static yX2_requireRange, Cond.code yX2_requireRange cX2_requireRange 3 none, Cond.classLink RX2 142 "java/lang/IllegalArgumentException", Cond.initialized "java/lang/IllegalArgumentException", Cond.methodLink RX2 78 yX2_requireAlive, Cond.instanceMethod yX2_requireAlive, Cond.selects RX2 yX2_requireAlive yX2_requireAlive, Cond.code yX2_requireAlive cX2_requireAlive 2 none]
def wsL_hopAt_r2 : List Cond := [Cond.classLink RX2 61 "java/lang/IllegalStateException", Cond.initialized "java/lang/IllegalStateException", Cond.methodLink RX2 72 yX2_isAlive, Cond.instanceMethod yX2_isAlive, Cond.selects RX2 yX2_isAlive yX2_isAlive, Cond.code yX2_isAlive cX2_isAlive 2 (some .boolean), Cond.fieldLink RX2 9 "ChordOverlay" "lives" "[Z", Cond.methodLink RX2 81 yX2_find, Cond.instanceMethod yX2_find, Cond.selects RX2 yX2_find yX2_find, Cond.code yX2_find cX2_find 6 (some .int), Cond.methodLink RX2 91 yX2_firstLivingSuccessor, Cond.instanceMethod yX2_firstLivingSuccessor, Cond.selects RX2 yX2_firstLivingSuccessor yX2_firstLivingSuccessor, Cond.code yX2_firstLivingSuccessor cX2_firstLivingSuccessor 4 (some .int), Cond.fieldLink RX2 18 "ChordOverlay" "successors" "LChordOverlay$Table;", Cond.methodLink RX2 85 yX1_at, Cond.instanceMethod yX1_at, Cond.selects RX1 yX1_at yX1_at, Cond.initialized RX1, Cond.code yX1_at cX1_at 4 (some .int), Cond.fieldLink RX1 18 "ChordOverlay$Table" "width" "I", Cond.fieldLink RX1 24 "ChordOverlay$Table" "cells" "[I", Cond.methodLink RX2 181 yX0_isUpTo]
def wsL_hopAt_r3 : List Cond := [Cond.static yX0_isUpTo, Cond.initialized RX0, Cond.code yX0_isUpTo cX0_isUpTo 3 (some .boolean), Cond.methodLink RX2 184 yX2_hopTowards, Cond.instanceMethod yX2_hopTowards, Cond.selects RX2 yX2_hopTowards yX2_hopTowards, Cond.code yX2_hopTowards cX2_hopTowards 6 (some .int), Cond.fieldLink RX2 25 "ChordOverlay" "fingers" "LChordOverlay$Table;", Cond.methodLink RX2 166 yX0_isBetween, Cond.static yX0_isBetween, Cond.code yX0_isBetween cX0_isBetween 3 (some .boolean)]
def wsL_hopAt : List Cond := .codeWith yL_hopAt cL_hopAt 6 (some .int) [(0, 12, 15, 13), (0, 12, 19, 15), (0, 12, 23, 68)] :: ((wsL_hopAt_r1 ++ (wsL_hopAt_r2 ++ wsL_hopAt_r3)) ++ wsX20 ++ wsX10 ++ (vx_atS RX2 126 "java/lang/IndexOutOfBoundsException" ["java/lang/RuntimeException", "java/lang/Exception"]).filter goodWord ++ (vx_atS RX2 146 "java/lang/IllegalArgumentException" ["java/lang/RuntimeException", "java/lang/Exception"]).filter goodWord ++ (vx_atS RX2 65 "java/lang/IllegalStateException" ["java/lang/RuntimeException", "java/lang/Exception"]).filter goodWord)
def wsL_put_r1 : List Cond := [Cond.classLink RL 13 "java/lang/IllegalArgumentException", Cond.classLink RL 15 "java/lang/IllegalStateException", Cond.methodLink RL 70 yX2_put, Cond.instanceMethod yX2_put, Cond.selects RX2 yX2_put yX2_put, Cond.initialized RX2, Cond.code yX2_put cX2_put 5 (some .int), Cond.fieldLink RX2 34 "ChordOverlay" "lastStamp" "I", Cond.fieldLink RX2 28 "ChordOverlay" "values" "LChordOverlay$Table;", Cond.fieldLink RX2 31 "ChordOverlay" "stamps" "LChordOverlay$Table;", Cond.methodLink RX2 54 yX2_requireIdentifier, Cond.static yX2_requireIdentifier, Cond.code yX2_requireIdentifier cX2_requireIdentifier 1 none, Cond.methodLink RX2 99 yX2_requireRange, Cond.static yX2_requireRange, Cond.code yX2_requireRange cX2_requireRange 3 none, Cond.classLink RX2 142 "java/lang/IllegalArgumentException", Cond.initialized "java/lang/IllegalArgumentException", Cond.methodLink RX2 78 yX2_requireAlive, Cond.instanceMethod yX2_requireAlive, Cond.selects RX2 yX2_requireAlive yX2_requireAlive, Cond.code yX2_requireAlive cX2_requireAlive 2 none, Cond.classLink RX2 61 "java/lang/IllegalStateException", Cond.initialized "java/lang/IllegalStateException"]
def wsL_put_r2 : List Cond := [Cond.methodLink RX2 72 yX2_isAlive, Cond.instanceMethod yX2_isAlive, Cond.selects RX2 yX2_isAlive yX2_isAlive, Cond.code yX2_isAlive cX2_isAlive 2 (some .boolean), Cond.fieldLink RX2 9 "ChordOverlay" "lives" "[Z", Cond.methodLink RX2 81 yX2_find, Cond.instanceMethod yX2_find, Cond.selects RX2 yX2_find yX2_find, Cond.code yX2_find cX2_find 6 (some .int), Cond.fieldLink RX2 38 "ChordOverlay" "route" "[I", Cond.fieldLink RX2 42 "ChordOverlay" "routeHops" "I", Cond.methodLink RX2 91 yX2_firstLivingSuccessor, Cond.instanceMethod yX2_firstLivingSuccessor, Cond.selects RX2 yX2_firstLivingSuccessor yX2_firstLivingSuccessor, Cond.code yX2_firstLivingSuccessor cX2_firstLivingSuccessor 4 (some .int), Cond.fieldLink RX2 18 "ChordOverlay" "successors" "LChordOverlay$Table;", Cond.methodLink RX2 85 yX1_at, Cond.instanceMethod yX1_at, Cond.selects RX1 yX1_at yX1_at, Cond.initialized RX1, Cond.code yX1_at cX1_at 4 (some .int), Cond.fieldLink RX1 18 "ChordOverlay$Table" "width" "I", Cond.fieldLink RX1 24 "ChordOverlay$Table" "cells" "[I", Cond.methodLink RX2 181 yX0_isUpTo]
def wsL_put_r3 : List Cond := [Cond.static yX0_isUpTo, Cond.initialized RX0, Cond.code yX0_isUpTo cX0_isUpTo 3 (some .boolean), Cond.methodLink RX2 184 yX2_hopTowards, Cond.instanceMethod yX2_hopTowards, Cond.selects RX2 yX2_hopTowards yX2_hopTowards, Cond.code yX2_hopTowards cX2_hopTowards 6 (some .int), Cond.fieldLink RX2 25 "ChordOverlay" "fingers" "LChordOverlay$Table;", Cond.methodLink RX2 166 yX0_isBetween, Cond.static yX0_isBetween, Cond.code yX0_isBetween cX0_isBetween 3 (some .boolean), Cond.methodLink RX2 127 yX1_set, Cond.instanceMethod yX1_set, Cond.selects RX1 yX1_set yX1_set, Cond.code yX1_set cX1_set 5 none, Cond.methodLink RX2 130 yX2_copyToHeirs, Cond.instanceMethod yX2_copyToHeirs, Cond.selects RX2 yX2_copyToHeirs yX2_copyToHeirs, Cond.code yX2_copyToHeirs cX2_copyToHeirs 6 (some .int), Cond.methodLink RX2 187 yX2_firstHeir, Cond.instanceMethod yX2_firstHeir, Cond.selects RX2 yX2_firstHeir yX2_firstHeir, Cond.code yX2_firstHeir cX2_firstHeir 5 (some .int), Cond.methodLink RX2 159 yX2_giveCopy]
def wsL_put_r4 : List Cond := [Cond.instanceMethod yX2_giveCopy, Cond.selects RX2 yX2_giveCopy yX2_giveCopy, Cond.code yX2_giveCopy cX2_giveCopy 5 (some .int)]
def wsL_put : List Cond := .codeWith yL_put cL_put 6 (some .int) [(0, 12, 15, 13), (0, 12, 19, 15)] :: ((wsL_put_r1 ++ (wsL_put_r2 ++ (wsL_put_r3 ++ wsL_put_r4))) ++ wsX20 ++ wsX10 ++ (vx_atS RX2 146 "java/lang/IllegalArgumentException" ["java/lang/RuntimeException", "java/lang/Exception"]).filter goodWord ++ (vx_atS RX2 65 "java/lang/IllegalStateException" ["java/lang/RuntimeException", "java/lang/Exception"]).filter goodWord)
def wsL_get_r1 : List Cond := [Cond.classLink RL 13 "java/lang/IllegalArgumentException", Cond.classLink RL 15 "java/lang/IllegalStateException", Cond.methodLink RL 73 yX2_get, Cond.instanceMethod yX2_get, Cond.selects RX2 yX2_get yX2_get, Cond.initialized RX2, Cond.code yX2_get cX2_get 3 (some .int), Cond.fieldLink RX2 28 "ChordOverlay" "values" "LChordOverlay$Table;", Cond.methodLink RX2 54 yX2_requireIdentifier, Cond.static yX2_requireIdentifier, Cond.code yX2_requireIdentifier cX2_requireIdentifier 1 none, Cond.methodLink RX2 99 yX2_requireRange, Cond.static yX2_requireRange, Cond.code yX2_requireRange cX2_requireRange 3 none, Cond.classLink RX2 142 "java/lang/IllegalArgumentException", Cond.initialized "java/lang/IllegalArgumentException", Cond.methodLink RX2 78 yX2_requireAlive, Cond.instanceMethod yX2_requireAlive, Cond.selects RX2 yX2_requireAlive yX2_requireAlive, Cond.code yX2_requireAlive cX2_requireAlive 2 none, Cond.classLink RX2 61 "java/lang/IllegalStateException", Cond.initialized "java/lang/IllegalStateException", Cond.methodLink RX2 72 yX2_isAlive, Cond.instanceMethod yX2_isAlive]
def wsL_get_r2 : List Cond := [Cond.selects RX2 yX2_isAlive yX2_isAlive, Cond.code yX2_isAlive cX2_isAlive 2 (some .boolean), Cond.fieldLink RX2 9 "ChordOverlay" "lives" "[Z", Cond.methodLink RX2 81 yX2_find, Cond.instanceMethod yX2_find, Cond.selects RX2 yX2_find yX2_find, Cond.code yX2_find cX2_find 6 (some .int), Cond.fieldLink RX2 38 "ChordOverlay" "route" "[I", Cond.fieldLink RX2 42 "ChordOverlay" "routeHops" "I", Cond.methodLink RX2 91 yX2_firstLivingSuccessor, Cond.instanceMethod yX2_firstLivingSuccessor, Cond.selects RX2 yX2_firstLivingSuccessor yX2_firstLivingSuccessor, Cond.code yX2_firstLivingSuccessor cX2_firstLivingSuccessor 4 (some .int), Cond.fieldLink RX2 18 "ChordOverlay" "successors" "LChordOverlay$Table;", Cond.methodLink RX2 85 yX1_at, Cond.instanceMethod yX1_at, Cond.selects RX1 yX1_at yX1_at, Cond.initialized RX1, Cond.code yX1_at cX1_at 4 (some .int), Cond.fieldLink RX1 18 "ChordOverlay$Table" "width" "I", Cond.fieldLink RX1 24 "ChordOverlay$Table" "cells" "[I", Cond.methodLink RX2 181 yX0_isUpTo, Cond.static yX0_isUpTo, Cond.initialized RX0]
def wsL_get_r3 : List Cond := [Cond.code yX0_isUpTo cX0_isUpTo 3 (some .boolean), Cond.methodLink RX2 184 yX2_hopTowards, Cond.instanceMethod yX2_hopTowards, Cond.selects RX2 yX2_hopTowards yX2_hopTowards, Cond.code yX2_hopTowards cX2_hopTowards 6 (some .int), Cond.fieldLink RX2 25 "ChordOverlay" "fingers" "LChordOverlay$Table;", Cond.methodLink RX2 166 yX0_isBetween, Cond.static yX0_isBetween, Cond.code yX0_isBetween cX0_isBetween 3 (some .boolean)]
def wsL_get : List Cond := .codeWith yL_get cL_get 5 (some .int) [(0, 10, 13, 13), (0, 10, 17, 15)] :: ((wsL_get_r1 ++ (wsL_get_r2 ++ wsL_get_r3)) ++ wsX20 ++ wsX10 ++ (vx_atS RX2 146 "java/lang/IllegalArgumentException" ["java/lang/RuntimeException", "java/lang/Exception"]).filter goodWord ++ (vx_atS RX2 65 "java/lang/IllegalStateException" ["java/lang/RuntimeException", "java/lang/Exception"]).filter goodWord)
def wsL_kept_r1 : List Cond := [Cond.classLink RL 13 "java/lang/IllegalArgumentException", Cond.classLink RL 15 "java/lang/IllegalStateException", Cond.methodLink RL 76 yX2_kept, Cond.instanceMethod yX2_kept, Cond.selects RX2 yX2_kept yX2_kept, Cond.initialized RX2, Cond.code yX2_kept cX2_kept 3 (some .int), Cond.fieldLink RX2 28 "ChordOverlay" "values" "LChordOverlay$Table;", Cond.methodLink RX2 54 yX2_requireIdentifier, Cond.static yX2_requireIdentifier, Cond.code yX2_requireIdentifier cX2_requireIdentifier 1 none, Cond.methodLink RX2 99 yX2_requireRange, Cond.static yX2_requireRange, Cond.code yX2_requireRange cX2_requireRange 3 none, Cond.classLink RX2 142 "java/lang/IllegalArgumentException", Cond.initialized "java/lang/IllegalArgumentException", Cond.methodLink RX2 78 yX2_requireAlive, Cond.instanceMethod yX2_requireAlive, Cond.selects RX2 yX2_requireAlive yX2_requireAlive, Cond.code yX2_requireAlive cX2_requireAlive 2 none, Cond.classLink RX2 61 "java/lang/IllegalStateException", Cond.initialized "java/lang/IllegalStateException", Cond.methodLink RX2 72 yX2_isAlive, Cond.instanceMethod yX2_isAlive]
def wsL_kept_r2 : List Cond := [Cond.selects RX2 yX2_isAlive yX2_isAlive, Cond.code yX2_isAlive cX2_isAlive 2 (some .boolean), Cond.fieldLink RX2 9 "ChordOverlay" "lives" "[Z", Cond.methodLink RX2 85 yX1_at, Cond.instanceMethod yX1_at, Cond.selects RX1 yX1_at yX1_at, Cond.initialized RX1, Cond.code yX1_at cX1_at 4 (some .int), Cond.fieldLink RX1 18 "ChordOverlay$Table" "width" "I", Cond.fieldLink RX1 24 "ChordOverlay$Table" "cells" "[I"]
def wsL_kept : List Cond := .codeWith yL_kept cL_kept 5 (some .int) [(0, 10, 13, 13), (0, 10, 17, 15)] :: ((wsL_kept_r1 ++ wsL_kept_r2) ++ wsX20 ++ wsX10 ++ (vx_atS RX2 146 "java/lang/IllegalArgumentException" ["java/lang/RuntimeException", "java/lang/Exception"]).filter goodWord ++ (vx_atS RX2 65 "java/lang/IllegalStateException" ["java/lang/RuntimeException", "java/lang/Exception"]).filter goodWord)
def wsL_keepers_r1 : List Cond := [Cond.classLink RL 13 "java/lang/IllegalArgumentException", Cond.methodLink RL 79 yX2_keepers, Cond.instanceMethod yX2_keepers, Cond.selects RX2 yX2_keepers yX2_keepers, Cond.initialized RX2, Cond.code yX2_keepers cX2_keepers 4 (some .int), Cond.fieldLink RX2 28 "ChordOverlay" "values" "LChordOverlay$Table;", Cond.methodLink RX2 54 yX2_requireIdentifier, Cond.static yX2_requireIdentifier, Cond.code yX2_requireIdentifier cX2_requireIdentifier 1 none, Cond.methodLink RX2 99 yX2_requireRange, Cond.static yX2_requireRange, Cond.code yX2_requireRange cX2_requireRange 3 none, Cond.classLink RX2 142 "java/lang/IllegalArgumentException", Cond.initialized "java/lang/IllegalArgumentException", Cond.methodLink RX2 72 yX2_isAlive, Cond.instanceMethod yX2_isAlive, Cond.selects RX2 yX2_isAlive yX2_isAlive, Cond.code yX2_isAlive cX2_isAlive 2 (some .boolean), Cond.fieldLink RX2 9 "ChordOverlay" "lives" "[Z", Cond.methodLink RX2 85 yX1_at, Cond.instanceMethod yX1_at, Cond.selects RX1 yX1_at yX1_at, Cond.initialized RX1]
def wsL_keepers_r2 : List Cond := [Cond.code yX1_at cX1_at 4 (some .int), Cond.fieldLink RX1 18 "ChordOverlay$Table" "width" "I", Cond.fieldLink RX1 24 "ChordOverlay$Table" "cells" "[I"]
def wsL_keepers : List Cond := .codeWith yL_keepers cL_keepers 4 (some .int) [(0, 9, 12, 13)] :: ((wsL_keepers_r1 ++ wsL_keepers_r2) ++ wsX20 ++ wsX10 ++ (vx_atS RX2 146 "java/lang/IllegalArgumentException" ["java/lang/RuntimeException", "java/lang/Exception"]).filter goodWord)
def wsL_owner_r1 : List Cond := [Cond.classLink RL 13 "java/lang/IllegalArgumentException", Cond.methodLink RL 82 yX2_owner, Cond.instanceMethod yX2_owner, Cond.selects RX2 yX2_owner yX2_owner, Cond.initialized RX2, Cond.code yX2_owner cX2_owner 2 (some .int), Cond.methodLink RX2 54 yX2_requireIdentifier, Cond.static yX2_requireIdentifier, Cond.code yX2_requireIdentifier cX2_requireIdentifier 1 none, Cond.methodLink RX2 99 yX2_requireRange, Cond.static yX2_requireRange, Cond.code yX2_requireRange cX2_requireRange 3 none, Cond.classLink RX2 142 "java/lang/IllegalArgumentException", Cond.initialized "java/lang/IllegalArgumentException", Cond.methodLink RX2 133 yX2_firstLivingUpFrom, Cond.instanceMethod yX2_firstLivingUpFrom, Cond.selects RX2 yX2_firstLivingUpFrom yX2_firstLivingUpFrom, Cond.code yX2_firstLivingUpFrom cX2_firstLivingUpFrom 4 (some .int), Cond.methodLink RX2 190 yX0_onward, Cond.static yX0_onward, Cond.initialized RX0, Cond.code yX0_onward cX0_onward 2 (some .int), Cond.methodLink RX2 72 yX2_isAlive, Cond.instanceMethod yX2_isAlive]
def wsL_owner_r2 : List Cond := [Cond.selects RX2 yX2_isAlive yX2_isAlive, Cond.code yX2_isAlive cX2_isAlive 2 (some .boolean), Cond.fieldLink RX2 9 "ChordOverlay" "lives" "[Z"]
def wsL_owner : List Cond := .codeWith yL_owner cL_owner 4 (some .int) [(0, 9, 12, 13)] :: ((wsL_owner_r1 ++ wsL_owner_r2) ++ wsX20 ++ (vx_atS RX2 146 "java/lang/IllegalArgumentException" ["java/lang/RuntimeException", "java/lang/Exception"]).filter goodWord)
def wsL_roundsToRight_r1 : List Cond := [Cond.classLink RL 13 "java/lang/IllegalArgumentException", Cond.methodLink RL 85 yX2_roundsToRight, Cond.instanceMethod yX2_roundsToRight, Cond.selects RX2 yX2_roundsToRight yX2_roundsToRight, Cond.initialized RX2, Cond.code yX2_roundsToRight cX2_roundsToRight 3 (some .int), Cond.methodLink RX2 99 yX2_requireRange, Cond.static yX2_requireRange, Cond.code yX2_requireRange cX2_requireRange 3 none, Cond.classLink RX2 142 "java/lang/IllegalArgumentException", Cond.initialized "java/lang/IllegalArgumentException", Cond.methodLink RX2 136 yX2_layPointersAside, Cond.instanceMethod yX2_layPointersAside, Cond.selects RX2 yX2_layPointersAside yX2_layPointersAside, Cond.code yX2_layPointersAside cX2_layPointersAside 1 none, Cond.fieldLink RX2 45 "ChordOverlay" "asideSuccessors" "LChordOverlay$Table;", Cond.fieldLink RX2 18 "ChordOverlay" "successors" "LChordOverlay$Table;", Cond.fieldLink RX2 48 "ChordOverlay" "asidePredecessors" "LChordOverlay$Table;", Cond.fieldLink RX2 22 "ChordOverlay" "predecessors" "LChordOverlay$Table;", Cond.fieldLink RX2 51 "ChordOverlay" "asideFingers" "LChordOverlay$Table;", Cond.fieldLink RX2 25 "ChordOverlay" "fingers" "LChordOverlay$Table;", Cond.methodLink RX2 199 yX1_copyFrom, Cond.instanceMethod yX1_copyFrom, Cond.selects RX1 yX1_copyFrom yX1_copyFrom]
def wsL_roundsToRight_r2 : List Cond := [Cond.initialized RX1, Cond.code yX1_copyFrom cX1_copyFrom 2 none, Cond.fieldLink RX1 24 "ChordOverlay$Table" "cells" "[I", Cond.methodLink RX1 9 Lib.Math.min.name, Cond.static Lib.Math.min.name, Cond.initialized "java/lang/Math", Cond.code Lib.Math.min.name Lib.Math.min.code 2 (some .int), Cond.methodLink RX1 38 arraycopyName, Cond.native arraycopyName, Cond.static arraycopyName, Cond.initialized "java/lang/System", Cond.methodLink RX2 119 yX2_countWrongPointers, Cond.instanceMethod yX2_countWrongPointers, Cond.selects RX2 yX2_countWrongPointers yX2_countWrongPointers, Cond.code yX2_countWrongPointers cX2_countWrongPointers 3 (some .int), Cond.methodLink RX2 72 yX2_isAlive, Cond.instanceMethod yX2_isAlive, Cond.selects RX2 yX2_isAlive yX2_isAlive, Cond.code yX2_isAlive cX2_isAlive 2 (some .boolean), Cond.fieldLink RX2 9 "ChordOverlay" "lives" "[Z", Cond.methodLink RX2 193 yX2_countWrongPointersOf, Cond.instanceMethod yX2_countWrongPointersOf, Cond.selects RX2 yX2_countWrongPointersOf yX2_countWrongPointersOf, Cond.code yX2_countWrongPointersOf cX2_countWrongPointersOf 4 (some .int)]
def wsL_roundsToRight_r3 : List Cond := [Cond.methodLink RX2 91 yX2_firstLivingSuccessor, Cond.instanceMethod yX2_firstLivingSuccessor, Cond.selects RX2 yX2_firstLivingSuccessor yX2_firstLivingSuccessor, Cond.code yX2_firstLivingSuccessor cX2_firstLivingSuccessor 4 (some .int), Cond.methodLink RX2 85 yX1_at, Cond.instanceMethod yX1_at, Cond.selects RX1 yX1_at yX1_at, Cond.code yX1_at cX1_at 4 (some .int), Cond.fieldLink RX1 18 "ChordOverlay$Table" "width" "I", Cond.methodLink RX2 190 yX0_onward, Cond.static yX0_onward, Cond.initialized RX0, Cond.code yX0_onward cX0_onward 2 (some .int), Cond.methodLink RX2 133 yX2_firstLivingUpFrom, Cond.instanceMethod yX2_firstLivingUpFrom, Cond.selects RX2 yX2_firstLivingUpFrom yX2_firstLivingUpFrom, Cond.code yX2_firstLivingUpFrom cX2_firstLivingUpFrom 4 (some .int), Cond.methodLink RX2 196 yX2_firstLivingDownFrom, Cond.instanceMethod yX2_firstLivingDownFrom, Cond.selects RX2 yX2_firstLivingDownFrom yX2_firstLivingDownFrom, Cond.code yX2_firstLivingDownFrom cX2_firstLivingDownFrom 4 (some .int), Cond.methodLink RX2 175 yX0_fingerStart, Cond.static yX0_fingerStart, Cond.code yX0_fingerStart cX0_fingerStart 2 (some .int)]
def wsL_roundsToRight_r4 : List Cond := [Cond.methodLink RX0 11 yX0_onward, Cond.methodLink RX2 115 yX2_letRoundGoBy, Cond.instanceMethod yX2_letRoundGoBy, Cond.selects RX2 yX2_letRoundGoBy yX2_letRoundGoBy, Cond.code yX2_letRoundGoBy cX2_letRoundGoBy 3 none, Cond.methodLink RX2 103 yX2_dropDeadPredecessor, Cond.instanceMethod yX2_dropDeadPredecessor, Cond.selects RX2 yX2_dropDeadPredecessor yX2_dropDeadPredecessor, Cond.code yX2_dropDeadPredecessor cX2_dropDeadPredecessor 2 none, Cond.methodLink RX2 127 yX1_set, Cond.instanceMethod yX1_set, Cond.selects RX1 yX1_set yX1_set, Cond.code yX1_set cX1_set 5 none, Cond.methodLink RX2 106 yX2_mendSuccessors, Cond.instanceMethod yX2_mendSuccessors, Cond.selects RX2 yX2_mendSuccessors yX2_mendSuccessors, Cond.code yX2_mendSuccessors cX2_mendSuccessors 4 none, Cond.methodLink RX2 166 yX0_isBetween, Cond.static yX0_isBetween, Cond.code yX0_isBetween cX0_isBetween 3 (some .boolean), Cond.methodLink RX2 163 yX2_follow, Cond.instanceMethod yX2_follow, Cond.selects RX2 yX2_follow yX2_follow, Cond.code yX2_follow cX2_follow 5 none]
def wsL_roundsToRight_r5 : List Cond := [Cond.methodLink RX2 149 yX2_setSuccessors, Cond.instanceMethod yX2_setSuccessors, Cond.selects RX2 yX2_setSuccessors yX2_setSuccessors, Cond.code yX2_setSuccessors cX2_setSuccessors 5 none, Cond.methodLink RX2 172 yX2_notifyOf, Cond.instanceMethod yX2_notifyOf, Cond.selects RX2 yX2_notifyOf yX2_notifyOf, Cond.code yX2_notifyOf cX2_notifyOf 4 none, Cond.methodLink RX2 109 yX2_renewFingers, Cond.instanceMethod yX2_renewFingers, Cond.selects RX2 yX2_renewFingers yX2_renewFingers, Cond.code yX2_renewFingers cX2_renewFingers 5 (some .int), Cond.methodLink RX2 81 yX2_find, Cond.instanceMethod yX2_find, Cond.selects RX2 yX2_find yX2_find, Cond.code yX2_find cX2_find 6 (some .int), Cond.fieldLink RX2 38 "ChordOverlay" "route" "[I", Cond.fieldLink RX2 42 "ChordOverlay" "routeHops" "I", Cond.methodLink RX2 181 yX0_isUpTo, Cond.static yX0_isUpTo, Cond.code yX0_isUpTo cX0_isUpTo 3 (some .boolean), Cond.methodLink RX2 184 yX2_hopTowards, Cond.instanceMethod yX2_hopTowards, Cond.selects RX2 yX2_hopTowards yX2_hopTowards]
def wsL_roundsToRight_r6 : List Cond := [Cond.code yX2_hopTowards cX2_hopTowards 6 (some .int), Cond.methodLink RX2 112 yX2_spreadValues, Cond.instanceMethod yX2_spreadValues, Cond.selects RX2 yX2_spreadValues yX2_spreadValues, Cond.code yX2_spreadValues cX2_spreadValues 4 (some .int), Cond.fieldLink RX2 28 "ChordOverlay" "values" "LChordOverlay$Table;", Cond.methodLink RX2 178 yX2_spreadValue, Cond.instanceMethod yX2_spreadValue, Cond.selects RX2 yX2_spreadValue yX2_spreadValue, Cond.code yX2_spreadValue cX2_spreadValue 4 (some .int), Cond.methodLink RX2 159 yX2_giveCopy, Cond.instanceMethod yX2_giveCopy, Cond.selects RX2 yX2_giveCopy yX2_giveCopy, Cond.code yX2_giveCopy cX2_giveCopy 5 (some .int), Cond.fieldLink RX2 31 "ChordOverlay" "stamps" "LChordOverlay$Table;", Cond.methodLink RX2 130 yX2_copyToHeirs, Cond.instanceMethod yX2_copyToHeirs, Cond.selects RX2 yX2_copyToHeirs yX2_copyToHeirs, Cond.code yX2_copyToHeirs cX2_copyToHeirs 6 (some .int), Cond.methodLink RX2 187 yX2_firstHeir, Cond.instanceMethod yX2_firstHeir, Cond.selects RX2 yX2_firstHeir yX2_firstHeir, Cond.code yX2_firstHeir cX2_firstHeir 5 (some .int), Cond.methodLink RX2 139 yX2_takePointersBack]
def wsL_roundsToRight_r7 : List Cond := [Cond.instanceMethod yX2_takePointersBack, Cond.selects RX2 yX2_takePointersBack yX2_takePointersBack, Cond.code yX2_takePointersBack cX2_takePointersBack 1 none]
def wsL_roundsToRight : List Cond := .codeWith yL_roundsToRight cL_roundsToRight 4 (some .int) [(0, 9, 12, 13)] :: ((wsL_roundsToRight_r1 ++ (wsL_roundsToRight_r2 ++ (wsL_roundsToRight_r3 ++ (wsL_roundsToRight_r4 ++ (wsL_roundsToRight_r5 ++ (wsL_roundsToRight_r6 ++ wsL_roundsToRight_r7)))))) ++ wsX20 ++ wsX10 ++ (vx_atS RX2 146 "java/lang/IllegalArgumentException" ["java/lang/RuntimeException", "java/lang/Exception"]).filter goodWord)
def wsL_law0_r1 : List Cond := [Cond.classLink RL 8 RX2, Cond.instantiable RX2 12, Cond.initialized RX2, Cond.classLink RL 89 RX3, Cond.instantiable RX3 13, Cond.initialized RX3, Cond.arrayClass .long, Cond.methodLink RL 88 yX2_init, Cond.instanceMethod yX2_init, Cond.code yX2_init cX2_init 1 none, Cond.methodLink RX2 1 objectInit, Cond.instanceMethod objectInit, Cond.code objectInit ⟨#[0xb1]⟩ 1 none, Cond.arrayClass .boolean, Cond.fieldLink RX2 9 "ChordOverlay" "lives" "[Z", Cond.classLink RX2 13 RX1, Cond.instantiable RX1 2, Cond.initialized RX1, Cond.fieldLink RX2 18 "ChordOverlay" "successors" "LChordOverlay$Table;", Cond.fieldLink RX2 22 "ChordOverlay" "predecessors" "LChordOverlay$Table;", Cond.fieldLink RX2 25 "ChordOverlay" "fingers" "LChordOverlay$Table;", Cond.fieldLink RX2 28 "ChordOverlay" "values" "LChordOverlay$Table;", Cond.fieldLink RX2 31 "ChordOverlay" "stamps" "LChordOverlay$Table;", Cond.fieldLink RX2 34 "ChordOverlay" "lastStamp" "I"]
def wsL_law0_r2 : List Cond := [Cond.arrayClass .int, Cond.fieldLink RX2 38 "ChordOverlay" "route" "[I", Cond.fieldLink RX2 42 "ChordOverlay" "routeHops" "I", Cond.fieldLink RX2 45 "ChordOverlay" "asideSuccessors" "LChordOverlay$Table;", Cond.fieldLink RX2 48 "ChordOverlay" "asidePredecessors" "LChordOverlay$Table;", Cond.fieldLink RX2 51 "ChordOverlay" "asideFingers" "LChordOverlay$Table;", Cond.methodLink RX2 15 yX1_init, Cond.instanceMethod yX1_init, Cond.code yX1_init cX1_init 2 none, Cond.methodLink RX1 3 objectInit, Cond.methodLink RX1 9 Lib.Math.min.name, Cond.static Lib.Math.min.name, Cond.initialized "java/lang/Math", Cond.code Lib.Math.min.name Lib.Math.min.code 2 (some .int), Cond.methodLink RX1 15 Lib.Math.max.name, Cond.static Lib.Math.max.name, Cond.code Lib.Math.max.name Lib.Math.max.code 2 (some .int), Cond.fieldLink RX1 18 "ChordOverlay$Table" "width" "I", Cond.fieldLink RX1 24 "ChordOverlay$Table" "cells" "[I", Cond.methodLink RX1 28 yJ7_fill_53178, Cond.static yJ7_fill_53178, Cond.initialized RJ7, Cond.code yJ7_fill_53178 cJ7_fill_53178 4 none, Cond.methodLink RL 91 yX3_init]
def wsL_law0_r3 : List Cond := [Cond.instanceMethod yX3_init, Cond.code yX3_init cX3_init 1 none, Cond.methodLink RX3 1 objectInit, Cond.fieldLink RX3 7 "ChordOverlayModel" "lives" "[Z", Cond.fieldLink RX3 13 "ChordOverlayModel" "successor" "[I", Cond.fieldLink RX3 17 "ChordOverlayModel" "predecessor" "[I", Cond.fieldLink RX3 20 "ChordOverlayModel" "finger" "[I", Cond.fieldLink RX3 23 "ChordOverlayModel" "value" "[I", Cond.fieldLink RX3 26 "ChordOverlayModel" "stamp" "[I", Cond.fieldLink RX3 29 "ChordOverlayModel" "way" "[I", Cond.fieldLink RX3 32 "ChordOverlayModel" "heldSuccessor" "[I", Cond.fieldLink RX3 35 "ChordOverlayModel" "heldPredecessor" "[I", Cond.fieldLink RX3 38 "ChordOverlayModel" "heldFinger" "[I", Cond.methodLink RL 92 yL_create, Cond.static yL_create, Cond.initialized RL, Cond.codeWith yL_create cL_create 4 (some .int) [(0, 9, 12, 13), (0, 9, 15, 15)], Cond.classLink RL 13 "java/lang/IllegalArgumentException", Cond.classLink RL 15 "java/lang/IllegalStateException", Cond.methodLink RL 7 yX2_create, Cond.instanceMethod yX2_create, Cond.selects RX2 yX2_create yX2_create, Cond.code yX2_create cX2_create 2 (some .int), Cond.classLink RX2 61 "java/lang/IllegalStateException"]
def wsL_law0_r4 : List Cond := [Cond.initialized "java/lang/IllegalStateException", Cond.methodLink RX2 54 yX2_requireIdentifier, Cond.static yX2_requireIdentifier, Cond.code yX2_requireIdentifier cX2_requireIdentifier 1 none, Cond.methodLink RX2 99 yX2_requireRange, Cond.static yX2_requireRange, Cond.code yX2_requireRange cX2_requireRange 3 none, Cond.classLink RX2 142 "java/lang/IllegalArgumentException", Cond.initialized "java/lang/IllegalArgumentException", Cond.methodLink RX2 57 yX2_countLiving, Cond.instanceMethod yX2_countLiving, Cond.selects RX2 yX2_countLiving yX2_countLiving, Cond.code yX2_countLiving cX2_countLiving 3 (some .int), Cond.methodLink RX2 72 yX2_isAlive, Cond.instanceMethod yX2_isAlive, Cond.selects RX2 yX2_isAlive yX2_isAlive, Cond.code yX2_isAlive cX2_isAlive 2 (some .boolean), Cond.methodLink RX2 68 yX2_beginLife, Cond.instanceMethod yX2_beginLife, Cond.selects RX2 yX2_beginLife yX2_beginLife, Cond.code yX2_beginLife cX2_beginLife 5 none, Cond.methodLink RX2 149 yX2_setSuccessors, Cond.instanceMethod yX2_setSuccessors, Cond.selects RX2 yX2_setSuccessors yX2_setSuccessors]
def wsL_law0_r5 : List Cond := [Cond.code yX2_setSuccessors cX2_setSuccessors 5 none, Cond.methodLink RX2 127 yX1_set, Cond.instanceMethod yX1_set, Cond.selects RX1 yX1_set yX1_set, Cond.code yX1_set cX1_set 5 none, Cond.methodLink RX2 152 yX1_clear, Cond.instanceMethod yX1_clear, Cond.selects RX1 yX1_clear yX1_clear, Cond.code yX1_clear cX1_clear 3 none, Cond.methodLink RX1 34 yX1_set, Cond.methodLink RX2 155 yX2_setAlive, Cond.instanceMethod yX2_setAlive, Cond.selects RX2 yX2_setAlive yX2_setAlive, Cond.code yX2_setAlive cX2_setAlive 3 none, Cond.methodLink RL 97 yX3_create, Cond.instanceMethod yX3_create, Cond.selects RX3 yX3_create yX3_create, Cond.code yX3_create cX3_create 2 (some .int), Cond.fieldLink RX3 41 "ChordOverlayModel" "thrown" "I", Cond.methodLink RX3 67 yX3_isId, Cond.static yX3_isId, Cond.code yX3_isId cX3_isId 1 (some .boolean), Cond.methodLink RX3 71 yX3_fails, Cond.instanceMethod yX3_fails]
def wsL_law0_r6 : List Cond := [Cond.selects RX3 yX3_fails yX3_fails, Cond.code yX3_fails cX3_fails 2 (some .int), Cond.methodLink RX3 74 yX3_countLiving, Cond.instanceMethod yX3_countLiving, Cond.selects RX3 yX3_countLiving yX3_countLiving, Cond.code yX3_countLiving cX3_countLiving 3 (some .int), Cond.methodLink RX3 78 yX3_begins, Cond.instanceMethod yX3_begins, Cond.selects RX3 yX3_begins yX3_begins, Cond.code yX3_begins cX3_begins 6 none, Cond.methodLink RL 98 yX3_thrown, Cond.instanceMethod yX3_thrown, Cond.selects RX3 yX3_thrown yX3_thrown, Cond.code yX3_thrown cX3_thrown 1 (some .int), Cond.methodLink RL 102 yL_join, Cond.static yL_join, Cond.codeWith yL_join cL_join 5 (some .int) [(0, 10, 13, 13), (0, 10, 17, 15)], Cond.methodLink RL 17 yX2_join, Cond.instanceMethod yX2_join, Cond.selects RX2 yX2_join yX2_join, Cond.code yX2_join cX2_join 4 (some .int), Cond.methodLink RX2 78 yX2_requireAlive, Cond.instanceMethod yX2_requireAlive, Cond.selects RX2 yX2_requireAlive yX2_requireAlive]
def wsL_law0_r7 : List Cond := [Cond.code yX2_requireAlive cX2_requireAlive 2 none, Cond.methodLink RX2 81 yX2_find, Cond.instanceMethod yX2_find, Cond.selects RX2 yX2_find yX2_find, Cond.code yX2_find cX2_find 6 (some .int), Cond.methodLink RX2 91 yX2_firstLivingSuccessor, Cond.instanceMethod yX2_firstLivingSuccessor, Cond.selects RX2 yX2_firstLivingSuccessor yX2_firstLivingSuccessor, Cond.code yX2_firstLivingSuccessor cX2_firstLivingSuccessor 4 (some .int), Cond.methodLink RX2 85 yX1_at, Cond.instanceMethod yX1_at, Cond.selects RX1 yX1_at yX1_at, Cond.code yX1_at cX1_at 4 (some .int), Cond.methodLink RX2 181 yX0_isUpTo, Cond.static yX0_isUpTo, Cond.initialized RX0, Cond.code yX0_isUpTo cX0_isUpTo 3 (some .boolean), Cond.methodLink RX2 184 yX2_hopTowards, Cond.instanceMethod yX2_hopTowards, Cond.selects RX2 yX2_hopTowards yX2_hopTowards, Cond.code yX2_hopTowards cX2_hopTowards 6 (some .int), Cond.methodLink RX2 166 yX0_isBetween, Cond.static yX0_isBetween, Cond.code yX0_isBetween cX0_isBetween 3 (some .boolean)]
def wsL_law0_r8 : List Cond := [Cond.methodLink RL 105 yX3_join, Cond.instanceMethod yX3_join, Cond.selects RX3 yX3_join yX3_join, Cond.code yX3_join cX3_join 4 (some .int), Cond.methodLink RX3 82 yX3_find, Cond.instanceMethod yX3_find, Cond.selects RX3 yX3_find yX3_find, Cond.code yX3_find cX3_find 5 (some .int), Cond.fieldLink RX3 60 "ChordOverlayModel" "hopped" "I", Cond.methodLink RX3 56 yX3_liveSuccessorOf, Cond.instanceMethod yX3_liveSuccessorOf, Cond.selects RX3 yX3_liveSuccessorOf yX3_liveSuccessorOf, Cond.code yX3_liveSuccessorOf cX3_liveSuccessorOf 4 (some .int), Cond.methodLink RX3 49 yX3_isWithin, Cond.static yX3_isWithin, Cond.code yX3_isWithin cX3_isWithin 5 (some .boolean), Cond.methodLink RX3 45 yX3_up, Cond.static yX3_up, Cond.code yX3_up cX3_up 2 (some .int), Cond.methodLink RX3 63 yX3_nextHop, Cond.instanceMethod yX3_nextHop, Cond.selects RX3 yX3_nextHop yX3_nextHop, Cond.code yX3_nextHop cX3_nextHop 7 (some .int), Cond.methodLink RX3 53 yX3_isBetween]
def wsL_law0_r9 : List Cond := [Cond.static yX3_isBetween, Cond.code yX3_isBetween cX3_isBetween 3 (some .boolean), Cond.methodLink RL 106 yL_fail, Cond.static yL_fail, Cond.codeWith yL_fail cL_fail 4 (some .int) [(0, 9, 12, 13), (0, 9, 15, 15)], Cond.methodLink RL 21 yX2_fail, Cond.instanceMethod yX2_fail, Cond.selects RX2 yX2_fail yX2_fail, Cond.code yX2_fail cX2_fail 2 (some .int), Cond.methodLink RX2 88 yX2_endLife, Cond.instanceMethod yX2_endLife, Cond.selects RX2 yX2_endLife yX2_endLife, Cond.code yX2_endLife cX2_endLife 2 none, Cond.methodLink RL 108 yX3_fail, Cond.instanceMethod yX3_fail, Cond.selects RX3 yX3_fail yX3_fail, Cond.code yX3_fail cX3_fail 2 (some .int), Cond.methodLink RX3 85 yX3_refuses, Cond.instanceMethod yX3_refuses, Cond.selects RX3 yX3_refuses yX3_refuses, Cond.code yX3_refuses cX3_refuses 2 (some .int), Cond.methodLink RL 109 yL_leave, Cond.static yL_leave, Cond.codeWith yL_leave cL_leave 4 (some .int) [(0, 9, 12, 13), (0, 9, 15, 15)]]
def wsL_law0_r10 : List Cond := [Cond.methodLink RL 24 yX2_leave, Cond.instanceMethod yX2_leave, Cond.selects RX2 yX2_leave yX2_leave, Cond.code yX2_leave cX2_leave 3 (some .int), Cond.methodLink RX2 95 yX2_handOver, Cond.instanceMethod yX2_handOver, Cond.selects RX2 yX2_handOver yX2_handOver, Cond.code yX2_handOver cX2_handOver 4 none, Cond.methodLink RX2 159 yX2_giveCopy, Cond.instanceMethod yX2_giveCopy, Cond.selects RX2 yX2_giveCopy yX2_giveCopy, Cond.code yX2_giveCopy cX2_giveCopy 5 (some .int), Cond.methodLink RX2 163 yX2_follow, Cond.instanceMethod yX2_follow, Cond.selects RX2 yX2_follow yX2_follow, Cond.code yX2_follow cX2_follow 5 none, Cond.methodLink RL 111 yX3_leave, Cond.instanceMethod yX3_leave, Cond.selects RX3 yX3_leave yX3_leave, Cond.code yX3_leave cX3_leave 5 (some .int), Cond.methodLink RX3 88 yX3_copy, Cond.instanceMethod yX3_copy, Cond.selects RX3 yX3_copy yX3_copy, Cond.code yX3_copy cX3_copy 4 (some .int)]
def wsL_law0_r11 : List Cond := [Cond.methodLink RX3 91 yX3_follows, Cond.instanceMethod yX3_follows, Cond.selects RX3 yX3_follows yX3_follows, Cond.code yX3_follows cX3_follows 5 none, Cond.methodLink RL 112 yX2_living, Cond.instanceMethod yX2_living, Cond.selects RX2 yX2_living yX2_living, Cond.code yX2_living cX2_living 1 (some .int), Cond.methodLink RL 115 yX3_living, Cond.instanceMethod yX3_living, Cond.selects RX3 yX3_living yX3_living, Cond.code yX3_living cX3_living 1 (some .int), Cond.methodLink RL 116 yL_isLiving, Cond.static yL_isLiving, Cond.codeWith yL_isLiving cL_isLiving 4 (some .int) [(0, 16, 19, 13)], Cond.methodLink RL 27 yX2_isLiving, Cond.instanceMethod yX2_isLiving, Cond.selects RX2 yX2_isLiving yX2_isLiving, Cond.code yX2_isLiving cX2_isLiving 2 (some .boolean), Cond.methodLink RL 118 yX3_isLiving, Cond.instanceMethod yX3_isLiving, Cond.selects RX3 yX3_isLiving yX3_isLiving, Cond.code yX3_isLiving cX3_isLiving 2 (some .boolean), Cond.methodLink RL 119 yL_successor]
def wsL_law0_r12 : List Cond := [Cond.static yL_successor, Cond.codeWith yL_successor cL_successor 5 (some .int) [(0, 10, 13, 13), (0, 10, 17, 15)], Cond.methodLink RL 31 yX2_successor, Cond.instanceMethod yX2_successor, Cond.selects RX2 yX2_successor yX2_successor, Cond.code yX2_successor cX2_successor 3 (some .int), Cond.methodLink RL 121 yX3_successor, Cond.instanceMethod yX3_successor, Cond.selects RX3 yX3_successor yX3_successor, Cond.code yX3_successor cX3_successor 3 (some .int), Cond.methodLink RL 122 yL_liveSuccessor, Cond.static yL_liveSuccessor, Cond.codeWith yL_liveSuccessor cL_liveSuccessor 4 (some .int) [(0, 9, 12, 13), (0, 9, 15, 15)], Cond.methodLink RL 34 yX2_liveSuccessor, Cond.instanceMethod yX2_liveSuccessor, Cond.selects RX2 yX2_liveSuccessor yX2_liveSuccessor, Cond.code yX2_liveSuccessor cX2_liveSuccessor 2 (some .int), Cond.methodLink RL 124 yX3_liveSuccessor, Cond.instanceMethod yX3_liveSuccessor, Cond.selects RX3 yX3_liveSuccessor yX3_liveSuccessor, Cond.code yX3_liveSuccessor cX3_liveSuccessor 2 (some .int), Cond.methodLink RL 125 yL_predecessor, Cond.static yL_predecessor, Cond.codeWith yL_predecessor cL_predecessor 4 (some .int) [(0, 9, 12, 13), (0, 9, 15, 15)]]
def wsL_law0_r13 : List Cond := [Cond.methodLink RL 37 yX2_predecessor, Cond.instanceMethod yX2_predecessor, Cond.selects RX2 yX2_predecessor yX2_predecessor, Cond.code yX2_predecessor cX2_predecessor 2 (some .int), Cond.methodLink RL 127 yX3_predecessor, Cond.instanceMethod yX3_predecessor, Cond.selects RX3 yX3_predecessor yX3_predecessor, Cond.code yX3_predecessor cX3_predecessor 2 (some .int), Cond.methodLink RL 128 yL_finger, Cond.static yL_finger, Cond.codeWith yL_finger cL_finger 5 (some .int) [(0, 10, 13, 13), (0, 10, 17, 15)], Cond.methodLink RL 40 yX2_finger, Cond.instanceMethod yX2_finger, Cond.selects RX2 yX2_finger yX2_finger, Cond.code yX2_finger cX2_finger 3 (some .int), Cond.methodLink RL 130 yX3_finger, Cond.instanceMethod yX3_finger, Cond.selects RX3 yX3_finger yX3_finger, Cond.code yX3_finger cX3_finger 3 (some .int), Cond.methodLink RL 131 yL_check, Cond.static yL_check, Cond.codeWith yL_check cL_check 4 (some .int) [(0, 16, 19, 13), (0, 16, 22, 15)], Cond.methodLink RL 43 yX2_check, Cond.instanceMethod yX2_check]
def wsL_law0_r14 : List Cond := [Cond.selects RX2 yX2_check yX2_check, Cond.code yX2_check cX2_check 2 (some .boolean), Cond.methodLink RX2 103 yX2_dropDeadPredecessor, Cond.instanceMethod yX2_dropDeadPredecessor, Cond.selects RX2 yX2_dropDeadPredecessor yX2_dropDeadPredecessor, Cond.code yX2_dropDeadPredecessor cX2_dropDeadPredecessor 2 none, Cond.methodLink RL 133 yX3_check, Cond.instanceMethod yX3_check, Cond.selects RX3 yX3_check yX3_check, Cond.code yX3_check cX3_check 2 (some .boolean), Cond.methodLink RX3 98 yX3_checks, Cond.instanceMethod yX3_checks, Cond.selects RX3 yX3_checks yX3_checks, Cond.code yX3_checks cX3_checks 2 none, Cond.methodLink RL 134 yL_stabilize, Cond.static yL_stabilize, Cond.codeWith yL_stabilize cL_stabilize 4 (some .int) [(0, 9, 12, 13), (0, 9, 15, 15)], Cond.methodLink RL 46 yX2_stabilize, Cond.instanceMethod yX2_stabilize, Cond.selects RX2 yX2_stabilize yX2_stabilize, Cond.code yX2_stabilize cX2_stabilize 2 (some .int), Cond.methodLink RX2 106 yX2_mendSuccessors, Cond.instanceMethod yX2_mendSuccessors, Cond.selects RX2 yX2_mendSuccessors yX2_mendSuccessors]
def wsL_law0_r15 : List Cond := [Cond.code yX2_mendSuccessors cX2_mendSuccessors 4 none, Cond.methodLink RX2 172 yX2_notifyOf, Cond.instanceMethod yX2_notifyOf, Cond.selects RX2 yX2_notifyOf yX2_notifyOf, Cond.code yX2_notifyOf cX2_notifyOf 4 none, Cond.methodLink RL 136 yX3_stabilize, Cond.instanceMethod yX3_stabilize, Cond.selects RX3 yX3_stabilize yX3_stabilize, Cond.code yX3_stabilize cX3_stabilize 2 (some .int), Cond.methodLink RX3 102 yX3_stabilizes, Cond.instanceMethod yX3_stabilizes, Cond.selects RX3 yX3_stabilizes yX3_stabilizes, Cond.code yX3_stabilizes cX3_stabilizes 5 none, Cond.methodLink RL 137 yL_fix, Cond.static yL_fix, Cond.codeWith yL_fix cL_fix 4 (some .int) [(0, 9, 12, 13), (0, 9, 15, 15)], Cond.methodLink RL 49 yX2_fix, Cond.instanceMethod yX2_fix, Cond.selects RX2 yX2_fix yX2_fix, Cond.code yX2_fix cX2_fix 2 (some .int), Cond.methodLink RX2 109 yX2_renewFingers, Cond.instanceMethod yX2_renewFingers, Cond.selects RX2 yX2_renewFingers yX2_renewFingers, Cond.code yX2_renewFingers cX2_renewFingers 5 (some .int)]
def wsL_law0_r16 : List Cond := [Cond.methodLink RX2 175 yX0_fingerStart, Cond.static yX0_fingerStart, Cond.code yX0_fingerStart cX0_fingerStart 2 (some .int), Cond.methodLink RX0 11 yX0_onward, Cond.static yX0_onward, Cond.code yX0_onward cX0_onward 2 (some .int), Cond.methodLink RL 139 yX3_fix, Cond.instanceMethod yX3_fix, Cond.selects RX3 yX3_fix yX3_fix, Cond.code yX3_fix cX3_fix 2 (some .int), Cond.methodLink RX3 105 yX3_fixes, Cond.instanceMethod yX3_fixes, Cond.selects RX3 yX3_fixes yX3_fixes, Cond.code yX3_fixes cX3_fixes 5 (some .int), Cond.methodLink RL 140 yL_replicate, Cond.static yL_replicate, Cond.codeWith yL_replicate cL_replicate 4 (some .int) [(0, 9, 12, 13), (0, 9, 15, 15)], Cond.methodLink RL 52 yX2_replicate, Cond.instanceMethod yX2_replicate, Cond.selects RX2 yX2_replicate yX2_replicate, Cond.code yX2_replicate cX2_replicate 2 (some .int), Cond.methodLink RX2 112 yX2_spreadValues, Cond.instanceMethod yX2_spreadValues, Cond.selects RX2 yX2_spreadValues yX2_spreadValues]
def wsL_law0_r17 : List Cond := [Cond.code yX2_spreadValues cX2_spreadValues 4 (some .int), Cond.methodLink RX2 178 yX2_spreadValue, Cond.instanceMethod yX2_spreadValue, Cond.selects RX2 yX2_spreadValue yX2_spreadValue, Cond.code yX2_spreadValue cX2_spreadValue 4 (some .int), Cond.methodLink RX2 130 yX2_copyToHeirs, Cond.instanceMethod yX2_copyToHeirs, Cond.selects RX2 yX2_copyToHeirs yX2_copyToHeirs, Cond.code yX2_copyToHeirs cX2_copyToHeirs 6 (some .int), Cond.methodLink RX2 187 yX2_firstHeir, Cond.instanceMethod yX2_firstHeir, Cond.selects RX2 yX2_firstHeir yX2_firstHeir, Cond.code yX2_firstHeir cX2_firstHeir 5 (some .int), Cond.methodLink RL 142 yX3_replicate, Cond.instanceMethod yX3_replicate, Cond.selects RX3 yX3_replicate yX3_replicate, Cond.code yX3_replicate cX3_replicate 2 (some .int), Cond.methodLink RX3 108 yX3_replicates, Cond.instanceMethod yX3_replicates, Cond.selects RX3 yX3_replicates yX3_replicates, Cond.code yX3_replicates cX3_replicates 6 (some .int), Cond.methodLink RX3 95 yX3_spreads, Cond.instanceMethod yX3_spreads, Cond.selects RX3 yX3_spreads yX3_spreads]
def wsL_law0_r18 : List Cond := [Cond.code yX3_spreads cX3_spreads 8 (some .int), Cond.methodLink RL 143 yL_goRounds, Cond.static yL_goRounds, Cond.codeWith yL_goRounds cL_goRounds 4 (some .int) [(0, 9, 12, 13)], Cond.methodLink RL 55 yX2_goRounds, Cond.instanceMethod yX2_goRounds, Cond.selects RX2 yX2_goRounds yX2_goRounds, Cond.code yX2_goRounds cX2_goRounds 3 (some .int), Cond.methodLink RX2 115 yX2_letRoundGoBy, Cond.instanceMethod yX2_letRoundGoBy, Cond.selects RX2 yX2_letRoundGoBy yX2_letRoundGoBy, Cond.code yX2_letRoundGoBy cX2_letRoundGoBy 3 none, Cond.methodLink RX2 119 yX2_countWrongPointers, Cond.instanceMethod yX2_countWrongPointers, Cond.selects RX2 yX2_countWrongPointers yX2_countWrongPointers, Cond.code yX2_countWrongPointers cX2_countWrongPointers 3 (some .int), Cond.methodLink RX2 193 yX2_countWrongPointersOf, Cond.instanceMethod yX2_countWrongPointersOf, Cond.selects RX2 yX2_countWrongPointersOf yX2_countWrongPointersOf, Cond.code yX2_countWrongPointersOf cX2_countWrongPointersOf 4 (some .int), Cond.methodLink RX2 190 yX0_onward, Cond.methodLink RX2 133 yX2_firstLivingUpFrom, Cond.instanceMethod yX2_firstLivingUpFrom, Cond.selects RX2 yX2_firstLivingUpFrom yX2_firstLivingUpFrom]
def wsL_law0_r19 : List Cond := [Cond.code yX2_firstLivingUpFrom cX2_firstLivingUpFrom 4 (some .int), Cond.methodLink RX2 196 yX2_firstLivingDownFrom, Cond.instanceMethod yX2_firstLivingDownFrom, Cond.selects RX2 yX2_firstLivingDownFrom yX2_firstLivingDownFrom, Cond.code yX2_firstLivingDownFrom cX2_firstLivingDownFrom 4 (some .int), Cond.methodLink RL 145 yX3_goRounds, Cond.instanceMethod yX3_goRounds, Cond.selects RX3 yX3_goRounds yX3_goRounds, Cond.code yX3_goRounds cX3_goRounds 3 (some .int), Cond.methodLink RX3 111 yX3_round, Cond.instanceMethod yX3_round, Cond.selects RX3 yX3_round yX3_round, Cond.code yX3_round cX3_round 5 none, Cond.methodLink RX3 115 yX3_countWrong, Cond.instanceMethod yX3_countWrong, Cond.selects RX3 yX3_countWrong yX3_countWrong, Cond.code yX3_countWrong cX3_countWrong 3 (some .int), Cond.methodLink RX3 133 yX3_wrongOf, Cond.instanceMethod yX3_wrongOf, Cond.selects RX3 yX3_wrongOf yX3_wrongOf, Cond.code yX3_wrongOf cX3_wrongOf 4 (some .int), Cond.methodLink RX3 127 yX3_ownerOf, Cond.instanceMethod yX3_ownerOf, Cond.selects RX3 yX3_ownerOf yX3_ownerOf]
def wsL_law0_r20 : List Cond := [Cond.code yX3_ownerOf cX3_ownerOf 4 (some .int), Cond.methodLink RX3 130 yX3_before, Cond.instanceMethod yX3_before, Cond.selects RX3 yX3_before yX3_before, Cond.code yX3_before cX3_before 4 (some .int), Cond.methodLink RL 146 yL_lookup, Cond.static yL_lookup, Cond.codeWith yL_lookup cL_lookup 5 (some .int) [(0, 10, 13, 13), (0, 10, 17, 15)], Cond.methodLink RL 58 yX2_lookup, Cond.instanceMethod yX2_lookup, Cond.selects RX2 yX2_lookup yX2_lookup, Cond.code yX2_lookup cX2_lookup 3 (some .int), Cond.methodLink RL 148 yX3_lookup, Cond.instanceMethod yX3_lookup, Cond.selects RX3 yX3_lookup yX3_lookup, Cond.code yX3_lookup cX3_lookup 3 (some .int), Cond.methodLink RX3 118 yX3_refusesLookup, Cond.instanceMethod yX3_refusesLookup, Cond.selects RX3 yX3_refusesLookup yX3_refusesLookup, Cond.code yX3_refusesLookup cX3_refusesLookup 3 (some .int), Cond.methodLink RL 149 yL_hops, Cond.static yL_hops, Cond.codeWith yL_hops cL_hops 5 (some .int) [(0, 10, 13, 13), (0, 10, 17, 15)], Cond.methodLink RL 61 yX2_hops]
def wsL_law0_r21 : List Cond := [Cond.instanceMethod yX2_hops, Cond.selects RX2 yX2_hops yX2_hops, Cond.code yX2_hops cX2_hops 3 (some .int), Cond.methodLink RL 151 yX3_hops, Cond.instanceMethod yX3_hops, Cond.selects RX3 yX3_hops yX3_hops, Cond.code yX3_hops cX3_hops 4 (some .int), Cond.methodLink RL 152 yL_hopAt, Cond.static yL_hopAt, Cond.codeWith yL_hopAt cL_hopAt 6 (some .int) [(0, 12, 15, 13), (0, 12, 19, 15), (0, 12, 23, 68)], Cond.classLink RL 68 "java/lang/IndexOutOfBoundsException", Cond.methodLink RL 64 yX2_hopAt, Cond.instanceMethod yX2_hopAt, Cond.selects RX2 yX2_hopAt yX2_hopAt, Cond.code yX2_hopAt cX2_hopAt 4 (some .int), Cond.classLink RX2 122 "java/lang/IndexOutOfBoundsException", Cond.initialized "java/lang/IndexOutOfBoundsException", Cond.methodLink RL 155 yX3_hopAt, Cond.instanceMethod yX3_hopAt, Cond.selects RX3 yX3_hopAt yX3_hopAt, Cond.code yX3_hopAt cX3_hopAt 5 (some .int), Cond.methodLink RL 156 yL_put, Cond.static yL_put, Cond.codeWith yL_put cL_put 6 (some .int) [(0, 12, 15, 13), (0, 12, 19, 15)]]
def wsL_law0_r22 : List Cond := [Cond.methodLink RL 70 yX2_put, Cond.instanceMethod yX2_put, Cond.selects RX2 yX2_put yX2_put, Cond.code yX2_put cX2_put 5 (some .int), Cond.methodLink RL 158 yX3_put, Cond.instanceMethod yX3_put, Cond.selects RX3 yX3_put yX3_put, Cond.code yX3_put cX3_put 6 (some .int), Cond.fieldLink RX3 121 "ChordOverlayModel" "stamps" "I", Cond.methodLink RL 159 yL_get, Cond.static yL_get, Cond.codeWith yL_get cL_get 5 (some .int) [(0, 10, 13, 13), (0, 10, 17, 15)], Cond.methodLink RL 73 yX2_get, Cond.instanceMethod yX2_get, Cond.selects RX2 yX2_get yX2_get, Cond.code yX2_get cX2_get 3 (some .int), Cond.methodLink RL 161 yX3_get, Cond.instanceMethod yX3_get, Cond.selects RX3 yX3_get yX3_get, Cond.code yX3_get cX3_get 4 (some .int), Cond.methodLink RX3 124 yX3_keptAt, Cond.instanceMethod yX3_keptAt, Cond.selects RX3 yX3_keptAt yX3_keptAt, Cond.code yX3_keptAt cX3_keptAt 3 (some .int)]
def wsL_law0_r23 : List Cond := [Cond.methodLink RL 162 yL_kept, Cond.static yL_kept, Cond.codeWith yL_kept cL_kept 5 (some .int) [(0, 10, 13, 13), (0, 10, 17, 15)], Cond.methodLink RL 76 yX2_kept, Cond.instanceMethod yX2_kept, Cond.selects RX2 yX2_kept yX2_kept, Cond.code yX2_kept cX2_kept 3 (some .int), Cond.methodLink RL 164 yX3_kept, Cond.instanceMethod yX3_kept, Cond.selects RX3 yX3_kept yX3_kept, Cond.code yX3_kept cX3_kept 3 (some .int), Cond.methodLink RL 165 yL_keepers, Cond.static yL_keepers, Cond.codeWith yL_keepers cL_keepers 4 (some .int) [(0, 9, 12, 13)], Cond.methodLink RL 79 yX2_keepers, Cond.instanceMethod yX2_keepers, Cond.selects RX2 yX2_keepers yX2_keepers, Cond.code yX2_keepers cX2_keepers 4 (some .int), Cond.methodLink RL 167 yX3_keepers, Cond.instanceMethod yX3_keepers, Cond.selects RX3 yX3_keepers yX3_keepers, Cond.code yX3_keepers cX3_keepers 4 (some .int), Cond.methodLink RL 168 yL_owner, Cond.static yL_owner]
def wsL_law0_r24 : List Cond := [Cond.codeWith yL_owner cL_owner 4 (some .int) [(0, 9, 12, 13)], Cond.methodLink RL 82 yX2_owner, Cond.instanceMethod yX2_owner, Cond.selects RX2 yX2_owner yX2_owner, Cond.code yX2_owner cX2_owner 2 (some .int), Cond.methodLink RL 170 yX3_owner, Cond.instanceMethod yX3_owner, Cond.selects RX3 yX3_owner yX3_owner, Cond.code yX3_owner cX3_owner 2 (some .int), Cond.methodLink RL 171 yX2_wrongPointers, Cond.instanceMethod yX2_wrongPointers, Cond.selects RX2 yX2_wrongPointers yX2_wrongPointers, Cond.code yX2_wrongPointers cX2_wrongPointers 1 (some .int), Cond.methodLink RL 174 yX3_wrongPointers, Cond.instanceMethod yX3_wrongPointers, Cond.selects RX3 yX3_wrongPointers yX3_wrongPointers, Cond.code yX3_wrongPointers cX3_wrongPointers 1 (some .int), Cond.methodLink RL 175 yL_roundsToRight, Cond.static yL_roundsToRight, Cond.codeWith yL_roundsToRight cL_roundsToRight 4 (some .int) [(0, 9, 12, 13)], Cond.methodLink RL 85 yX2_roundsToRight, Cond.instanceMethod yX2_roundsToRight, Cond.selects RX2 yX2_roundsToRight yX2_roundsToRight, Cond.code yX2_roundsToRight cX2_roundsToRight 3 (some .int)]
def wsL_law0_r25 : List Cond := [Cond.methodLink RX2 136 yX2_layPointersAside, Cond.instanceMethod yX2_layPointersAside, Cond.selects RX2 yX2_layPointersAside yX2_layPointersAside, Cond.code yX2_layPointersAside cX2_layPointersAside 1 none, Cond.methodLink RX2 199 yX1_copyFrom, Cond.instanceMethod yX1_copyFrom, Cond.selects RX1 yX1_copyFrom yX1_copyFrom, Cond.code yX1_copyFrom cX1_copyFrom 2 none, Cond.methodLink RX1 38 arraycopyName, Cond.native arraycopyName, Cond.static arraycopyName, Cond.initialized "java/lang/System", Cond.methodLink RX2 139 yX2_takePointersBack, Cond.instanceMethod yX2_takePointersBack, Cond.selects RX2 yX2_takePointersBack yX2_takePointersBack, Cond.code yX2_takePointersBack cX2_takePointersBack 1 none, Cond.methodLink RL 177 yX3_roundsToRight, Cond.instanceMethod yX3_roundsToRight, Cond.selects RX3 yX3_roundsToRight yX3_roundsToRight, Cond.code yX3_roundsToRight cX3_roundsToRight 3 (some .int), Cond.methodLink RX3 136 yX3_move, Cond.static yX3_move, Cond.code yX3_move cX3_move 3 none]
def wsL_law0 : List Cond := (wsL_law0_r1 ++ (wsL_law0_r2 ++ (wsL_law0_r3 ++ (wsL_law0_r4 ++ (wsL_law0_r5 ++ (wsL_law0_r6 ++ (wsL_law0_r7 ++ (wsL_law0_r8 ++ (wsL_law0_r9 ++ (wsL_law0_r10 ++ (wsL_law0_r11 ++ (wsL_law0_r12 ++ (wsL_law0_r13 ++ (wsL_law0_r14 ++ (wsL_law0_r15 ++ (wsL_law0_r16 ++ (wsL_law0_r17 ++ (wsL_law0_r18 ++ (wsL_law0_r19 ++ (wsL_law0_r20 ++ (wsL_law0_r21 ++ (wsL_law0_r22 ++ (wsL_law0_r23 ++ (wsL_law0_r24 ++ wsL_law0_r25)))))))))))))))))))))))) ++ wsX20 ++ wsX30 ++ wsX10 ++ ([] : List Cond)
def wsL_law : List Cond := wsL_law0 ++ (vx_atS RX2 65 "java/lang/IllegalStateException" ["java/lang/RuntimeException", "java/lang/Exception"]).filter goodWord ++ (vx_atS RX2 146 "java/lang/IllegalArgumentException" ["java/lang/RuntimeException", "java/lang/Exception"]).filter goodWord ++ (vx_atS RX2 126 "java/lang/IndexOutOfBoundsException" ["java/lang/RuntimeException", "java/lang/Exception"]).filter goodWord
abbrev vwCl : List vw_C := [(RX1, TX1, 2), (RX2, TX2, 12), (RX3, TX3, 13)]
end
section
theorem in_of {big : List Cond} (ws : List Cond) (ps : List Nat) (hp : ws = ps.filterMap (fun i => big[i]?)) : ∀ w ∈ ws, w ∈ big := by
  intro w hw
  rw [hp] at hw
  obtain ⟨i, -, hi⟩ := List.mem_filterMap.mp hw
  first | exact List.mem_of_getElem? hi | exact List.getElem?_mem hi
set_option maxRecDepth 20000 in
theorem wsL_law0_r1_in : ∀ w ∈ wsL_law0_r1, w ∈ lw_tbl := in_of _ [64, 65, 51, 558, 559, 55, 807, 66, 67, 68, 69, 70, 71, 94, 96, 72, 73, 52, 97, 98, 99, 100, 101, 102] (by decide +kernel)
set_option maxRecDepth 20000 in
theorem wsL_law0_r2_in : ∀ w ∈ wsL_law0_r2, w ∈ lw_tbl := in_of _ [95, 103, 104, 105, 106, 107, 74, 75, 76, 77, 78, 79, 53, 80, 81, 82, 83, 87, 88, 84, 85, 54, 86, 560] (by decide +kernel)
set_option maxRecDepth 20000 in
theorem wsL_law0_r3_in : ∀ w ∈ wsL_law0_r3, w ∈ lw_tbl := in_of _ [561, 562, 563, 566, 567, 568, 569, 570, 571, 572, 574, 575, 576, 180, 181, 50, 182, 183, 184, 185, 186, 187, 188, 263] (by decide +kernel)
set_option maxRecDepth 20000 in
theorem wsL_law0_r4_in : ∀ w ∈ wsL_law0_r4, w ∈ lw_tbl := in_of _ [60, 189, 190, 191, 192, 193, 194, 195, 59, 137, 139, 0, 140, 141, 143, 1, 144, 279, 281, 8, 282, 283, 285, 9] (by decide +kernel)
set_option maxRecDepth 20000 in
theorem wsL_law0_r5_in : ∀ w ∈ wsL_law0_r5, w ∈ lw_tbl := in_of _ [286, 287, 288, 289, 290, 291, 292, 293, 294, 295, 296, 298, 10, 299, 608, 609, 610, 611, 564, 612, 613, 614, 615, 617] (by decide +kernel)
set_option maxRecDepth 20000 in
theorem wsL_law0_r6_in : ∀ w ∈ wsL_law0_r6, w ∈ lw_tbl := in_of _ [29, 618, 619, 621, 30, 622, 623, 625, 31, 626, 604, 605, 606, 607, 300, 301, 302, 303, 304, 305, 306, 308, 310, 11] (by decide +kernel)
set_option maxRecDepth 20000 in
theorem wsL_law0_r7_in : ∀ w ∈ wsL_law0_r7, w ∈ lw_tbl := in_of _ [311, 313, 315, 12, 316, 157, 159, 4, 160, 161, 162, 163, 164, 317, 318, 61, 319, 320, 322, 13, 323, 324, 325, 326] (by decide +kernel)
set_option maxRecDepth 20000 in
theorem wsL_law0_r8_in : ∀ w ∈ wsL_law0_r8, w ∈ lw_tbl := in_of _ [627, 628, 629, 630, 631, 633, 32, 634, 573, 635, 637, 33, 638, 639, 640, 641, 642, 643, 644, 645, 647, 34, 648, 649] (by decide +kernel)
set_option maxRecDepth 20000 in
theorem wsL_law0_r9_in : ∀ w ∈ wsL_law0_r9, w ∈ lw_tbl := in_of _ [650, 651, 327, 328, 329, 330, 331, 332, 333, 334, 336, 14, 337, 652, 653, 654, 655, 656, 658, 35, 659, 338, 339, 340] (by decide +kernel)
set_option maxRecDepth 20000 in
theorem wsL_law0_r10_in : ∀ w ∈ wsL_law0_r10, w ∈ lw_tbl := in_of _ [341, 342, 343, 344, 345, 347, 15, 348, 349, 351, 16, 352, 353, 355, 17, 356, 660, 661, 662, 663, 664, 666, 36, 667] (by decide +kernel)
set_option maxRecDepth 20000 in
theorem wsL_law0_r11_in : ∀ w ∈ wsL_law0_r11, w ∈ lw_tbl := in_of _ [668, 670, 37, 671, 133, 134, 135, 136, 672, 673, 674, 675, 357, 358, 359, 360, 361, 362, 363, 676, 677, 678, 679, 364] (by decide +kernel)
set_option maxRecDepth 20000 in
theorem wsL_law0_r12_in : ∀ w ∈ wsL_law0_r12, w ∈ lw_tbl := in_of _ [365, 366, 367, 368, 369, 370, 680, 681, 682, 683, 371, 372, 373, 374, 375, 376, 377, 684, 685, 686, 687, 378, 379, 380] (by decide +kernel)
set_option maxRecDepth 20000 in
theorem wsL_law0_r13_in : ∀ w ∈ wsL_law0_r13, w ∈ lw_tbl := in_of _ [381, 382, 383, 384, 688, 689, 690, 691, 385, 386, 387, 388, 389, 390, 391, 692, 693, 694, 695, 392, 393, 394, 395, 396] (by decide +kernel)
set_option maxRecDepth 20000 in
theorem wsL_law0_r14_in : ∀ w ∈ wsL_law0_r14, w ∈ lw_tbl := in_of _ [397, 398, 399, 401, 18, 402, 696, 697, 698, 699, 700, 702, 38, 703, 403, 404, 405, 406, 407, 408, 409, 410, 412, 19] (by decide +kernel)
set_option maxRecDepth 20000 in
theorem wsL_law0_r15_in : ∀ w ∈ wsL_law0_r15, w ∈ lw_tbl := in_of _ [413, 414, 416, 20, 417, 704, 705, 706, 707, 708, 710, 39, 711, 418, 419, 420, 421, 422, 423, 424, 425, 427, 21, 428] (by decide +kernel)
set_option maxRecDepth 20000 in
theorem wsL_law0_r16_in : ∀ w ∈ wsL_law0_r16, w ∈ lw_tbl := in_of _ [176, 177, 178, 179, 166, 167, 712, 713, 714, 715, 716, 718, 40, 719, 429, 430, 431, 432, 433, 434, 435, 436, 438, 22] (by decide +kernel)
set_option maxRecDepth 20000 in
theorem wsL_law0_r17_in : ∀ w ∈ wsL_law0_r17, w ∈ lw_tbl := in_of _ [439, 440, 442, 23, 443, 444, 446, 24, 447, 448, 450, 25, 451, 720, 721, 722, 723, 724, 726, 41, 727, 728, 730, 42] (by decide +kernel)
set_option maxRecDepth 20000 in
theorem wsL_law0_r18_in : ∀ w ∈ wsL_law0_r18, w ∈ lw_tbl := in_of _ [731, 452, 453, 454, 455, 456, 457, 458, 459, 461, 26, 462, 149, 151, 2, 152, 153, 155, 3, 156, 165, 168, 170, 5] (by decide +kernel)
set_option maxRecDepth 20000 in
theorem wsL_law0_r19_in : ∀ w ∈ wsL_law0_r19, w ∈ lw_tbl := in_of _ [171, 172, 174, 6, 175, 732, 733, 734, 735, 736, 738, 43, 739, 740, 742, 44, 743, 744, 746, 45, 747, 748, 750, 46] (by decide +kernel)
set_option maxRecDepth 20000 in
theorem wsL_law0_r20_in : ∀ w ∈ wsL_law0_r20, w ∈ lw_tbl := in_of _ [751, 752, 754, 47, 755, 463, 464, 465, 466, 467, 468, 469, 756, 757, 758, 759, 760, 762, 48, 763, 470, 471, 472, 473] (by decide +kernel)
set_option maxRecDepth 20000 in
theorem wsL_law0_r21_in : ∀ w ∈ wsL_law0_r21, w ∈ lw_tbl := in_of _ [474, 475, 476, 764, 765, 766, 767, 477, 478, 479, 480, 481, 482, 483, 484, 485, 62, 768, 769, 770, 771, 501, 502, 503] (by decide +kernel)
set_option maxRecDepth 20000 in
theorem wsL_law0_r22_in : ∀ w ∈ wsL_law0_r22, w ∈ lw_tbl := in_of _ [504, 505, 506, 507, 772, 773, 774, 775, 565, 508, 509, 510, 511, 512, 513, 514, 776, 777, 778, 779, 780, 782, 49, 783] (by decide +kernel)
set_option maxRecDepth 20000 in
theorem wsL_law0_r23_in : ∀ w ∈ wsL_law0_r23, w ∈ lw_tbl := in_of _ [515, 516, 517, 518, 519, 520, 521, 784, 785, 786, 787, 522, 523, 524, 525, 526, 527, 528, 788, 789, 790, 791, 529, 530] (by decide +kernel)
set_option maxRecDepth 20000 in
theorem wsL_law0_r24_in : ∀ w ∈ wsL_law0_r24, w ∈ lw_tbl := in_of _ [531, 532, 533, 534, 535, 792, 793, 794, 795, 145, 146, 147, 148, 796, 797, 798, 799, 536, 537, 538, 539, 540, 541, 542] (by decide +kernel)
set_option maxRecDepth 20000 in
theorem wsL_law0_r25_in : ∀ w ∈ wsL_law0_r25, w ∈ lw_tbl := in_of _ [543, 545, 27, 546, 547, 548, 549, 550, 551, 553, 552, 63, 554, 556, 28, 557, 800, 801, 802, 803, 804, 805, 806] (by decide +kernel)
theorem wl_x20 : ∀ w ∈ wsX20, w ∈ lw_tbl := by decide +kernel
theorem wl_x30 : ∀ w ∈ wsX30, w ∈ lw_tbl := by decide +kernel
theorem wl_x10 : ∀ w ∈ wsX10, w ∈ lw_tbl := by decide +kernel
set_option maxRecDepth 20000 in
theorem wsL_law_in0 : ∀ w ∈ wsL_law0, w ∈ lw_tbl := fun w h => (List.mem_append.mp h).elim (fun h => (List.mem_append.mp h).elim (fun h => (List.mem_append.mp h).elim (fun h => (List.mem_append.mp h).elim (fun h => (List.mem_append.mp h).elim (fun h => wsL_law0_r1_in w h) (fun h => (List.mem_append.mp h).elim (fun h => wsL_law0_r2_in w h) (fun h => (List.mem_append.mp h).elim (fun h => wsL_law0_r3_in w h) (fun h => (List.mem_append.mp h).elim (fun h => wsL_law0_r4_in w h) (fun h => (List.mem_append.mp h).elim (fun h => wsL_law0_r5_in w h) (fun h => (List.mem_append.mp h).elim (fun h => wsL_law0_r6_in w h) (fun h => (List.mem_append.mp h).elim (fun h => wsL_law0_r7_in w h) (fun h => (List.mem_append.mp h).elim (fun h => wsL_law0_r8_in w h) (fun h => (List.mem_append.mp h).elim (fun h => wsL_law0_r9_in w h) (fun h => (List.mem_append.mp h).elim (fun h => wsL_law0_r10_in w h) (fun h => (List.mem_append.mp h).elim (fun h => wsL_law0_r11_in w h) (fun h => (List.mem_append.mp h).elim (fun h => wsL_law0_r12_in w h) (fun h => (List.mem_append.mp h).elim (fun h => wsL_law0_r13_in w h) (fun h => (List.mem_append.mp h).elim (fun h => wsL_law0_r14_in w h) (fun h => (List.mem_append.mp h).elim (fun h => wsL_law0_r15_in w h) (fun h => (List.mem_append.mp h).elim (fun h => wsL_law0_r16_in w h) (fun h => (List.mem_append.mp h).elim (fun h => wsL_law0_r17_in w h) (fun h => (List.mem_append.mp h).elim (fun h => wsL_law0_r18_in w h) (fun h => (List.mem_append.mp h).elim (fun h => wsL_law0_r19_in w h) (fun h => (List.mem_append.mp h).elim (fun h => wsL_law0_r20_in w h) (fun h => (List.mem_append.mp h).elim (fun h => wsL_law0_r21_in w h) (fun h => (List.mem_append.mp h).elim (fun h => wsL_law0_r22_in w h) (fun h => (List.mem_append.mp h).elim (fun h => wsL_law0_r23_in w h) (fun h => (List.mem_append.mp h).elim (fun h => wsL_law0_r24_in w h) (fun h => wsL_law0_r25_in w h))))))))))))))))))))))))) (fun h => wl_x20 w h)) (fun h => wl_x30 w h)) (fun h => wl_x10 w h)) (fun h => absurd h List.not_mem_nil)
theorem wsL_law_x0 : ∀ w ∈ (vx_atS RX2 65 "java/lang/IllegalStateException" ["java/lang/RuntimeException", "java/lang/Exception"]).filter goodWord, w ∈ lw_tbl := by decide +kernel
theorem wsL_law_x1 : ∀ w ∈ (vx_atS RX2 146 "java/lang/IllegalArgumentException" ["java/lang/RuntimeException", "java/lang/Exception"]).filter goodWord, w ∈ lw_tbl := by decide +kernel
theorem wsL_law_x2 : ∀ w ∈ (vx_atS RX2 126 "java/lang/IndexOutOfBoundsException" ["java/lang/RuntimeException", "java/lang/Exception"]).filter goodWord, w ∈ lw_tbl := by decide +kernel
theorem wsL_law_in : ∀ w ∈ wsL_law, w ∈ lw_tbl := fun w h => (List.mem_append.mp h).elim (fun h => (List.mem_append.mp h).elim (fun h => (List.mem_append.mp h).elim (fun h => wsL_law_in0 w h) (fun h => wsL_law_x0 w h)) (fun h => wsL_law_x1 w h)) (fun h => wsL_law_x2 w h)
theorem inX0 : ∀ w ∈ wsX00, w ∈ lw_tbl := by decide +kernel
theorem inlX1 : ∀ w ∈ wsX10, w ∈ wsL_law := fun _ h => List.mem_append_left _ (List.mem_append_left _ (List.mem_append_left _ (List.mem_append_left _ (List.mem_append_right _ h))))
theorem inX1 : ∀ w ∈ wsX10, w ∈ lw_tbl := fun w h => wsL_law_in w (inlX1 w h)
theorem inlX2 : ∀ w ∈ wsX20, w ∈ wsL_law := fun _ h => List.mem_append_left _ (List.mem_append_left _ (List.mem_append_left _ (List.mem_append_left _ (List.mem_append_left _ (List.mem_append_left _ (List.mem_append_right _ h))))))
theorem inX2 : ∀ w ∈ wsX20, w ∈ lw_tbl := fun w h => wsL_law_in w (inlX2 w h)
theorem inlX3 : ∀ w ∈ wsX30, w ∈ wsL_law := fun _ h => List.mem_append_left _ (List.mem_append_left _ (List.mem_append_left _ (List.mem_append_left _ (List.mem_append_left _ (List.mem_append_right _ h)))))
theorem inX3 : ∀ w ∈ wsX30, w ∈ lw_tbl := fun w h => wsL_law_in w (inlX3 w h)
theorem inJx145de : ∀ w ∈ wsJx145de0, w ∈ lw_tbl := by decide +kernel
theorem inJ9 : ∀ w ∈ wsJ90, w ∈ lw_tbl := by decide +kernel
theorem inJ0 : ∀ w ∈ wsJ00, w ∈ lw_tbl := by decide +kernel
theorem inJ10 : ∀ w ∈ wsJ100, w ∈ lw_tbl := by decide +kernel
theorem inJ7 : ∀ w ∈ wsJ70, w ∈ lw_tbl := by decide +kernel
theorem dX0_onward_0 : decode cX0_onward 0 = .ok (.iload_n 0, 1) := by decide +kernel
theorem dX0_onward_1 : decode cX0_onward 1 = .ok (.iload_n 1, 1) := by decide +kernel
theorem dX0_onward_2 : decode cX0_onward 2 = .ok (.iadd, 1) := by decide +kernel
theorem dX0_onward_3 : decode cX0_onward 3 = .ok (.bipush 63, 2) := by decide +kernel
theorem dX0_onward_5 : decode cX0_onward 5 = .ok (.iand, 1) := by decide +kernel
theorem dX0_onward_6 : decode cX0_onward 6 = .ok (.ireturn, 1) := by decide +kernel
set_option maxRecDepth 20000 in
theorem ggX0_fingerStart_X0_onward : GoodIn wsX0_fingerStart wsX0_onward := goodIn_r _ [4] (by decide +kernel) (by decide +kernel)
set_option maxRecDepth 20000 in
theorem gX0_fingerStart_X0_onward : GoodIn wsX0_fingerStart (va_wsS RX0 11 yX0_onward wsX0_onward) := goodIn_app (goodIn_of _ (by decide +kernel)) ggX0_fingerStart_X0_onward
theorem dX0_fingerStart_0 : decode cX0_fingerStart 0 = .ok (.iload_n 0, 1) := by decide +kernel
theorem dX0_fingerStart_1 : decode cX0_fingerStart 1 = .ok (.iconst 1, 1) := by decide +kernel
theorem dX0_fingerStart_2 : decode cX0_fingerStart 2 = .ok (.iload_n 1, 1) := by decide +kernel
theorem dX0_fingerStart_3 : decode cX0_fingerStart 3 = .ok (.ishl, 1) := by decide +kernel
theorem dX0_fingerStart_4 : decode cX0_fingerStart 4 = .ok (.invokestatic 11, 3) := by decide +kernel
theorem dX0_fingerStart_7 : decode cX0_fingerStart 7 = .ok (.ireturn, 1) := by decide +kernel
theorem dX0_isUpTo_0 : decode cX0_isUpTo 0 = .ok (.iload_n 0, 1) := by decide +kernel
theorem dX0_isUpTo_1 : decode cX0_isUpTo 1 = .ok (.iload_n 1, 1) := by decide +kernel
theorem dX0_isUpTo_2 : decode cX0_isUpTo 2 = .ok (.isub, 1) := by decide +kernel
theorem dX0_isUpTo_3 : decode cX0_isUpTo 3 = .ok (.iconst 1, 1) := by decide +kernel
theorem dX0_isUpTo_4 : decode cX0_isUpTo 4 = .ok (.isub, 1) := by decide +kernel
theorem dX0_isUpTo_5 : decode cX0_isUpTo 5 = .ok (.bipush 63, 2) := by decide +kernel
theorem dX0_isUpTo_7 : decode cX0_isUpTo 7 = .ok (.iand, 1) := by decide +kernel
theorem dX0_isUpTo_8 : decode cX0_isUpTo 8 = .ok (.iload_n 2, 1) := by decide +kernel
theorem dX0_isUpTo_9 : decode cX0_isUpTo 9 = .ok (.iload_n 1, 1) := by decide +kernel
theorem dX0_isUpTo_10 : decode cX0_isUpTo 10 = .ok (.isub, 1) := by decide +kernel
theorem dX0_isUpTo_11 : decode cX0_isUpTo 11 = .ok (.iconst 1, 1) := by decide +kernel
theorem dX0_isUpTo_12 : decode cX0_isUpTo 12 = .ok (.isub, 1) := by decide +kernel
theorem dX0_isUpTo_13 : decode cX0_isUpTo 13 = .ok (.bipush 63, 2) := by decide +kernel
theorem dX0_isUpTo_15 : decode cX0_isUpTo 15 = .ok (.iand, 1) := by decide +kernel
theorem dX0_isUpTo_16 : decode cX0_isUpTo 16 = .ok (.if_icmp .gt 7, 3) := by decide +kernel
theorem dX0_isUpTo_19 : decode cX0_isUpTo 19 = .ok (.iconst 1, 1) := by decide +kernel
theorem dX0_isUpTo_20 : decode cX0_isUpTo 20 = .ok (.goto 4, 3) := by decide +kernel
theorem dX0_isUpTo_23 : decode cX0_isUpTo 23 = .ok (.iconst 0, 1) := by decide +kernel
theorem dX0_isUpTo_24 : decode cX0_isUpTo 24 = .ok (.ireturn, 1) := by decide +kernel
theorem dX0_isBetween_0 : decode cX0_isBetween 0 = .ok (.iload_n 0, 1) := by decide +kernel
theorem dX0_isBetween_1 : decode cX0_isBetween 1 = .ok (.iload_n 1, 1) := by decide +kernel
theorem dX0_isBetween_2 : decode cX0_isBetween 2 = .ok (.isub, 1) := by decide +kernel
theorem dX0_isBetween_3 : decode cX0_isBetween 3 = .ok (.iconst 1, 1) := by decide +kernel
theorem dX0_isBetween_4 : decode cX0_isBetween 4 = .ok (.isub, 1) := by decide +kernel
theorem dX0_isBetween_5 : decode cX0_isBetween 5 = .ok (.bipush 63, 2) := by decide +kernel
theorem dX0_isBetween_7 : decode cX0_isBetween 7 = .ok (.iand, 1) := by decide +kernel
theorem dX0_isBetween_8 : decode cX0_isBetween 8 = .ok (.iload_n 2, 1) := by decide +kernel
theorem dX0_isBetween_9 : decode cX0_isBetween 9 = .ok (.iload_n 1, 1) := by decide +kernel
theorem dX0_isBetween_10 : decode cX0_isBetween 10 = .ok (.isub, 1) := by decide +kernel
theorem dX0_isBetween_11 : decode cX0_isBetween 11 = .ok (.iconst 1, 1) := by decide +kernel
theorem dX0_isBetween_12 : decode cX0_isBetween 12 = .ok (.isub, 1) := by decide +kernel
theorem dX0_isBetween_13 : decode cX0_isBetween 13 = .ok (.bipush 63, 2) := by decide +kernel
theorem dX0_isBetween_15 : decode cX0_isBetween 15 = .ok (.iand, 1) := by decide +kernel
theorem dX0_isBetween_16 : decode cX0_isBetween 16 = .ok (.if_icmp .ge 7, 3) := by decide +kernel
theorem dX0_isBetween_19 : decode cX0_isBetween 19 = .ok (.iconst 1, 1) := by decide +kernel
theorem dX0_isBetween_20 : decode cX0_isBetween 20 = .ok (.goto 4, 3) := by decide +kernel
theorem dX0_isBetween_23 : decode cX0_isBetween 23 = .ok (.iconst 0, 1) := by decide +kernel
theorem dX0_isBetween_24 : decode cX0_isBetween 24 = .ok (.ireturn, 1) := by decide +kernel
set_option maxRecDepth 20000 in
theorem ggX1_init_J7_fill_53178 : GoodIn wsX1_init wsJ7_fill_53178 := goodIn_r _ [17] (by decide +kernel) (by decide +kernel)
set_option maxRecDepth 20000 in
theorem gX1_init_J7_fill_53178 : GoodIn wsX1_init (va_wsS RX1 28 yJ7_fill_53178 wsJ7_fill_53178) := goodIn_app (goodIn_of _ (by decide +kernel)) ggX1_init_J7_fill_53178
theorem dX1_init_0 : decode cX1_init 0 = .ok (.aload_n 0, 1) := by decide +kernel
theorem dX1_init_1 : decode cX1_init 1 = .ok (.invokespecial 3, 3) := by decide +kernel
theorem dX1_init_4 : decode cX1_init 4 = .ok (.aload_n 0, 1) := by decide +kernel
theorem dX1_init_5 : decode cX1_init 5 = .ok (.iconst 1, 1) := by decide +kernel
theorem dX1_init_6 : decode cX1_init 6 = .ok (.iload_n 1, 1) := by decide +kernel
theorem dX1_init_7 : decode cX1_init 7 = .ok (.bipush 64, 2) := by decide +kernel
theorem dX1_init_9 : decode cX1_init 9 = .ok (.invokestatic 9, 3) := by decide +kernel
theorem dX1_init_12 : decode cX1_init 12 = .ok (.invokestatic 15, 3) := by decide +kernel
theorem dX1_init_15 : decode cX1_init 15 = .ok (.putfield 18, 3) := by decide +kernel
theorem dX1_init_18 : decode cX1_init 18 = .ok (.aload_n 0, 1) := by decide +kernel
theorem dX1_init_19 : decode cX1_init 19 = .ok (.bipush 64, 2) := by decide +kernel
theorem dX1_init_21 : decode cX1_init 21 = .ok (.aload_n 0, 1) := by decide +kernel
theorem dX1_init_22 : decode cX1_init 22 = .ok (.getfield 18, 3) := by decide +kernel
theorem dX1_init_25 : decode cX1_init 25 = .ok (.imul, 1) := by decide +kernel
theorem dX1_init_26 : decode cX1_init 26 = .ok (.newarray .int, 2) := by decide +kernel
theorem dX1_init_28 : decode cX1_init 28 = .ok (.putfield 24, 3) := by decide +kernel
theorem dX1_init_31 : decode cX1_init 31 = .ok (.aload_n 0, 1) := by decide +kernel
theorem dX1_init_32 : decode cX1_init 32 = .ok (.getfield 24, 3) := by decide +kernel
theorem dX1_init_35 : decode cX1_init 35 = .ok (.iconst (-1), 1) := by decide +kernel
theorem dX1_init_36 : decode cX1_init 36 = .ok (.invokestatic 28, 3) := by decide +kernel
theorem dX1_init_39 : decode cX1_init 39 = .ok (.return_, 1) := by decide +kernel
theorem dX1_at_0 : decode cX1_at 0 = .ok (.iload_n 1, 1) := by decide +kernel
theorem dX1_at_1 : decode cX1_at 1 = .ok (.ifCond .lt 21, 3) := by decide +kernel
theorem dX1_at_4 : decode cX1_at 4 = .ok (.iload_n 1, 1) := by decide +kernel
theorem dX1_at_5 : decode cX1_at 5 = .ok (.bipush 64, 2) := by decide +kernel
theorem dX1_at_7 : decode cX1_at 7 = .ok (.if_icmp .ge 15, 3) := by decide +kernel
theorem dX1_at_10 : decode cX1_at 10 = .ok (.iload_n 2, 1) := by decide +kernel
theorem dX1_at_11 : decode cX1_at 11 = .ok (.ifCond .lt 11, 3) := by decide +kernel
theorem dX1_at_14 : decode cX1_at 14 = .ok (.iload_n 2, 1) := by decide +kernel
theorem dX1_at_15 : decode cX1_at 15 = .ok (.aload_n 0, 1) := by decide +kernel
theorem dX1_at_16 : decode cX1_at 16 = .ok (.getfield 18, 3) := by decide +kernel
theorem dX1_at_19 : decode cX1_at 19 = .ok (.if_icmp .lt 5, 3) := by decide +kernel
theorem dX1_at_22 : decode cX1_at 22 = .ok (.iconst (-1), 1) := by decide +kernel
theorem dX1_at_23 : decode cX1_at 23 = .ok (.ireturn, 1) := by decide +kernel
theorem dX1_at_24 : decode cX1_at 24 = .ok (.iload_n 1, 1) := by decide +kernel
theorem dX1_at_25 : decode cX1_at 25 = .ok (.aload_n 0, 1) := by decide +kernel
theorem dX1_at_26 : decode cX1_at 26 = .ok (.getfield 18, 3) := by decide +kernel
theorem dX1_at_29 : decode cX1_at 29 = .ok (.imul, 1) := by decide +kernel
theorem dX1_at_30 : decode cX1_at 30 = .ok (.iload_n 2, 1) := by decide +kernel
theorem dX1_at_31 : decode cX1_at 31 = .ok (.iadd, 1) := by decide +kernel
theorem dX1_at_32 : decode cX1_at 32 = .ok (.istore_n 3, 1) := by decide +kernel
theorem dX1_at_33 : decode cX1_at 33 = .ok (.iload_n 3, 1) := by decide +kernel
theorem dX1_at_34 : decode cX1_at 34 = .ok (.aload_n 0, 1) := by decide +kernel
theorem dX1_at_35 : decode cX1_at 35 = .ok (.getfield 24, 3) := by decide +kernel
theorem dX1_at_38 : decode cX1_at 38 = .ok (.arraylength, 1) := by decide +kernel
theorem dX1_at_39 : decode cX1_at 39 = .ok (.if_icmp .ge 12, 3) := by decide +kernel
theorem dX1_at_42 : decode cX1_at 42 = .ok (.aload_n 0, 1) := by decide +kernel
theorem dX1_at_43 : decode cX1_at 43 = .ok (.getfield 24, 3) := by decide +kernel
theorem dX1_at_46 : decode cX1_at 46 = .ok (.iload_n 3, 1) := by decide +kernel
theorem dX1_at_47 : decode cX1_at 47 = .ok (.iaload, 1) := by decide +kernel
theorem dX1_at_48 : decode cX1_at 48 = .ok (.goto 4, 3) := by decide +kernel
theorem dX1_at_51 : decode cX1_at 51 = .ok (.iconst (-1), 1) := by decide +kernel
theorem dX1_at_52 : decode cX1_at 52 = .ok (.ireturn, 1) := by decide +kernel
theorem dX1_set_0 : decode cX1_set 0 = .ok (.iload_n 1, 1) := by decide +kernel
theorem dX1_set_1 : decode cX1_set 1 = .ok (.ifCond .lt 21, 3) := by decide +kernel
theorem dX1_set_4 : decode cX1_set 4 = .ok (.iload_n 1, 1) := by decide +kernel
theorem dX1_set_5 : decode cX1_set 5 = .ok (.bipush 64, 2) := by decide +kernel
theorem dX1_set_7 : decode cX1_set 7 = .ok (.if_icmp .ge 15, 3) := by decide +kernel
theorem dX1_set_10 : decode cX1_set 10 = .ok (.iload_n 2, 1) := by decide +kernel
theorem dX1_set_11 : decode cX1_set 11 = .ok (.ifCond .lt 11, 3) := by decide +kernel
theorem dX1_set_14 : decode cX1_set 14 = .ok (.iload_n 2, 1) := by decide +kernel
theorem dX1_set_15 : decode cX1_set 15 = .ok (.aload_n 0, 1) := by decide +kernel
theorem dX1_set_16 : decode cX1_set 16 = .ok (.getfield 18, 3) := by decide +kernel
theorem dX1_set_19 : decode cX1_set 19 = .ok (.if_icmp .lt 4, 3) := by decide +kernel
theorem dX1_set_22 : decode cX1_set 22 = .ok (.return_, 1) := by decide +kernel
theorem dX1_set_23 : decode cX1_set 23 = .ok (.iload_n 1, 1) := by decide +kernel
theorem dX1_set_24 : decode cX1_set 24 = .ok (.aload_n 0, 1) := by decide +kernel
theorem dX1_set_25 : decode cX1_set 25 = .ok (.getfield 18, 3) := by decide +kernel
theorem dX1_set_28 : decode cX1_set 28 = .ok (.imul, 1) := by decide +kernel
theorem dX1_set_29 : decode cX1_set 29 = .ok (.iload_n 2, 1) := by decide +kernel
theorem dX1_set_30 : decode cX1_set 30 = .ok (.iadd, 1) := by decide +kernel
theorem dX1_set_31 : decode cX1_set 31 = .ok (.istore 4, 2) := by decide +kernel
theorem dX1_set_33 : decode cX1_set 33 = .ok (.iload 4, 2) := by decide +kernel
theorem dX1_set_35 : decode cX1_set 35 = .ok (.aload_n 0, 1) := by decide +kernel
theorem dX1_set_36 : decode cX1_set 36 = .ok (.getfield 24, 3) := by decide +kernel
theorem dX1_set_39 : decode cX1_set 39 = .ok (.arraylength, 1) := by decide +kernel
theorem dX1_set_40 : decode cX1_set 40 = .ok (.if_icmp .ge 11, 3) := by decide +kernel
theorem dX1_set_43 : decode cX1_set 43 = .ok (.aload_n 0, 1) := by decide +kernel
theorem dX1_set_44 : decode cX1_set 44 = .ok (.getfield 24, 3) := by decide +kernel
theorem dX1_set_47 : decode cX1_set 47 = .ok (.iload 4, 2) := by decide +kernel
theorem dX1_set_49 : decode cX1_set 49 = .ok (.iload_n 3, 1) := by decide +kernel
theorem dX1_set_50 : decode cX1_set 50 = .ok (.iastore, 1) := by decide +kernel
theorem dX1_set_51 : decode cX1_set 51 = .ok (.return_, 1) := by decide +kernel
set_option maxRecDepth 20000 in
theorem ggX1_clear_X1_set : GoodIn wsX1_clear wsX1_set := goodIn_r _ [6, 1, 7, 8, 9] (by decide +kernel) (by decide +kernel)
set_option maxRecDepth 20000 in
theorem gX1_clear_X1_set : GoodIn wsX1_clear (wsV RX1 34 RX1 yX1_set wsX1_set) := goodIn_app (goodIn_of _ (by decide +kernel)) ggX1_clear_X1_set
theorem dX1_clear_0 : decode cX1_clear 0 = .ok (.iconst 0, 1) := by decide +kernel
theorem dX1_clear_1 : decode cX1_clear 1 = .ok (.istore_n 2, 1) := by decide +kernel
theorem dX1_clear_2 : decode cX1_clear 2 = .ok (.iload_n 2, 1) := by decide +kernel
theorem dX1_clear_3 : decode cX1_clear 3 = .ok (.aload_n 0, 1) := by decide +kernel
theorem dX1_clear_4 : decode cX1_clear 4 = .ok (.getfield 18, 3) := by decide +kernel
theorem dX1_clear_7 : decode cX1_clear 7 = .ok (.if_icmp .ge 16, 3) := by decide +kernel
theorem dX1_clear_10 : decode cX1_clear 10 = .ok (.aload_n 0, 1) := by decide +kernel
theorem dX1_clear_11 : decode cX1_clear 11 = .ok (.iload_n 1, 1) := by decide +kernel
theorem dX1_clear_12 : decode cX1_clear 12 = .ok (.iload_n 2, 1) := by decide +kernel
theorem dX1_clear_13 : decode cX1_clear 13 = .ok (.iconst (-1), 1) := by decide +kernel
theorem dX1_clear_14 : decode cX1_clear 14 = .ok (.invokevirtual 34, 3) := by decide +kernel
theorem dX1_clear_17 : decode cX1_clear 17 = .ok (.iinc 2 1, 3) := by decide +kernel
theorem dX1_clear_20 : decode cX1_clear 20 = .ok (.goto (-18), 3) := by decide +kernel
theorem dX1_clear_23 : decode cX1_clear 23 = .ok (.return_, 1) := by decide +kernel
theorem dX1_copyFrom_0 : decode cX1_copyFrom 0 = .ok (.aload_n 1, 1) := by decide +kernel
theorem dX1_copyFrom_1 : decode cX1_copyFrom 1 = .ok (.ifnull 29, 3) := by decide +kernel
theorem dX1_copyFrom_4 : decode cX1_copyFrom 4 = .ok (.aload_n 1, 1) := by decide +kernel
theorem dX1_copyFrom_5 : decode cX1_copyFrom 5 = .ok (.getfield 24, 3) := by decide +kernel
theorem dX1_copyFrom_8 : decode cX1_copyFrom 8 = .ok (.iconst 0, 1) := by decide +kernel
theorem dX1_copyFrom_9 : decode cX1_copyFrom 9 = .ok (.aload_n 0, 1) := by decide +kernel
theorem dX1_copyFrom_10 : decode cX1_copyFrom 10 = .ok (.getfield 24, 3) := by decide +kernel
theorem dX1_copyFrom_13 : decode cX1_copyFrom 13 = .ok (.iconst 0, 1) := by decide +kernel
theorem dX1_copyFrom_14 : decode cX1_copyFrom 14 = .ok (.aload_n 1, 1) := by decide +kernel
theorem dX1_copyFrom_15 : decode cX1_copyFrom 15 = .ok (.getfield 24, 3) := by decide +kernel
theorem dX1_copyFrom_18 : decode cX1_copyFrom 18 = .ok (.arraylength, 1) := by decide +kernel
theorem dX1_copyFrom_19 : decode cX1_copyFrom 19 = .ok (.aload_n 0, 1) := by decide +kernel
theorem dX1_copyFrom_20 : decode cX1_copyFrom 20 = .ok (.getfield 24, 3) := by decide +kernel
theorem dX1_copyFrom_23 : decode cX1_copyFrom 23 = .ok (.arraylength, 1) := by decide +kernel
theorem dX1_copyFrom_24 : decode cX1_copyFrom 24 = .ok (.invokestatic 9, 3) := by decide +kernel
theorem dX1_copyFrom_27 : decode cX1_copyFrom 27 = .ok (.invokestatic 38, 3) := by decide +kernel
theorem dX1_copyFrom_30 : decode cX1_copyFrom 30 = .ok (.return_, 1) := by decide +kernel
end
section
set_option maxRecDepth 20000 in
theorem ggX2_init_X1_init : GoodIn wsX2_init wsX1_init := goodIn_r _ [23, 24, 2, 3, 25, 26, 27, 28, 29, 30, 31, 32, 15, 33, 34, 35, 36, 37, 50, 51] (by decide +kernel) (by decide +kernel)
set_option maxRecDepth 20000 in
theorem gX2_init_X1_init : GoodIn wsX2_init (wsX1_init) := ggX2_init_X1_init
theorem dX2_init_0 : decode cX2_init 0 = .ok (.aload_n 0, 1) := by decide +kernel
theorem dX2_init_1 : decode cX2_init 1 = .ok (.invokespecial 1, 3) := by decide +kernel
theorem dX2_init_4 : decode cX2_init 4 = .ok (.aload_n 0, 1) := by decide +kernel
theorem dX2_init_5 : decode cX2_init 5 = .ok (.bipush 64, 2) := by decide +kernel
theorem dX2_init_7 : decode cX2_init 7 = .ok (.newarray .boolean, 2) := by decide +kernel
theorem dX2_init_9 : decode cX2_init 9 = .ok (.putfield 9, 3) := by decide +kernel
theorem dX2_init_12 : decode cX2_init 12 = .ok (.aload_n 0, 1) := by decide +kernel
theorem dX2_init_13 : decode cX2_init 13 = .ok (.new 13, 3) := by decide +kernel
theorem dX2_init_16 : decode cX2_init 16 = .ok (.dup, 1) := by decide +kernel
theorem dX2_init_17 : decode cX2_init 17 = .ok (.iconst 3, 1) := by decide +kernel
theorem dX2_init_18 : decode cX2_init 18 = .ok (.invokespecial 15, 3) := by decide +kernel
theorem dX2_init_21 : decode cX2_init 21 = .ok (.putfield 18, 3) := by decide +kernel
theorem dX2_init_24 : decode cX2_init 24 = .ok (.aload_n 0, 1) := by decide +kernel
theorem dX2_init_25 : decode cX2_init 25 = .ok (.new 13, 3) := by decide +kernel
theorem dX2_init_28 : decode cX2_init 28 = .ok (.dup, 1) := by decide +kernel
theorem dX2_init_29 : decode cX2_init 29 = .ok (.iconst 1, 1) := by decide +kernel
theorem dX2_init_30 : decode cX2_init 30 = .ok (.invokespecial 15, 3) := by decide +kernel
theorem dX2_init_33 : decode cX2_init 33 = .ok (.putfield 22, 3) := by decide +kernel
theorem dX2_init_36 : decode cX2_init 36 = .ok (.aload_n 0, 1) := by decide +kernel
theorem dX2_init_37 : decode cX2_init 37 = .ok (.new 13, 3) := by decide +kernel
theorem dX2_init_40 : decode cX2_init 40 = .ok (.dup, 1) := by decide +kernel
theorem dX2_init_41 : decode cX2_init 41 = .ok (.bipush 6, 2) := by decide +kernel
theorem dX2_init_43 : decode cX2_init 43 = .ok (.invokespecial 15, 3) := by decide +kernel
theorem dX2_init_46 : decode cX2_init 46 = .ok (.putfield 25, 3) := by decide +kernel
theorem dX2_init_49 : decode cX2_init 49 = .ok (.aload_n 0, 1) := by decide +kernel
theorem dX2_init_50 : decode cX2_init 50 = .ok (.new 13, 3) := by decide +kernel
theorem dX2_init_53 : decode cX2_init 53 = .ok (.dup, 1) := by decide +kernel
theorem dX2_init_54 : decode cX2_init 54 = .ok (.bipush 64, 2) := by decide +kernel
theorem dX2_init_56 : decode cX2_init 56 = .ok (.invokespecial 15, 3) := by decide +kernel
theorem dX2_init_59 : decode cX2_init 59 = .ok (.putfield 28, 3) := by decide +kernel
theorem dX2_init_62 : decode cX2_init 62 = .ok (.aload_n 0, 1) := by decide +kernel
theorem dX2_init_63 : decode cX2_init 63 = .ok (.new 13, 3) := by decide +kernel
theorem dX2_init_66 : decode cX2_init 66 = .ok (.dup, 1) := by decide +kernel
theorem dX2_init_67 : decode cX2_init 67 = .ok (.bipush 64, 2) := by decide +kernel
theorem dX2_init_69 : decode cX2_init 69 = .ok (.invokespecial 15, 3) := by decide +kernel
theorem dX2_init_72 : decode cX2_init 72 = .ok (.putfield 31, 3) := by decide +kernel
theorem dX2_init_75 : decode cX2_init 75 = .ok (.aload_n 0, 1) := by decide +kernel
theorem dX2_init_76 : decode cX2_init 76 = .ok (.iconst 0, 1) := by decide +kernel
theorem dX2_init_77 : decode cX2_init 77 = .ok (.putfield 34, 3) := by decide +kernel
theorem dX2_init_80 : decode cX2_init 80 = .ok (.aload_n 0, 1) := by decide +kernel
theorem dX2_init_81 : decode cX2_init 81 = .ok (.bipush 64, 2) := by decide +kernel
theorem dX2_init_83 : decode cX2_init 83 = .ok (.newarray .int, 2) := by decide +kernel
theorem dX2_init_85 : decode cX2_init 85 = .ok (.putfield 38, 3) := by decide +kernel
theorem dX2_init_88 : decode cX2_init 88 = .ok (.aload_n 0, 1) := by decide +kernel
theorem dX2_init_89 : decode cX2_init 89 = .ok (.iconst 0, 1) := by decide +kernel
theorem dX2_init_90 : decode cX2_init 90 = .ok (.putfield 42, 3) := by decide +kernel
theorem dX2_init_93 : decode cX2_init 93 = .ok (.aload_n 0, 1) := by decide +kernel
theorem dX2_init_94 : decode cX2_init 94 = .ok (.new 13, 3) := by decide +kernel
theorem dX2_init_97 : decode cX2_init 97 = .ok (.dup, 1) := by decide +kernel
theorem dX2_init_98 : decode cX2_init 98 = .ok (.iconst 3, 1) := by decide +kernel
theorem dX2_init_99 : decode cX2_init 99 = .ok (.invokespecial 15, 3) := by decide +kernel
theorem dX2_init_102 : decode cX2_init 102 = .ok (.putfield 45, 3) := by decide +kernel
theorem dX2_init_105 : decode cX2_init 105 = .ok (.aload_n 0, 1) := by decide +kernel
theorem dX2_init_106 : decode cX2_init 106 = .ok (.new 13, 3) := by decide +kernel
theorem dX2_init_109 : decode cX2_init 109 = .ok (.dup, 1) := by decide +kernel
theorem dX2_init_110 : decode cX2_init 110 = .ok (.iconst 1, 1) := by decide +kernel
theorem dX2_init_111 : decode cX2_init 111 = .ok (.invokespecial 15, 3) := by decide +kernel
theorem dX2_init_114 : decode cX2_init 114 = .ok (.putfield 48, 3) := by decide +kernel
theorem dX2_init_117 : decode cX2_init 117 = .ok (.aload_n 0, 1) := by decide +kernel
theorem dX2_init_118 : decode cX2_init 118 = .ok (.new 13, 3) := by decide +kernel
theorem dX2_init_121 : decode cX2_init 121 = .ok (.dup, 1) := by decide +kernel
theorem dX2_init_122 : decode cX2_init 122 = .ok (.bipush 6, 2) := by decide +kernel
theorem dX2_init_124 : decode cX2_init 124 = .ok (.invokespecial 15, 3) := by decide +kernel
theorem dX2_init_127 : decode cX2_init 127 = .ok (.putfield 51, 3) := by decide +kernel
theorem dX2_init_130 : decode cX2_init 130 = .ok (.return_, 1) := by decide +kernel
set_option maxRecDepth 20000 in
theorem ggX2_create_X2_requireIdentifier : GoodIn wsX2_create wsX2_requireIdentifier := goodIn_ca (goodIn_r _ [6, 7, 8, 5, 9, 10, 11] (by decide +kernel) (by decide +kernel)) (goodIn_sub (fun _ h => List.mem_cons_of_mem _ (List.mem_append_right _ h)) (by decide +kernel))
set_option maxRecDepth 20000 in
theorem gX2_create_X2_requireIdentifier : GoodIn wsX2_create (va_wsS RX2 54 yX2_requireIdentifier wsX2_requireIdentifier) := goodIn_app (goodIn_of _ (by decide +kernel)) ggX2_create_X2_requireIdentifier
set_option maxRecDepth 20000 in
theorem ggX2_create_X2_countLiving : GoodIn wsX2_create wsX2_countLiving := goodIn_r _ [15, 16, 17, 18, 5, 19, 20, 50, 51, 52, 53, 54, 55, 56, 57, 58, 59, 60, 61] (by decide +kernel) (by decide +kernel)
set_option maxRecDepth 20000 in
theorem gX2_create_X2_countLiving : GoodIn wsX2_create (wsV RX2 57 RX2 yX2_countLiving wsX2_countLiving) := goodIn_app (goodIn_of _ (by decide +kernel)) ggX2_create_X2_countLiving
set_option maxRecDepth 20000 in
theorem ggX2_create_X2_beginLife : GoodIn wsX2_create wsX2_beginLife := goodIn_r _ [24, 25, 26, 27, 28, 29, 30, 31, 5, 32, 33, 34, 35, 36, 37, 38, 39, 40, 41, 42, 43, 44, 45, 46, 47, 48, 49, 20, 50, 51, 52, 53, 54, 55, 56, 57, 58, 59, 60, 61, 62, 63] (by decide +kernel) (by decide +kernel)
set_option maxRecDepth 20000 in
theorem gX2_create_X2_beginLife : GoodIn wsX2_create (wsV RX2 68 RX2 yX2_beginLife wsX2_beginLife) := goodIn_app (goodIn_of _ (by decide +kernel)) ggX2_create_X2_beginLife
theorem dX2_create_0 : decode cX2_create 0 = .ok (.iload_n 1, 1) := by decide +kernel
theorem dX2_create_1 : decode cX2_create 1 = .ok (.invokestatic 54, 3) := by decide +kernel
theorem dX2_create_4 : decode cX2_create 4 = .ok (.aload_n 0, 1) := by decide +kernel
theorem dX2_create_5 : decode cX2_create 5 = .ok (.invokevirtual 57, 3) := by decide +kernel
theorem dX2_create_8 : decode cX2_create 8 = .ok (.ifCond .le 13, 3) := by decide +kernel
theorem dX2_create_11 : decode cX2_create 11 = .ok (.new 61, 3) := by decide +kernel
theorem dX2_create_14 : decode cX2_create 14 = .ok (.dup, 1) := by decide +kernel
theorem dX2_create_15 : decode cX2_create 15 = .ok (.ldc 63, 2) := by decide +kernel
theorem dX2_create_17 : decode cX2_create 17 = .ok (.invokespecial 65, 3) := by decide +kernel
theorem dX2_create_20 : decode cX2_create 20 = .ok (.athrow, 1) := by decide +kernel
theorem dX2_create_21 : decode cX2_create 21 = .ok (.aload_n 0, 1) := by decide +kernel
theorem dX2_create_22 : decode cX2_create 22 = .ok (.iload_n 1, 1) := by decide +kernel
theorem dX2_create_23 : decode cX2_create 23 = .ok (.iload_n 1, 1) := by decide +kernel
theorem dX2_create_24 : decode cX2_create 24 = .ok (.iload_n 1, 1) := by decide +kernel
theorem dX2_create_25 : decode cX2_create 25 = .ok (.iload_n 1, 1) := by decide +kernel
theorem dX2_create_26 : decode cX2_create 26 = .ok (.invokevirtual 68, 3) := by decide +kernel
theorem dX2_create_29 : decode cX2_create 29 = .ok (.aload_n 0, 1) := by decide +kernel
theorem dX2_create_30 : decode cX2_create 30 = .ok (.invokevirtual 57, 3) := by decide +kernel
theorem dX2_create_33 : decode cX2_create 33 = .ok (.ireturn, 1) := by decide +kernel
set_option maxRecDepth 20000 in
theorem ggX2_join_X2_requireIdentifier : GoodIn wsX2_join wsX2_requireIdentifier := goodIn_ca (goodIn_r _ [7, 8, 9, 6, 10, 11, 12] (by decide +kernel) (by decide +kernel)) (goodIn_sub (fun _ h => List.mem_cons_of_mem _ (List.mem_append_right _ h)) (by decide +kernel))
set_option maxRecDepth 20000 in
theorem gX2_join_X2_requireIdentifier : GoodIn wsX2_join (va_wsS RX2 54 yX2_requireIdentifier wsX2_requireIdentifier) := goodIn_app (goodIn_of _ (by decide +kernel)) ggX2_join_X2_requireIdentifier
set_option maxRecDepth 20000 in
theorem ggX2_join_X2_isAlive : GoodIn wsX2_join wsX2_isAlive := goodIn_r _ [16, 17, 75, 76, 77, 78, 79, 80, 81, 82, 83, 84, 85, 86] (by decide +kernel) (by decide +kernel)
set_option maxRecDepth 20000 in
theorem gX2_join_X2_isAlive : GoodIn wsX2_join (wsV RX2 72 RX2 yX2_isAlive wsX2_isAlive) := goodIn_app (goodIn_of _ (by decide +kernel)) ggX2_join_X2_isAlive
set_option maxRecDepth 20000 in
theorem ggX2_join_X2_requireAlive : GoodIn wsX2_join wsX2_requireAlive := goodIn_ca (goodIn_r _ [21, 1, 2, 13, 14, 15, 6, 16, 17, 75, 76, 77, 78, 79, 80, 81, 82, 83, 84, 85, 86] (by decide +kernel) (by decide +kernel)) (goodIn_sub (fun _ h => List.mem_cons_of_mem _ (List.mem_append_left _ (List.mem_append_right _ h))) (by decide +kernel))
set_option maxRecDepth 20000 in
theorem gX2_join_X2_requireAlive : GoodIn wsX2_join (wsV RX2 78 RX2 yX2_requireAlive wsX2_requireAlive) := goodIn_app (goodIn_of _ (by decide +kernel)) ggX2_join_X2_requireAlive
set_option maxRecDepth 20000 in
theorem ggX2_join_X2_find : GoodIn wsX2_join wsX2_find := goodIn_r _ [25, 26, 27, 28, 29, 30, 6, 31, 3, 32, 33, 34, 35, 36, 37, 38, 13, 14, 15, 16, 17, 39, 40, 41, 42, 43, 44, 45, 46, 47, 48, 49, 50, 75, 76, 77, 78, 79, 80, 81, 82, 83, 84, 85, 86, 87, 88] (by decide +kernel) (by decide +kernel)
set_option maxRecDepth 20000 in
theorem gX2_join_X2_find : GoodIn wsX2_join (wsV RX2 81 RX2 yX2_find wsX2_find) := goodIn_app (goodIn_of _ (by decide +kernel)) ggX2_join_X2_find
set_option maxRecDepth 20000 in
theorem ggX2_join_X1_at : GoodIn wsX2_join wsX1_at := goodIn_r _ [36, 37, 38, 87, 88] (by decide +kernel) (by decide +kernel)
set_option maxRecDepth 20000 in
theorem gX2_join_X1_at : GoodIn wsX2_join (wsV RX2 85 RX1 yX1_at wsX1_at) := goodIn_app (goodIn_of _ (by decide +kernel)) ggX2_join_X1_at
set_option maxRecDepth 20000 in
theorem ggX2_join_X2_beginLife : GoodIn wsX2_join wsX2_beginLife := goodIn_r _ [54, 55, 47, 56, 57, 58, 59, 60, 6, 61, 3, 62, 63, 64, 35, 65, 37, 38, 66, 67, 68, 69, 70, 71, 72, 73, 74, 17, 75, 76, 77, 78, 79, 80, 81, 82, 83, 84, 85, 86, 87, 88] (by decide +kernel) (by decide +kernel)
set_option maxRecDepth 20000 in
theorem gX2_join_X2_beginLife : GoodIn wsX2_join (wsV RX2 68 RX2 yX2_beginLife wsX2_beginLife) := goodIn_app (goodIn_of _ (by decide +kernel)) ggX2_join_X2_beginLife
theorem dX2_join_0 : decode cX2_join 0 = .ok (.iload_n 1, 1) := by decide +kernel
theorem dX2_join_1 : decode cX2_join 1 = .ok (.invokestatic 54, 3) := by decide +kernel
theorem dX2_join_4 : decode cX2_join 4 = .ok (.iload_n 2, 1) := by decide +kernel
theorem dX2_join_5 : decode cX2_join 5 = .ok (.invokestatic 54, 3) := by decide +kernel
theorem dX2_join_8 : decode cX2_join 8 = .ok (.aload_n 0, 1) := by decide +kernel
theorem dX2_join_9 : decode cX2_join 9 = .ok (.iload_n 1, 1) := by decide +kernel
theorem dX2_join_10 : decode cX2_join 10 = .ok (.invokevirtual 72, 3) := by decide +kernel
theorem dX2_join_13 : decode cX2_join 13 = .ok (.ifCond .eq 13, 3) := by decide +kernel
theorem dX2_join_16 : decode cX2_join 16 = .ok (.new 61, 3) := by decide +kernel
theorem dX2_join_19 : decode cX2_join 19 = .ok (.dup, 1) := by decide +kernel
theorem dX2_join_20 : decode cX2_join 20 = .ok (.ldc 76, 2) := by decide +kernel
theorem dX2_join_22 : decode cX2_join 22 = .ok (.invokespecial 65, 3) := by decide +kernel
theorem dX2_join_25 : decode cX2_join 25 = .ok (.athrow, 1) := by decide +kernel
theorem dX2_join_26 : decode cX2_join 26 = .ok (.aload_n 0, 1) := by decide +kernel
theorem dX2_join_27 : decode cX2_join 27 = .ok (.iload_n 2, 1) := by decide +kernel
theorem dX2_join_28 : decode cX2_join 28 = .ok (.invokevirtual 78, 3) := by decide +kernel
theorem dX2_join_31 : decode cX2_join 31 = .ok (.aload_n 0, 1) := by decide +kernel
theorem dX2_join_32 : decode cX2_join 32 = .ok (.iload_n 2, 1) := by decide +kernel
theorem dX2_join_33 : decode cX2_join 33 = .ok (.iload_n 1, 1) := by decide +kernel
theorem dX2_join_34 : decode cX2_join 34 = .ok (.invokevirtual 81, 3) := by decide +kernel
theorem dX2_join_37 : decode cX2_join 37 = .ok (.istore_n 3, 1) := by decide +kernel
theorem dX2_join_38 : decode cX2_join 38 = .ok (.aload_n 0, 1) := by decide +kernel
theorem dX2_join_39 : decode cX2_join 39 = .ok (.iload_n 1, 1) := by decide +kernel
theorem dX2_join_40 : decode cX2_join 40 = .ok (.iload_n 3, 1) := by decide +kernel
theorem dX2_join_41 : decode cX2_join 41 = .ok (.aload_n 0, 1) := by decide +kernel
theorem dX2_join_42 : decode cX2_join 42 = .ok (.getfield 18, 3) := by decide +kernel
theorem dX2_join_45 : decode cX2_join 45 = .ok (.iload_n 3, 1) := by decide +kernel
theorem dX2_join_46 : decode cX2_join 46 = .ok (.iconst 0, 1) := by decide +kernel
theorem dX2_join_47 : decode cX2_join 47 = .ok (.invokevirtual 85, 3) := by decide +kernel
theorem dX2_join_50 : decode cX2_join 50 = .ok (.aload_n 0, 1) := by decide +kernel
theorem dX2_join_51 : decode cX2_join 51 = .ok (.getfield 18, 3) := by decide +kernel
theorem dX2_join_54 : decode cX2_join 54 = .ok (.iload_n 3, 1) := by decide +kernel
theorem dX2_join_55 : decode cX2_join 55 = .ok (.iconst 1, 1) := by decide +kernel
theorem dX2_join_56 : decode cX2_join 56 = .ok (.invokevirtual 85, 3) := by decide +kernel
theorem dX2_join_59 : decode cX2_join 59 = .ok (.invokevirtual 68, 3) := by decide +kernel
theorem dX2_join_62 : decode cX2_join 62 = .ok (.iload_n 3, 1) := by decide +kernel
theorem dX2_join_63 : decode cX2_join 63 = .ok (.ireturn, 1) := by decide +kernel
set_option maxRecDepth 20000 in
theorem ggX2_fail_X2_requireIdentifier : GoodIn wsX2_fail wsX2_requireIdentifier := goodIn_ca (goodIn_r _ [4, 5, 6, 3, 7, 8, 9] (by decide +kernel) (by decide +kernel)) (goodIn_sub (fun _ h => List.mem_cons_of_mem _ (List.mem_append_left _ (List.mem_append_right _ h))) (by decide +kernel))
set_option maxRecDepth 20000 in
theorem gX2_fail_X2_requireIdentifier : GoodIn wsX2_fail (va_wsS RX2 54 yX2_requireIdentifier wsX2_requireIdentifier) := goodIn_app (goodIn_of _ (by decide +kernel)) ggX2_fail_X2_requireIdentifier
set_option maxRecDepth 20000 in
theorem ggX2_fail_X2_requireAlive : GoodIn wsX2_fail wsX2_requireAlive := goodIn_ca (goodIn_r _ [13, 14, 15, 16, 17, 18, 3, 19, 20, 33, 34, 35, 36, 37, 38, 39, 40, 41, 42, 43, 44] (by decide +kernel) (by decide +kernel)) (goodIn_sub (fun _ h => List.mem_cons_of_mem _ (List.mem_append_right _ h)) (by decide +kernel))
set_option maxRecDepth 20000 in
theorem gX2_fail_X2_requireAlive : GoodIn wsX2_fail (wsV RX2 78 RX2 yX2_requireAlive wsX2_requireAlive) := goodIn_app (goodIn_of _ (by decide +kernel)) ggX2_fail_X2_requireAlive
set_option maxRecDepth 20000 in
theorem ggX2_fail_X2_endLife : GoodIn wsX2_fail wsX2_endLife := goodIn_r _ [24, 25, 26, 27, 3, 28, 20, 33, 34, 35, 36, 37, 38, 39, 40, 41, 42, 43, 44] (by decide +kernel) (by decide +kernel)
set_option maxRecDepth 20000 in
theorem gX2_fail_X2_endLife : GoodIn wsX2_fail (wsV RX2 88 RX2 yX2_endLife wsX2_endLife) := goodIn_app (goodIn_of _ (by decide +kernel)) ggX2_fail_X2_endLife
set_option maxRecDepth 20000 in
theorem ggX2_fail_X2_countLiving : GoodIn wsX2_fail wsX2_countLiving := goodIn_r _ [32, 16, 17, 18, 3, 19, 20, 33, 34, 35, 36, 37, 38, 39, 40, 41, 42, 43, 44] (by decide +kernel) (by decide +kernel)
set_option maxRecDepth 20000 in
theorem gX2_fail_X2_countLiving : GoodIn wsX2_fail (wsV RX2 57 RX2 yX2_countLiving wsX2_countLiving) := goodIn_app (goodIn_of _ (by decide +kernel)) ggX2_fail_X2_countLiving
theorem dX2_fail_0 : decode cX2_fail 0 = .ok (.iload_n 1, 1) := by decide +kernel
theorem dX2_fail_1 : decode cX2_fail 1 = .ok (.invokestatic 54, 3) := by decide +kernel
theorem dX2_fail_4 : decode cX2_fail 4 = .ok (.aload_n 0, 1) := by decide +kernel
theorem dX2_fail_5 : decode cX2_fail 5 = .ok (.iload_n 1, 1) := by decide +kernel
theorem dX2_fail_6 : decode cX2_fail 6 = .ok (.invokevirtual 78, 3) := by decide +kernel
theorem dX2_fail_9 : decode cX2_fail 9 = .ok (.aload_n 0, 1) := by decide +kernel
theorem dX2_fail_10 : decode cX2_fail 10 = .ok (.iload_n 1, 1) := by decide +kernel
theorem dX2_fail_11 : decode cX2_fail 11 = .ok (.invokevirtual 88, 3) := by decide +kernel
theorem dX2_fail_14 : decode cX2_fail 14 = .ok (.aload_n 0, 1) := by decide +kernel
theorem dX2_fail_15 : decode cX2_fail 15 = .ok (.invokevirtual 57, 3) := by decide +kernel
theorem dX2_fail_18 : decode cX2_fail 18 = .ok (.ireturn, 1) := by decide +kernel
set_option maxRecDepth 20000 in
theorem ggX2_leave_X2_requireIdentifier : GoodIn wsX2_leave wsX2_requireIdentifier := goodIn_ca (goodIn_r _ [4, 5, 6, 3, 7, 8, 9] (by decide +kernel) (by decide +kernel)) (goodIn_sub (fun _ h => List.mem_cons_of_mem _ (List.mem_append_left _ (List.mem_append_right _ h))) (by decide +kernel))
set_option maxRecDepth 20000 in
theorem gX2_leave_X2_requireIdentifier : GoodIn wsX2_leave (va_wsS RX2 54 yX2_requireIdentifier wsX2_requireIdentifier) := goodIn_app (goodIn_of _ (by decide +kernel)) ggX2_leave_X2_requireIdentifier
set_option maxRecDepth 20000 in
theorem ggX2_leave_X2_requireAlive : GoodIn wsX2_leave wsX2_requireAlive := goodIn_ca (goodIn_r _ [13, 14, 15, 16, 17, 18, 3, 19, 20, 68, 69, 70, 71, 72, 73, 74, 75, 76, 77, 78, 79] (by decide +kernel) (by decide +kernel)) (goodIn_sub (fun _ h => List.mem_cons_of_mem _ (List.mem_append_right _ h)) (by decide +kernel))
set_option maxRecDepth 20000 in
theorem gX2_leave_X2_requireAlive : GoodIn wsX2_leave (wsV RX2 78 RX2 yX2_requireAlive wsX2_requireAlive) := goodIn_app (goodIn_of _ (by decide +kernel)) ggX2_leave_X2_requireAlive
set_option maxRecDepth 20000 in
theorem ggX2_leave_X2_firstLivingSuccessor : GoodIn wsX2_leave wsX2_firstLivingSuccessor := goodIn_r _ [24, 25, 26, 27, 28, 29, 30, 31, 32, 16, 17, 18, 3, 19, 20, 68, 69, 70, 71, 72, 73, 74, 75, 76, 77, 78, 79, 80, 81] (by decide +kernel) (by decide +kernel)
set_option maxRecDepth 20000 in
theorem gX2_leave_X2_firstLivingSuccessor : GoodIn wsX2_leave (wsV RX2 91 RX2 yX2_firstLivingSuccessor wsX2_firstLivingSuccessor) := goodIn_app (goodIn_of _ (by decide +kernel)) ggX2_leave_X2_firstLivingSuccessor
set_option maxRecDepth 20000 in
theorem ggX2_leave_X2_handOver : GoodIn wsX2_leave wsX2_handOver := goodIn_r _ [36, 37, 38, 39, 40, 3, 41, 42, 43, 26, 27, 28, 29, 30, 31, 32, 44, 45, 46, 47, 16, 17, 18, 19, 20, 48, 49, 50, 51, 25, 52, 53, 54, 55, 68, 69, 70, 71, 72, 73, 74, 75, 76, 77, 78, 79, 80, 81] (by decide +kernel) (by decide +kernel)
set_option maxRecDepth 20000 in
theorem gX2_leave_X2_handOver : GoodIn wsX2_leave (wsV RX2 95 RX2 yX2_handOver wsX2_handOver) := goodIn_app (goodIn_of _ (by decide +kernel)) ggX2_leave_X2_handOver
set_option maxRecDepth 20000 in
theorem ggX2_leave_X2_endLife : GoodIn wsX2_leave wsX2_endLife := goodIn_r _ [59, 60, 61, 62, 3, 63, 20, 68, 69, 70, 71, 72, 73, 74, 75, 76, 77, 78, 79] (by decide +kernel) (by decide +kernel)
set_option maxRecDepth 20000 in
theorem gX2_leave_X2_endLife : GoodIn wsX2_leave (wsV RX2 88 RX2 yX2_endLife wsX2_endLife) := goodIn_app (goodIn_of _ (by decide +kernel)) ggX2_leave_X2_endLife
set_option maxRecDepth 20000 in
theorem ggX2_leave_X2_countLiving : GoodIn wsX2_leave wsX2_countLiving := goodIn_r _ [67, 16, 17, 18, 3, 19, 20, 68, 69, 70, 71, 72, 73, 74, 75, 76, 77, 78, 79] (by decide +kernel) (by decide +kernel)
set_option maxRecDepth 20000 in
theorem gX2_leave_X2_countLiving : GoodIn wsX2_leave (wsV RX2 57 RX2 yX2_countLiving wsX2_countLiving) := goodIn_app (goodIn_of _ (by decide +kernel)) ggX2_leave_X2_countLiving
theorem dX2_leave_0 : decode cX2_leave 0 = .ok (.iload_n 1, 1) := by decide +kernel
theorem dX2_leave_1 : decode cX2_leave 1 = .ok (.invokestatic 54, 3) := by decide +kernel
theorem dX2_leave_4 : decode cX2_leave 4 = .ok (.aload_n 0, 1) := by decide +kernel
theorem dX2_leave_5 : decode cX2_leave 5 = .ok (.iload_n 1, 1) := by decide +kernel
theorem dX2_leave_6 : decode cX2_leave 6 = .ok (.invokevirtual 78, 3) := by decide +kernel
theorem dX2_leave_9 : decode cX2_leave 9 = .ok (.aload_n 0, 1) := by decide +kernel
theorem dX2_leave_10 : decode cX2_leave 10 = .ok (.iload_n 1, 1) := by decide +kernel
theorem dX2_leave_11 : decode cX2_leave 11 = .ok (.invokevirtual 91, 3) := by decide +kernel
theorem dX2_leave_14 : decode cX2_leave 14 = .ok (.istore_n 2, 1) := by decide +kernel
theorem dX2_leave_15 : decode cX2_leave 15 = .ok (.iload_n 2, 1) := by decide +kernel
theorem dX2_leave_16 : decode cX2_leave 16 = .ok (.iload_n 1, 1) := by decide +kernel
theorem dX2_leave_17 : decode cX2_leave 17 = .ok (.if_icmp .eq 9, 3) := by decide +kernel
theorem dX2_leave_20 : decode cX2_leave 20 = .ok (.aload_n 0, 1) := by decide +kernel
theorem dX2_leave_21 : decode cX2_leave 21 = .ok (.iload_n 1, 1) := by decide +kernel
theorem dX2_leave_22 : decode cX2_leave 22 = .ok (.iload_n 2, 1) := by decide +kernel
theorem dX2_leave_23 : decode cX2_leave 23 = .ok (.invokevirtual 95, 3) := by decide +kernel
theorem dX2_leave_26 : decode cX2_leave 26 = .ok (.aload_n 0, 1) := by decide +kernel
theorem dX2_leave_27 : decode cX2_leave 27 = .ok (.iload_n 1, 1) := by decide +kernel
theorem dX2_leave_28 : decode cX2_leave 28 = .ok (.invokevirtual 88, 3) := by decide +kernel
theorem dX2_leave_31 : decode cX2_leave 31 = .ok (.aload_n 0, 1) := by decide +kernel
theorem dX2_leave_32 : decode cX2_leave 32 = .ok (.invokevirtual 57, 3) := by decide +kernel
theorem dX2_leave_35 : decode cX2_leave 35 = .ok (.ireturn, 1) := by decide +kernel
set_option maxRecDepth 20000 in
theorem ggX2_living_X2_countLiving : GoodIn wsX2_living wsX2_countLiving := goodIn_r _ [5, 6, 7, 8, 4, 9, 10, 11, 12, 13, 14, 15, 16, 17, 18, 19, 20, 21, 22] (by decide +kernel) (by decide +kernel)
set_option maxRecDepth 20000 in
theorem gX2_living_X2_countLiving : GoodIn wsX2_living (wsV RX2 57 RX2 yX2_countLiving wsX2_countLiving) := goodIn_app (goodIn_of _ (by decide +kernel)) ggX2_living_X2_countLiving
theorem dX2_living_0 : decode cX2_living 0 = .ok (.aload_n 0, 1) := by decide +kernel
theorem dX2_living_1 : decode cX2_living 1 = .ok (.invokevirtual 57, 3) := by decide +kernel
theorem dX2_living_4 : decode cX2_living 4 = .ok (.ireturn, 1) := by decide +kernel
set_option maxRecDepth 20000 in
theorem ggX2_isLiving_X2_requireIdentifier : GoodIn wsX2_isLiving wsX2_requireIdentifier := goodIn_ca (goodIn_r _ [4, 5, 6, 3, 7, 8, 9] (by decide +kernel) (by decide +kernel)) (goodIn_sub (fun _ h => List.mem_cons_of_mem _ (List.mem_append_right _ h)) (by decide +kernel))
set_option maxRecDepth 20000 in
theorem gX2_isLiving_X2_requireIdentifier : GoodIn wsX2_isLiving (va_wsS RX2 54 yX2_requireIdentifier wsX2_requireIdentifier) := goodIn_app (goodIn_of _ (by decide +kernel)) ggX2_isLiving_X2_requireIdentifier
set_option maxRecDepth 20000 in
theorem ggX2_isLiving_X2_isAlive : GoodIn wsX2_isLiving wsX2_isAlive := goodIn_r _ [13, 14, 15, 16, 17, 18, 19, 20, 21, 22, 23, 24, 25, 26] (by decide +kernel) (by decide +kernel)
set_option maxRecDepth 20000 in
theorem gX2_isLiving_X2_isAlive : GoodIn wsX2_isLiving (wsV RX2 72 RX2 yX2_isAlive wsX2_isAlive) := goodIn_app (goodIn_of _ (by decide +kernel)) ggX2_isLiving_X2_isAlive
theorem dX2_isLiving_0 : decode cX2_isLiving 0 = .ok (.iload_n 1, 1) := by decide +kernel
theorem dX2_isLiving_1 : decode cX2_isLiving 1 = .ok (.invokestatic 54, 3) := by decide +kernel
theorem dX2_isLiving_4 : decode cX2_isLiving 4 = .ok (.aload_n 0, 1) := by decide +kernel
theorem dX2_isLiving_5 : decode cX2_isLiving 5 = .ok (.iload_n 1, 1) := by decide +kernel
theorem dX2_isLiving_6 : decode cX2_isLiving 6 = .ok (.invokevirtual 72, 3) := by decide +kernel
theorem dX2_isLiving_9 : decode cX2_isLiving 9 = .ok (.ireturn, 1) := by decide +kernel
set_option maxRecDepth 20000 in
theorem ggX2_successor_X2_requireIdentifier : GoodIn wsX2_successor wsX2_requireIdentifier := goodIn_ca (goodIn_r _ [5, 6, 7, 4, 8, 9, 10] (by decide +kernel) (by decide +kernel)) (goodIn_sub (fun _ h => List.mem_cons_of_mem _ (List.mem_append_left _ (List.mem_append_right _ h))) (by decide +kernel))
set_option maxRecDepth 20000 in
theorem gX2_successor_X2_requireIdentifier : GoodIn wsX2_successor (va_wsS RX2 54 yX2_requireIdentifier wsX2_requireIdentifier) := goodIn_app (goodIn_of _ (by decide +kernel)) ggX2_successor_X2_requireIdentifier
set_option maxRecDepth 20000 in
theorem ggX2_successor_X2_requireRange : GoodIn wsX2_successor wsX2_requireRange := goodIn_ca (goodIn_r _ [8, 9, 10] (by decide +kernel) (by decide +kernel)) (goodIn_sub (fun _ h => List.mem_cons_of_mem _ (List.mem_append_left _ (List.mem_append_right _ h))) (by decide +kernel))
set_option maxRecDepth 20000 in
theorem gX2_successor_X2_requireRange : GoodIn wsX2_successor (va_wsS RX2 99 yX2_requireRange wsX2_requireRange) := goodIn_app (goodIn_of _ (by decide +kernel)) ggX2_successor_X2_requireRange
set_option maxRecDepth 20000 in
theorem ggX2_successor_X2_requireAlive : GoodIn wsX2_successor wsX2_requireAlive := goodIn_ca (goodIn_r _ [14, 15, 16, 17, 18, 19, 4, 20, 21, 29, 30, 31, 32, 33, 34, 35, 36, 37, 38, 39, 40] (by decide +kernel) (by decide +kernel)) (goodIn_sub (fun _ h => List.mem_cons_of_mem _ (List.mem_append_right _ h)) (by decide +kernel))
set_option maxRecDepth 20000 in
theorem gX2_successor_X2_requireAlive : GoodIn wsX2_successor (wsV RX2 78 RX2 yX2_requireAlive wsX2_requireAlive) := goodIn_app (goodIn_of _ (by decide +kernel)) ggX2_successor_X2_requireAlive
set_option maxRecDepth 20000 in
theorem ggX2_successor_X1_at : GoodIn wsX2_successor wsX1_at := goodIn_r _ [26, 27, 28, 41, 42] (by decide +kernel) (by decide +kernel)
set_option maxRecDepth 20000 in
theorem gX2_successor_X1_at : GoodIn wsX2_successor (wsV RX2 85 RX1 yX1_at wsX1_at) := goodIn_app (goodIn_of _ (by decide +kernel)) ggX2_successor_X1_at
theorem dX2_successor_0 : decode cX2_successor 0 = .ok (.iload_n 1, 1) := by decide +kernel
theorem dX2_successor_1 : decode cX2_successor 1 = .ok (.invokestatic 54, 3) := by decide +kernel
theorem dX2_successor_4 : decode cX2_successor 4 = .ok (.iload_n 2, 1) := by decide +kernel
theorem dX2_successor_5 : decode cX2_successor 5 = .ok (.iconst 0, 1) := by decide +kernel
theorem dX2_successor_6 : decode cX2_successor 6 = .ok (.iconst 2, 1) := by decide +kernel
theorem dX2_successor_7 : decode cX2_successor 7 = .ok (.invokestatic 99, 3) := by decide +kernel
theorem dX2_successor_10 : decode cX2_successor 10 = .ok (.aload_n 0, 1) := by decide +kernel
theorem dX2_successor_11 : decode cX2_successor 11 = .ok (.iload_n 1, 1) := by decide +kernel
theorem dX2_successor_12 : decode cX2_successor 12 = .ok (.invokevirtual 78, 3) := by decide +kernel
theorem dX2_successor_15 : decode cX2_successor 15 = .ok (.aload_n 0, 1) := by decide +kernel
theorem dX2_successor_16 : decode cX2_successor 16 = .ok (.getfield 18, 3) := by decide +kernel
theorem dX2_successor_19 : decode cX2_successor 19 = .ok (.iload_n 1, 1) := by decide +kernel
theorem dX2_successor_20 : decode cX2_successor 20 = .ok (.iload_n 2, 1) := by decide +kernel
theorem dX2_successor_21 : decode cX2_successor 21 = .ok (.invokevirtual 85, 3) := by decide +kernel
theorem dX2_successor_24 : decode cX2_successor 24 = .ok (.ireturn, 1) := by decide +kernel
set_option maxRecDepth 20000 in
theorem ggX2_liveSuccessor_X2_requireIdentifier : GoodIn wsX2_liveSuccessor wsX2_requireIdentifier := goodIn_ca (goodIn_r _ [4, 5, 6, 3, 7, 8, 9] (by decide +kernel) (by decide +kernel)) (goodIn_sub (fun _ h => List.mem_cons_of_mem _ (List.mem_append_left _ (List.mem_append_right _ h))) (by decide +kernel))
set_option maxRecDepth 20000 in
theorem gX2_liveSuccessor_X2_requireIdentifier : GoodIn wsX2_liveSuccessor (va_wsS RX2 54 yX2_requireIdentifier wsX2_requireIdentifier) := goodIn_app (goodIn_of _ (by decide +kernel)) ggX2_liveSuccessor_X2_requireIdentifier
set_option maxRecDepth 20000 in
theorem ggX2_liveSuccessor_X2_requireAlive : GoodIn wsX2_liveSuccessor wsX2_requireAlive := goodIn_ca (goodIn_r _ [13, 14, 15, 16, 17, 18, 3, 19, 20, 33, 34, 35, 36, 37, 38, 39, 40, 41, 42, 43, 44] (by decide +kernel) (by decide +kernel)) (goodIn_sub (fun _ h => List.mem_cons_of_mem _ (List.mem_append_right _ h)) (by decide +kernel))
set_option maxRecDepth 20000 in
theorem gX2_liveSuccessor_X2_requireAlive : GoodIn wsX2_liveSuccessor (wsV RX2 78 RX2 yX2_requireAlive wsX2_requireAlive) := goodIn_app (goodIn_of _ (by decide +kernel)) ggX2_liveSuccessor_X2_requireAlive
set_option maxRecDepth 20000 in
theorem ggX2_liveSuccessor_X2_firstLivingSuccessor : GoodIn wsX2_liveSuccessor wsX2_firstLivingSuccessor := goodIn_r _ [24, 25, 26, 27, 28, 29, 30, 31, 32, 16, 17, 18, 3, 19, 20, 33, 34, 35, 36, 37, 38, 39, 40, 41, 42, 43, 44, 45, 46] (by decide +kernel) (by decide +kernel)
set_option maxRecDepth 20000 in
theorem gX2_liveSuccessor_X2_firstLivingSuccessor : GoodIn wsX2_liveSuccessor (wsV RX2 91 RX2 yX2_firstLivingSuccessor wsX2_firstLivingSuccessor) := goodIn_app (goodIn_of _ (by decide +kernel)) ggX2_liveSuccessor_X2_firstLivingSuccessor
theorem dX2_liveSuccessor_0 : decode cX2_liveSuccessor 0 = .ok (.iload_n 1, 1) := by decide +kernel
theorem dX2_liveSuccessor_1 : decode cX2_liveSuccessor 1 = .ok (.invokestatic 54, 3) := by decide +kernel
theorem dX2_liveSuccessor_4 : decode cX2_liveSuccessor 4 = .ok (.aload_n 0, 1) := by decide +kernel
theorem dX2_liveSuccessor_5 : decode cX2_liveSuccessor 5 = .ok (.iload_n 1, 1) := by decide +kernel
theorem dX2_liveSuccessor_6 : decode cX2_liveSuccessor 6 = .ok (.invokevirtual 78, 3) := by decide +kernel
theorem dX2_liveSuccessor_9 : decode cX2_liveSuccessor 9 = .ok (.aload_n 0, 1) := by decide +kernel
theorem dX2_liveSuccessor_10 : decode cX2_liveSuccessor 10 = .ok (.iload_n 1, 1) := by decide +kernel
theorem dX2_liveSuccessor_11 : decode cX2_liveSuccessor 11 = .ok (.invokevirtual 91, 3) := by decide +kernel
theorem dX2_liveSuccessor_14 : decode cX2_liveSuccessor 14 = .ok (.ireturn, 1) := by decide +kernel
set_option maxRecDepth 20000 in
theorem ggX2_predecessor_X2_requireIdentifier : GoodIn wsX2_predecessor wsX2_requireIdentifier := goodIn_ca (goodIn_r _ [5, 6, 7, 4, 8, 9, 10] (by decide +kernel) (by decide +kernel)) (goodIn_sub (fun _ h => List.mem_cons_of_mem _ (List.mem_append_left _ (List.mem_append_right _ h))) (by decide +kernel))
set_option maxRecDepth 20000 in
theorem gX2_predecessor_X2_requireIdentifier : GoodIn wsX2_predecessor (va_wsS RX2 54 yX2_requireIdentifier wsX2_requireIdentifier) := goodIn_app (goodIn_of _ (by decide +kernel)) ggX2_predecessor_X2_requireIdentifier
set_option maxRecDepth 20000 in
theorem ggX2_predecessor_X2_requireAlive : GoodIn wsX2_predecessor wsX2_requireAlive := goodIn_ca (goodIn_r _ [14, 15, 16, 17, 18, 19, 4, 20, 21, 29, 30, 31, 32, 33, 34, 35, 36, 37, 38, 39, 40] (by decide +kernel) (by decide +kernel)) (goodIn_sub (fun _ h => List.mem_cons_of_mem _ (List.mem_append_right _ h)) (by decide +kernel))
set_option maxRecDepth 20000 in
theorem gX2_predecessor_X2_requireAlive : GoodIn wsX2_predecessor (wsV RX2 78 RX2 yX2_requireAlive wsX2_requireAlive) := goodIn_app (goodIn_of _ (by decide +kernel)) ggX2_predecessor_X2_requireAlive
set_option maxRecDepth 20000 in
theorem ggX2_predecessor_X1_at : GoodIn wsX2_predecessor wsX1_at := goodIn_r _ [26, 27, 28, 41, 42] (by decide +kernel) (by decide +kernel)
set_option maxRecDepth 20000 in
theorem gX2_predecessor_X1_at : GoodIn wsX2_predecessor (wsV RX2 85 RX1 yX1_at wsX1_at) := goodIn_app (goodIn_of _ (by decide +kernel)) ggX2_predecessor_X1_at
theorem dX2_predecessor_0 : decode cX2_predecessor 0 = .ok (.iload_n 1, 1) := by decide +kernel
theorem dX2_predecessor_1 : decode cX2_predecessor 1 = .ok (.invokestatic 54, 3) := by decide +kernel
theorem dX2_predecessor_4 : decode cX2_predecessor 4 = .ok (.aload_n 0, 1) := by decide +kernel
theorem dX2_predecessor_5 : decode cX2_predecessor 5 = .ok (.iload_n 1, 1) := by decide +kernel
theorem dX2_predecessor_6 : decode cX2_predecessor 6 = .ok (.invokevirtual 78, 3) := by decide +kernel
theorem dX2_predecessor_9 : decode cX2_predecessor 9 = .ok (.aload_n 0, 1) := by decide +kernel
theorem dX2_predecessor_10 : decode cX2_predecessor 10 = .ok (.getfield 22, 3) := by decide +kernel
theorem dX2_predecessor_13 : decode cX2_predecessor 13 = .ok (.iload_n 1, 1) := by decide +kernel
theorem dX2_predecessor_14 : decode cX2_predecessor 14 = .ok (.iconst 0, 1) := by decide +kernel
theorem dX2_predecessor_15 : decode cX2_predecessor 15 = .ok (.invokevirtual 85, 3) := by decide +kernel
theorem dX2_predecessor_18 : decode cX2_predecessor 18 = .ok (.ireturn, 1) := by decide +kernel
set_option maxRecDepth 20000 in
theorem ggX2_finger_X2_requireIdentifier : GoodIn wsX2_finger wsX2_requireIdentifier := goodIn_ca (goodIn_r _ [5, 6, 7, 4, 8, 9, 10] (by decide +kernel) (by decide +kernel)) (goodIn_sub (fun _ h => List.mem_cons_of_mem _ (List.mem_append_left _ (List.mem_append_right _ h))) (by decide +kernel))
set_option maxRecDepth 20000 in
theorem gX2_finger_X2_requireIdentifier : GoodIn wsX2_finger (va_wsS RX2 54 yX2_requireIdentifier wsX2_requireIdentifier) := goodIn_app (goodIn_of _ (by decide +kernel)) ggX2_finger_X2_requireIdentifier
set_option maxRecDepth 20000 in
theorem ggX2_finger_X2_requireRange : GoodIn wsX2_finger wsX2_requireRange := goodIn_ca (goodIn_r _ [8, 9, 10] (by decide +kernel) (by decide +kernel)) (goodIn_sub (fun _ h => List.mem_cons_of_mem _ (List.mem_append_left _ (List.mem_append_right _ h))) (by decide +kernel))
set_option maxRecDepth 20000 in
theorem gX2_finger_X2_requireRange : GoodIn wsX2_finger (va_wsS RX2 99 yX2_requireRange wsX2_requireRange) := goodIn_app (goodIn_of _ (by decide +kernel)) ggX2_finger_X2_requireRange
set_option maxRecDepth 20000 in
theorem ggX2_finger_X2_requireAlive : GoodIn wsX2_finger wsX2_requireAlive := goodIn_ca (goodIn_r _ [14, 15, 16, 17, 18, 19, 4, 20, 21, 29, 30, 31, 32, 33, 34, 35, 36, 37, 38, 39, 40] (by decide +kernel) (by decide +kernel)) (goodIn_sub (fun _ h => List.mem_cons_of_mem _ (List.mem_append_right _ h)) (by decide +kernel))
set_option maxRecDepth 20000 in
theorem gX2_finger_X2_requireAlive : GoodIn wsX2_finger (wsV RX2 78 RX2 yX2_requireAlive wsX2_requireAlive) := goodIn_app (goodIn_of _ (by decide +kernel)) ggX2_finger_X2_requireAlive
set_option maxRecDepth 20000 in
theorem ggX2_finger_X1_at : GoodIn wsX2_finger wsX1_at := goodIn_r _ [26, 27, 28, 41, 42] (by decide +kernel) (by decide +kernel)
set_option maxRecDepth 20000 in
theorem gX2_finger_X1_at : GoodIn wsX2_finger (wsV RX2 85 RX1 yX1_at wsX1_at) := goodIn_app (goodIn_of _ (by decide +kernel)) ggX2_finger_X1_at
theorem dX2_finger_0 : decode cX2_finger 0 = .ok (.iload_n 1, 1) := by decide +kernel
theorem dX2_finger_1 : decode cX2_finger 1 = .ok (.invokestatic 54, 3) := by decide +kernel
theorem dX2_finger_4 : decode cX2_finger 4 = .ok (.iload_n 2, 1) := by decide +kernel
theorem dX2_finger_5 : decode cX2_finger 5 = .ok (.iconst 0, 1) := by decide +kernel
theorem dX2_finger_6 : decode cX2_finger 6 = .ok (.iconst 5, 1) := by decide +kernel
theorem dX2_finger_7 : decode cX2_finger 7 = .ok (.invokestatic 99, 3) := by decide +kernel
theorem dX2_finger_10 : decode cX2_finger 10 = .ok (.aload_n 0, 1) := by decide +kernel
theorem dX2_finger_11 : decode cX2_finger 11 = .ok (.iload_n 1, 1) := by decide +kernel
theorem dX2_finger_12 : decode cX2_finger 12 = .ok (.invokevirtual 78, 3) := by decide +kernel
theorem dX2_finger_15 : decode cX2_finger 15 = .ok (.aload_n 0, 1) := by decide +kernel
theorem dX2_finger_16 : decode cX2_finger 16 = .ok (.getfield 25, 3) := by decide +kernel
theorem dX2_finger_19 : decode cX2_finger 19 = .ok (.iload_n 1, 1) := by decide +kernel
theorem dX2_finger_20 : decode cX2_finger 20 = .ok (.iload_n 2, 1) := by decide +kernel
theorem dX2_finger_21 : decode cX2_finger 21 = .ok (.invokevirtual 85, 3) := by decide +kernel
theorem dX2_finger_24 : decode cX2_finger 24 = .ok (.ireturn, 1) := by decide +kernel
set_option maxRecDepth 20000 in
theorem ggX2_check_X2_requireIdentifier : GoodIn wsX2_check wsX2_requireIdentifier := goodIn_ca (goodIn_r _ [5, 6, 7, 4, 8, 9, 10] (by decide +kernel) (by decide +kernel)) (goodIn_sub (fun _ h => List.mem_cons_of_mem _ (List.mem_append_left _ (List.mem_append_right _ h))) (by decide +kernel))
set_option maxRecDepth 20000 in
theorem gX2_check_X2_requireIdentifier : GoodIn wsX2_check (va_wsS RX2 54 yX2_requireIdentifier wsX2_requireIdentifier) := goodIn_app (goodIn_of _ (by decide +kernel)) ggX2_check_X2_requireIdentifier
set_option maxRecDepth 20000 in
theorem ggX2_check_X2_requireAlive : GoodIn wsX2_check wsX2_requireAlive := goodIn_ca (goodIn_r _ [14, 15, 16, 17, 18, 19, 4, 20, 21, 37, 38, 39, 40, 41, 42, 43, 44, 45, 46, 47, 48] (by decide +kernel) (by decide +kernel)) (goodIn_sub (fun _ h => List.mem_cons_of_mem _ (List.mem_append_right _ h)) (by decide +kernel))
set_option maxRecDepth 20000 in
theorem gX2_check_X2_requireAlive : GoodIn wsX2_check (wsV RX2 78 RX2 yX2_requireAlive wsX2_requireAlive) := goodIn_app (goodIn_of _ (by decide +kernel)) ggX2_check_X2_requireAlive
set_option maxRecDepth 20000 in
theorem ggX2_check_X2_dropDeadPredecessor : GoodIn wsX2_check wsX2_dropDeadPredecessor := goodIn_r _ [25, 1, 26, 27, 28, 29, 30, 31, 32, 17, 18, 19, 4, 20, 21, 33, 34, 35, 36, 37, 38, 39, 40, 41, 42, 43, 44, 45, 46, 47, 48, 49, 50] (by decide +kernel) (by decide +kernel)
set_option maxRecDepth 20000 in
theorem gX2_check_X2_dropDeadPredecessor : GoodIn wsX2_check (wsV RX2 103 RX2 yX2_dropDeadPredecessor wsX2_dropDeadPredecessor) := goodIn_app (goodIn_of _ (by decide +kernel)) ggX2_check_X2_dropDeadPredecessor
set_option maxRecDepth 20000 in
theorem ggX2_check_X1_at : GoodIn wsX2_check wsX1_at := goodIn_r _ [30, 31, 32, 49, 50] (by decide +kernel) (by decide +kernel)
set_option maxRecDepth 20000 in
theorem gX2_check_X1_at : GoodIn wsX2_check (wsV RX2 85 RX1 yX1_at wsX1_at) := goodIn_app (goodIn_of _ (by decide +kernel)) ggX2_check_X1_at
theorem dX2_check_0 : decode cX2_check 0 = .ok (.iload_n 1, 1) := by decide +kernel
theorem dX2_check_1 : decode cX2_check 1 = .ok (.invokestatic 54, 3) := by decide +kernel
theorem dX2_check_4 : decode cX2_check 4 = .ok (.aload_n 0, 1) := by decide +kernel
theorem dX2_check_5 : decode cX2_check 5 = .ok (.iload_n 1, 1) := by decide +kernel
theorem dX2_check_6 : decode cX2_check 6 = .ok (.invokevirtual 78, 3) := by decide +kernel
theorem dX2_check_9 : decode cX2_check 9 = .ok (.aload_n 0, 1) := by decide +kernel
theorem dX2_check_10 : decode cX2_check 10 = .ok (.iload_n 1, 1) := by decide +kernel
theorem dX2_check_11 : decode cX2_check 11 = .ok (.invokevirtual 103, 3) := by decide +kernel
theorem dX2_check_14 : decode cX2_check 14 = .ok (.aload_n 0, 1) := by decide +kernel
theorem dX2_check_15 : decode cX2_check 15 = .ok (.getfield 22, 3) := by decide +kernel
theorem dX2_check_18 : decode cX2_check 18 = .ok (.iload_n 1, 1) := by decide +kernel
theorem dX2_check_19 : decode cX2_check 19 = .ok (.iconst 0, 1) := by decide +kernel
theorem dX2_check_20 : decode cX2_check 20 = .ok (.invokevirtual 85, 3) := by decide +kernel
theorem dX2_check_23 : decode cX2_check 23 = .ok (.iconst (-1), 1) := by decide +kernel
theorem dX2_check_24 : decode cX2_check 24 = .ok (.if_icmp .eq 7, 3) := by decide +kernel
theorem dX2_check_27 : decode cX2_check 27 = .ok (.iconst 1, 1) := by decide +kernel
theorem dX2_check_28 : decode cX2_check 28 = .ok (.goto 4, 3) := by decide +kernel
theorem dX2_check_31 : decode cX2_check 31 = .ok (.iconst 0, 1) := by decide +kernel
theorem dX2_check_32 : decode cX2_check 32 = .ok (.ireturn, 1) := by decide +kernel
set_option maxRecDepth 20000 in
theorem ggX2_stabilize_X2_requireIdentifier : GoodIn wsX2_stabilize wsX2_requireIdentifier := goodIn_ca (goodIn_r _ [5, 6, 7, 4, 8, 9, 10] (by decide +kernel) (by decide +kernel)) (goodIn_sub (fun _ h => List.mem_cons_of_mem _ (List.mem_append_left _ (List.mem_append_right _ h))) (by decide +kernel))
set_option maxRecDepth 20000 in
theorem gX2_stabilize_X2_requireIdentifier : GoodIn wsX2_stabilize (va_wsS RX2 54 yX2_requireIdentifier wsX2_requireIdentifier) := goodIn_app (goodIn_of _ (by decide +kernel)) ggX2_stabilize_X2_requireIdentifier
set_option maxRecDepth 20000 in
theorem ggX2_stabilize_X2_requireAlive : GoodIn wsX2_stabilize wsX2_requireAlive := goodIn_ca (goodIn_r _ [14, 15, 16, 17, 18, 19, 4, 20, 21, 58, 59, 60, 61, 62, 63, 64, 65, 66, 67, 68, 69] (by decide +kernel) (by decide +kernel)) (goodIn_sub (fun _ h => List.mem_cons_of_mem _ (List.mem_append_right _ h)) (by decide +kernel))
set_option maxRecDepth 20000 in
theorem gX2_stabilize_X2_requireAlive : GoodIn wsX2_stabilize (wsV RX2 78 RX2 yX2_requireAlive wsX2_requireAlive) := goodIn_app (goodIn_of _ (by decide +kernel)) ggX2_stabilize_X2_requireAlive
set_option maxRecDepth 20000 in
theorem ggX2_stabilize_X2_mendSuccessors : GoodIn wsX2_stabilize wsX2_mendSuccessors := goodIn_r _ [25, 26, 27, 28, 29, 4, 30, 1, 31, 32, 33, 34, 35, 36, 37, 17, 18, 19, 20, 21, 38, 39, 40, 41, 42, 43, 44, 45, 46, 47, 48, 49, 50, 51, 52, 53, 54, 55, 56, 57, 58, 59, 60, 61, 62, 63, 64, 65, 66, 67, 68, 69, 70, 71] (by decide +kernel) (by decide +kernel)
set_option maxRecDepth 20000 in
theorem gX2_stabilize_X2_mendSuccessors : GoodIn wsX2_stabilize (wsV RX2 106 RX2 yX2_mendSuccessors wsX2_mendSuccessors) := goodIn_app (goodIn_of _ (by decide +kernel)) ggX2_stabilize_X2_mendSuccessors
set_option maxRecDepth 20000 in
theorem ggX2_stabilize_X1_at : GoodIn wsX2_stabilize wsX1_at := goodIn_r _ [35, 36, 37, 70, 71] (by decide +kernel) (by decide +kernel)
set_option maxRecDepth 20000 in
theorem gX2_stabilize_X1_at : GoodIn wsX2_stabilize (wsV RX2 85 RX1 yX1_at wsX1_at) := goodIn_app (goodIn_of _ (by decide +kernel)) ggX2_stabilize_X1_at
theorem dX2_stabilize_0 : decode cX2_stabilize 0 = .ok (.iload_n 1, 1) := by decide +kernel
theorem dX2_stabilize_1 : decode cX2_stabilize 1 = .ok (.invokestatic 54, 3) := by decide +kernel
theorem dX2_stabilize_4 : decode cX2_stabilize 4 = .ok (.aload_n 0, 1) := by decide +kernel
theorem dX2_stabilize_5 : decode cX2_stabilize 5 = .ok (.iload_n 1, 1) := by decide +kernel
theorem dX2_stabilize_6 : decode cX2_stabilize 6 = .ok (.invokevirtual 78, 3) := by decide +kernel
theorem dX2_stabilize_9 : decode cX2_stabilize 9 = .ok (.aload_n 0, 1) := by decide +kernel
theorem dX2_stabilize_10 : decode cX2_stabilize 10 = .ok (.iload_n 1, 1) := by decide +kernel
theorem dX2_stabilize_11 : decode cX2_stabilize 11 = .ok (.invokevirtual 106, 3) := by decide +kernel
theorem dX2_stabilize_14 : decode cX2_stabilize 14 = .ok (.aload_n 0, 1) := by decide +kernel
theorem dX2_stabilize_15 : decode cX2_stabilize 15 = .ok (.getfield 18, 3) := by decide +kernel
theorem dX2_stabilize_18 : decode cX2_stabilize 18 = .ok (.iload_n 1, 1) := by decide +kernel
theorem dX2_stabilize_19 : decode cX2_stabilize 19 = .ok (.iconst 0, 1) := by decide +kernel
theorem dX2_stabilize_20 : decode cX2_stabilize 20 = .ok (.invokevirtual 85, 3) := by decide +kernel
theorem dX2_stabilize_23 : decode cX2_stabilize 23 = .ok (.ireturn, 1) := by decide +kernel
set_option maxRecDepth 20000 in
theorem ggX2_fix_X2_requireIdentifier : GoodIn wsX2_fix wsX2_requireIdentifier := goodIn_ca (goodIn_r _ [4, 5, 6, 3, 7, 8, 9] (by decide +kernel) (by decide +kernel)) (goodIn_sub (fun _ h => List.mem_cons_of_mem _ (List.mem_append_left _ (List.mem_append_right _ h))) (by decide +kernel))
set_option maxRecDepth 20000 in
theorem gX2_fix_X2_requireIdentifier : GoodIn wsX2_fix (va_wsS RX2 54 yX2_requireIdentifier wsX2_requireIdentifier) := goodIn_app (goodIn_of _ (by decide +kernel)) ggX2_fix_X2_requireIdentifier
set_option maxRecDepth 20000 in
theorem ggX2_fix_X2_requireAlive : GoodIn wsX2_fix wsX2_requireAlive := goodIn_ca (goodIn_r _ [13, 14, 15, 16, 17, 18, 3, 19, 20, 65, 66, 67, 68, 69, 70, 71, 72, 73, 74, 75, 76] (by decide +kernel) (by decide +kernel)) (goodIn_sub (fun _ h => List.mem_cons_of_mem _ (List.mem_append_right _ h)) (by decide +kernel))
set_option maxRecDepth 20000 in
theorem gX2_fix_X2_requireAlive : GoodIn wsX2_fix (wsV RX2 78 RX2 yX2_requireAlive wsX2_requireAlive) := goodIn_app (goodIn_of _ (by decide +kernel)) ggX2_fix_X2_requireAlive
set_option maxRecDepth 20000 in
theorem ggX2_fix_X2_renewFingers : GoodIn wsX2_fix wsX2_renewFingers := goodIn_r _ [24, 25, 26, 27, 28, 29, 30, 31, 32, 33, 34, 35, 3, 36, 37, 38, 39, 40, 41, 42, 43, 44, 45, 46, 47, 48, 49, 50, 16, 17, 18, 19, 20, 51, 52, 53, 54, 55, 56, 57, 58, 59, 60, 61, 62, 63, 64, 65, 66, 67, 68, 69, 70, 71, 72, 73, 74, 75, 76, 77, 78] (by decide +kernel) (by decide +kernel)
set_option maxRecDepth 20000 in
theorem gX2_fix_X2_renewFingers : GoodIn wsX2_fix (wsV RX2 109 RX2 yX2_renewFingers wsX2_renewFingers) := goodIn_app (goodIn_of _ (by decide +kernel)) ggX2_fix_X2_renewFingers
theorem dX2_fix_0 : decode cX2_fix 0 = .ok (.iload_n 1, 1) := by decide +kernel
theorem dX2_fix_1 : decode cX2_fix 1 = .ok (.invokestatic 54, 3) := by decide +kernel
theorem dX2_fix_4 : decode cX2_fix 4 = .ok (.aload_n 0, 1) := by decide +kernel
theorem dX2_fix_5 : decode cX2_fix 5 = .ok (.iload_n 1, 1) := by decide +kernel
theorem dX2_fix_6 : decode cX2_fix 6 = .ok (.invokevirtual 78, 3) := by decide +kernel
theorem dX2_fix_9 : decode cX2_fix 9 = .ok (.aload_n 0, 1) := by decide +kernel
theorem dX2_fix_10 : decode cX2_fix 10 = .ok (.iload_n 1, 1) := by decide +kernel
theorem dX2_fix_11 : decode cX2_fix 11 = .ok (.invokevirtual 109, 3) := by decide +kernel
theorem dX2_fix_14 : decode cX2_fix 14 = .ok (.ireturn, 1) := by decide +kernel
set_option maxRecDepth 20000 in
theorem ggX2_replicate_X2_requireIdentifier : GoodIn wsX2_replicate wsX2_requireIdentifier := goodIn_ca (goodIn_r _ [4, 5, 6, 3, 7, 8, 9] (by decide +kernel) (by decide +kernel)) (goodIn_sub (fun _ h => List.mem_cons_of_mem _ (List.mem_append_left _ (List.mem_append_right _ h))) (by decide +kernel))
set_option maxRecDepth 20000 in
theorem gX2_replicate_X2_requireIdentifier : GoodIn wsX2_replicate (va_wsS RX2 54 yX2_requireIdentifier wsX2_requireIdentifier) := goodIn_app (goodIn_of _ (by decide +kernel)) ggX2_replicate_X2_requireIdentifier
set_option maxRecDepth 20000 in
theorem ggX2_replicate_X2_requireAlive : GoodIn wsX2_replicate wsX2_requireAlive := goodIn_ca (goodIn_r _ [13, 14, 15, 16, 17, 18, 3, 19, 20, 78, 79, 80, 81, 82, 83, 84, 85, 86, 87, 88, 89] (by decide +kernel) (by decide +kernel)) (goodIn_sub (fun _ h => List.mem_cons_of_mem _ (List.mem_append_right _ h)) (by decide +kernel))
set_option maxRecDepth 20000 in
theorem gX2_replicate_X2_requireAlive : GoodIn wsX2_replicate (wsV RX2 78 RX2 yX2_requireAlive wsX2_requireAlive) := goodIn_app (goodIn_of _ (by decide +kernel)) ggX2_replicate_X2_requireAlive
set_option maxRecDepth 20000 in
theorem ggX2_replicate_X2_spreadValues : GoodIn wsX2_replicate wsX2_spreadValues := goodIn_r _ [24, 25, 26, 27, 28, 29, 30, 31, 32, 33, 34, 35, 3, 36, 37, 38, 39, 40, 41, 42, 43, 44, 45, 46, 47, 48, 49, 50, 51, 52, 16, 17, 18, 19, 20, 53, 54, 55, 56, 57, 58, 59, 60, 61, 62, 63, 64, 65, 66, 67, 68, 69, 70, 71, 72, 73, 74, 75, 76, 77, 78, 79, 80, 81, 82, 83, 84, 85, 86, 87, 88, 89, 90, 91] (by decide +kernel) (by decide +kernel)
set_option maxRecDepth 20000 in
theorem gX2_replicate_X2_spreadValues : GoodIn wsX2_replicate (wsV RX2 112 RX2 yX2_spreadValues wsX2_spreadValues) := goodIn_app (goodIn_of _ (by decide +kernel)) ggX2_replicate_X2_spreadValues
theorem dX2_replicate_0 : decode cX2_replicate 0 = .ok (.iload_n 1, 1) := by decide +kernel
theorem dX2_replicate_1 : decode cX2_replicate 1 = .ok (.invokestatic 54, 3) := by decide +kernel
theorem dX2_replicate_4 : decode cX2_replicate 4 = .ok (.aload_n 0, 1) := by decide +kernel
theorem dX2_replicate_5 : decode cX2_replicate 5 = .ok (.iload_n 1, 1) := by decide +kernel
theorem dX2_replicate_6 : decode cX2_replicate 6 = .ok (.invokevirtual 78, 3) := by decide +kernel
theorem dX2_replicate_9 : decode cX2_replicate 9 = .ok (.aload_n 0, 1) := by decide +kernel
theorem dX2_replicate_10 : decode cX2_replicate 10 = .ok (.iload_n 1, 1) := by decide +kernel
theorem dX2_replicate_11 : decode cX2_replicate 11 = .ok (.invokevirtual 112, 3) := by decide +kernel
theorem dX2_replicate_14 : decode cX2_replicate 14 = .ok (.ireturn, 1) := by decide +kernel
set_option maxRecDepth 20000 in
theorem ggX2_goRounds_X2_requireRange : GoodIn wsX2_goRounds wsX2_requireRange := goodIn_ca (goodIn_r _ [4, 5, 6] (by decide +kernel) (by decide +kernel)) (goodIn_sub (fun _ h => List.mem_cons_of_mem _ (List.mem_append_right _ h)) (by decide +kernel))
set_option maxRecDepth 20000 in
theorem gX2_goRounds_X2_requireRange : GoodIn wsX2_goRounds (va_wsS RX2 99 yX2_requireRange wsX2_requireRange) := goodIn_app (goodIn_of _ (by decide +kernel)) ggX2_goRounds_X2_requireRange
set_option maxRecDepth 20000 in
theorem ggX2_goRounds_X2_letRoundGoBy : GoodIn wsX2_goRounds wsX2_letRoundGoBy := goodIn_r _ [10, 11, 12, 13, 3, 14, 15, 16, 17, 18, 19, 20, 21, 22, 23, 24, 25, 26, 27, 28, 29, 30, 31, 32, 33, 34, 35, 36, 37, 38, 39, 40, 41, 42, 43, 44, 45, 46, 47, 48, 49, 50, 51, 52, 53, 54, 55, 56, 57, 58, 59, 60, 61, 62, 63, 64, 65, 66, 67, 68, 69, 70, 71, 72, 73, 74, 75, 76, 77, 78, 79, 80, 81, 82, 83, 84, 85, 86, 87, 88, 89, 90, 91, 92, 93, 94, 95, 96, 97, 98, 99, 100, 101, 102, 120, 121, 122, 123, 124, 125, 126, 127, 128, 129, 130, 131, 132, 133] (by decide +kernel) (by decide +kernel)
set_option maxRecDepth 20000 in
theorem gX2_goRounds_X2_letRoundGoBy : GoodIn wsX2_goRounds (wsV RX2 115 RX2 yX2_letRoundGoBy wsX2_letRoundGoBy) := goodIn_app (goodIn_of _ (by decide +kernel)) ggX2_goRounds_X2_letRoundGoBy
set_option maxRecDepth 20000 in
theorem ggX2_goRounds_X2_countWrongPointers : GoodIn wsX2_goRounds wsX2_countWrongPointers := goodIn_r _ [106, 11, 12, 13, 3, 14, 15, 107, 108, 109, 110, 20, 61, 36, 37, 38, 39, 40, 21, 22, 23, 24, 25, 26, 27, 111, 66, 43, 67, 112, 113, 114, 115, 116, 117, 118, 119, 62, 63, 64, 65, 120, 121, 122, 123, 124, 125, 126, 127, 128, 129, 130, 131, 132, 133] (by decide +kernel) (by decide +kernel)
set_option maxRecDepth 20000 in
theorem gX2_goRounds_X2_countWrongPointers : GoodIn wsX2_goRounds (wsV RX2 119 RX2 yX2_countWrongPointers wsX2_countWrongPointers) := goodIn_app (goodIn_of _ (by decide +kernel)) ggX2_goRounds_X2_countWrongPointers
theorem dX2_goRounds_0 : decode cX2_goRounds 0 = .ok (.iload_n 1, 1) := by decide +kernel
theorem dX2_goRounds_1 : decode cX2_goRounds 1 = .ok (.iconst 1, 1) := by decide +kernel
theorem dX2_goRounds_2 : decode cX2_goRounds 2 = .ok (.bipush 20, 2) := by decide +kernel
theorem dX2_goRounds_4 : decode cX2_goRounds 4 = .ok (.invokestatic 99, 3) := by decide +kernel
theorem dX2_goRounds_7 : decode cX2_goRounds 7 = .ok (.iconst 0, 1) := by decide +kernel
theorem dX2_goRounds_8 : decode cX2_goRounds 8 = .ok (.istore_n 2, 1) := by decide +kernel
theorem dX2_goRounds_9 : decode cX2_goRounds 9 = .ok (.iload_n 2, 1) := by decide +kernel
theorem dX2_goRounds_10 : decode cX2_goRounds 10 = .ok (.iload_n 1, 1) := by decide +kernel
theorem dX2_goRounds_11 : decode cX2_goRounds 11 = .ok (.if_icmp .ge 14, 3) := by decide +kernel
theorem dX2_goRounds_14 : decode cX2_goRounds 14 = .ok (.aload_n 0, 1) := by decide +kernel
theorem dX2_goRounds_15 : decode cX2_goRounds 15 = .ok (.iconst 1, 1) := by decide +kernel
theorem dX2_goRounds_16 : decode cX2_goRounds 16 = .ok (.invokevirtual 115, 3) := by decide +kernel
theorem dX2_goRounds_19 : decode cX2_goRounds 19 = .ok (.iinc 2 1, 3) := by decide +kernel
theorem dX2_goRounds_22 : decode cX2_goRounds 22 = .ok (.goto (-13), 3) := by decide +kernel
theorem dX2_goRounds_25 : decode cX2_goRounds 25 = .ok (.aload_n 0, 1) := by decide +kernel
theorem dX2_goRounds_26 : decode cX2_goRounds 26 = .ok (.invokevirtual 119, 3) := by decide +kernel
theorem dX2_goRounds_29 : decode cX2_goRounds 29 = .ok (.ireturn, 1) := by decide +kernel
set_option maxRecDepth 20000 in
theorem ggX2_lookup_X2_requireIdentifier : GoodIn wsX2_lookup wsX2_requireIdentifier := goodIn_ca (goodIn_r _ [4, 5, 6, 3, 7, 8, 9] (by decide +kernel) (by decide +kernel)) (goodIn_sub (fun _ h => List.mem_cons_of_mem _ (List.mem_append_left _ (List.mem_append_right _ h))) (by decide +kernel))
set_option maxRecDepth 20000 in
theorem gX2_lookup_X2_requireIdentifier : GoodIn wsX2_lookup (va_wsS RX2 54 yX2_requireIdentifier wsX2_requireIdentifier) := goodIn_app (goodIn_of _ (by decide +kernel)) ggX2_lookup_X2_requireIdentifier
set_option maxRecDepth 20000 in
theorem ggX2_lookup_X2_requireAlive : GoodIn wsX2_lookup wsX2_requireAlive := goodIn_ca (goodIn_r _ [13, 14, 15, 16, 17, 18, 3, 19, 20, 51, 52, 53, 54, 55, 56, 57, 58, 59, 60, 61, 62] (by decide +kernel) (by decide +kernel)) (goodIn_sub (fun _ h => List.mem_cons_of_mem _ (List.mem_append_right _ h)) (by decide +kernel))
set_option maxRecDepth 20000 in
theorem gX2_lookup_X2_requireAlive : GoodIn wsX2_lookup (wsV RX2 78 RX2 yX2_requireAlive wsX2_requireAlive) := goodIn_app (goodIn_of _ (by decide +kernel)) ggX2_lookup_X2_requireAlive
set_option maxRecDepth 20000 in
theorem ggX2_lookup_X2_find : GoodIn wsX2_lookup wsX2_find := goodIn_r _ [24, 25, 26, 27, 28, 29, 3, 30, 31, 32, 33, 34, 35, 36, 37, 38, 16, 17, 18, 19, 20, 39, 40, 41, 42, 43, 44, 45, 46, 47, 48, 49, 50, 51, 52, 53, 54, 55, 56, 57, 58, 59, 60, 61, 62, 63, 64] (by decide +kernel) (by decide +kernel)
set_option maxRecDepth 20000 in
theorem gX2_lookup_X2_find : GoodIn wsX2_lookup (wsV RX2 81 RX2 yX2_find wsX2_find) := goodIn_app (goodIn_of _ (by decide +kernel)) ggX2_lookup_X2_find
theorem dX2_lookup_0 : decode cX2_lookup 0 = .ok (.iload_n 1, 1) := by decide +kernel
theorem dX2_lookup_1 : decode cX2_lookup 1 = .ok (.invokestatic 54, 3) := by decide +kernel
theorem dX2_lookup_4 : decode cX2_lookup 4 = .ok (.iload_n 2, 1) := by decide +kernel
theorem dX2_lookup_5 : decode cX2_lookup 5 = .ok (.invokestatic 54, 3) := by decide +kernel
theorem dX2_lookup_8 : decode cX2_lookup 8 = .ok (.aload_n 0, 1) := by decide +kernel
theorem dX2_lookup_9 : decode cX2_lookup 9 = .ok (.iload_n 1, 1) := by decide +kernel
theorem dX2_lookup_10 : decode cX2_lookup 10 = .ok (.invokevirtual 78, 3) := by decide +kernel
theorem dX2_lookup_13 : decode cX2_lookup 13 = .ok (.aload_n 0, 1) := by decide +kernel
theorem dX2_lookup_14 : decode cX2_lookup 14 = .ok (.iload_n 1, 1) := by decide +kernel
theorem dX2_lookup_15 : decode cX2_lookup 15 = .ok (.iload_n 2, 1) := by decide +kernel
theorem dX2_lookup_16 : decode cX2_lookup 16 = .ok (.invokevirtual 81, 3) := by decide +kernel
theorem dX2_lookup_19 : decode cX2_lookup 19 = .ok (.ireturn, 1) := by decide +kernel
set_option maxRecDepth 20000 in
theorem ggX2_hops_X2_requireIdentifier : GoodIn wsX2_hops wsX2_requireIdentifier := goodIn_ca (goodIn_r _ [5, 6, 7, 4, 8, 9, 10] (by decide +kernel) (by decide +kernel)) (goodIn_sub (fun _ h => List.mem_cons_of_mem _ (List.mem_append_left _ (List.mem_append_right _ h))) (by decide +kernel))
set_option maxRecDepth 20000 in
theorem gX2_hops_X2_requireIdentifier : GoodIn wsX2_hops (va_wsS RX2 54 yX2_requireIdentifier wsX2_requireIdentifier) := goodIn_app (goodIn_of _ (by decide +kernel)) ggX2_hops_X2_requireIdentifier
set_option maxRecDepth 20000 in
theorem ggX2_hops_X2_requireAlive : GoodIn wsX2_hops wsX2_requireAlive := goodIn_ca (goodIn_r _ [14, 15, 16, 17, 18, 19, 4, 20, 21, 51, 52, 53, 54, 55, 56, 57, 58, 59, 60, 61, 62] (by decide +kernel) (by decide +kernel)) (goodIn_sub (fun _ h => List.mem_cons_of_mem _ (List.mem_append_right _ h)) (by decide +kernel))
set_option maxRecDepth 20000 in
theorem gX2_hops_X2_requireAlive : GoodIn wsX2_hops (wsV RX2 78 RX2 yX2_requireAlive wsX2_requireAlive) := goodIn_app (goodIn_of _ (by decide +kernel)) ggX2_hops_X2_requireAlive
set_option maxRecDepth 20000 in
theorem ggX2_hops_X2_find : GoodIn wsX2_hops wsX2_find := goodIn_r _ [25, 26, 1, 27, 28, 29, 4, 30, 31, 32, 33, 34, 35, 36, 37, 38, 17, 18, 19, 20, 21, 39, 40, 41, 42, 43, 44, 45, 46, 47, 48, 49, 50, 51, 52, 53, 54, 55, 56, 57, 58, 59, 60, 61, 62, 63, 64] (by decide +kernel) (by decide +kernel)
set_option maxRecDepth 20000 in
theorem gX2_hops_X2_find : GoodIn wsX2_hops (wsV RX2 81 RX2 yX2_find wsX2_find) := goodIn_app (goodIn_of _ (by decide +kernel)) ggX2_hops_X2_find
theorem dX2_hops_0 : decode cX2_hops 0 = .ok (.iload_n 1, 1) := by decide +kernel
theorem dX2_hops_1 : decode cX2_hops 1 = .ok (.invokestatic 54, 3) := by decide +kernel
theorem dX2_hops_4 : decode cX2_hops 4 = .ok (.iload_n 2, 1) := by decide +kernel
theorem dX2_hops_5 : decode cX2_hops 5 = .ok (.invokestatic 54, 3) := by decide +kernel
theorem dX2_hops_8 : decode cX2_hops 8 = .ok (.aload_n 0, 1) := by decide +kernel
theorem dX2_hops_9 : decode cX2_hops 9 = .ok (.iload_n 1, 1) := by decide +kernel
theorem dX2_hops_10 : decode cX2_hops 10 = .ok (.invokevirtual 78, 3) := by decide +kernel
theorem dX2_hops_13 : decode cX2_hops 13 = .ok (.aload_n 0, 1) := by decide +kernel
theorem dX2_hops_14 : decode cX2_hops 14 = .ok (.iload_n 1, 1) := by decide +kernel
theorem dX2_hops_15 : decode cX2_hops 15 = .ok (.iload_n 2, 1) := by decide +kernel
theorem dX2_hops_16 : decode cX2_hops 16 = .ok (.invokevirtual 81, 3) := by decide +kernel
theorem dX2_hops_19 : decode cX2_hops 19 = .ok (.pop, 1) := by decide +kernel
theorem dX2_hops_20 : decode cX2_hops 20 = .ok (.aload_n 0, 1) := by decide +kernel
theorem dX2_hops_21 : decode cX2_hops 21 = .ok (.getfield 42, 3) := by decide +kernel
theorem dX2_hops_24 : decode cX2_hops 24 = .ok (.ireturn, 1) := by decide +kernel
set_option maxRecDepth 20000 in
theorem ggX2_hopAt_X2_requireIdentifier : GoodIn wsX2_hopAt wsX2_requireIdentifier := goodIn_ca (goodIn_r _ [8, 9, 10, 7, 11, 12, 13] (by decide +kernel) (by decide +kernel)) (goodIn_sub (fun _ h => List.mem_cons_of_mem _ (List.mem_append_left _ (List.mem_append_right _ h))) (by decide +kernel))
set_option maxRecDepth 20000 in
theorem gX2_hopAt_X2_requireIdentifier : GoodIn wsX2_hopAt (va_wsS RX2 54 yX2_requireIdentifier wsX2_requireIdentifier) := goodIn_app (goodIn_of _ (by decide +kernel)) ggX2_hopAt_X2_requireIdentifier
set_option maxRecDepth 20000 in
theorem ggX2_hopAt_X2_requireAlive : GoodIn wsX2_hopAt wsX2_requireAlive := goodIn_ca (goodIn_r _ [17, 18, 19, 20, 21, 22, 7, 23, 24, 53, 54, 55, 56, 57, 58, 59, 60, 61, 62, 63, 64] (by decide +kernel) (by decide +kernel)) (goodIn_sub (fun _ h => List.mem_cons_of_mem _ (List.mem_append_right _ h)) (by decide +kernel))
set_option maxRecDepth 20000 in
theorem gX2_hopAt_X2_requireAlive : GoodIn wsX2_hopAt (wsV RX2 78 RX2 yX2_requireAlive wsX2_requireAlive) := goodIn_app (goodIn_of _ (by decide +kernel)) ggX2_hopAt_X2_requireAlive
set_option maxRecDepth 20000 in
theorem ggX2_hopAt_X2_find : GoodIn wsX2_hopAt wsX2_find := goodIn_r _ [28, 4, 3, 29, 30, 31, 7, 32, 33, 34, 35, 36, 37, 38, 39, 40, 20, 21, 22, 23, 24, 41, 42, 43, 44, 45, 46, 47, 48, 49, 50, 51, 52, 53, 54, 55, 56, 57, 58, 59, 60, 61, 62, 63, 64, 65, 66] (by decide +kernel) (by decide +kernel)
set_option maxRecDepth 20000 in
theorem gX2_hopAt_X2_find : GoodIn wsX2_hopAt (wsV RX2 81 RX2 yX2_find wsX2_find) := goodIn_app (goodIn_of _ (by decide +kernel)) ggX2_hopAt_X2_find
theorem dX2_hopAt_0 : decode cX2_hopAt 0 = .ok (.iload_n 1, 1) := by decide +kernel
theorem dX2_hopAt_1 : decode cX2_hopAt 1 = .ok (.invokestatic 54, 3) := by decide +kernel
theorem dX2_hopAt_4 : decode cX2_hopAt 4 = .ok (.iload_n 2, 1) := by decide +kernel
theorem dX2_hopAt_5 : decode cX2_hopAt 5 = .ok (.invokestatic 54, 3) := by decide +kernel
theorem dX2_hopAt_8 : decode cX2_hopAt 8 = .ok (.aload_n 0, 1) := by decide +kernel
theorem dX2_hopAt_9 : decode cX2_hopAt 9 = .ok (.iload_n 1, 1) := by decide +kernel
theorem dX2_hopAt_10 : decode cX2_hopAt 10 = .ok (.invokevirtual 78, 3) := by decide +kernel
theorem dX2_hopAt_13 : decode cX2_hopAt 13 = .ok (.aload_n 0, 1) := by decide +kernel
theorem dX2_hopAt_14 : decode cX2_hopAt 14 = .ok (.iload_n 1, 1) := by decide +kernel
theorem dX2_hopAt_15 : decode cX2_hopAt 15 = .ok (.iload_n 2, 1) := by decide +kernel
theorem dX2_hopAt_16 : decode cX2_hopAt 16 = .ok (.invokevirtual 81, 3) := by decide +kernel
theorem dX2_hopAt_19 : decode cX2_hopAt 19 = .ok (.pop, 1) := by decide +kernel
theorem dX2_hopAt_20 : decode cX2_hopAt 20 = .ok (.iload_n 3, 1) := by decide +kernel
theorem dX2_hopAt_21 : decode cX2_hopAt 21 = .ok (.ifCond .lt 20, 3) := by decide +kernel
theorem dX2_hopAt_24 : decode cX2_hopAt 24 = .ok (.iload_n 3, 1) := by decide +kernel
theorem dX2_hopAt_25 : decode cX2_hopAt 25 = .ok (.aload_n 0, 1) := by decide +kernel
theorem dX2_hopAt_26 : decode cX2_hopAt 26 = .ok (.getfield 42, 3) := by decide +kernel
theorem dX2_hopAt_29 : decode cX2_hopAt 29 = .ok (.if_icmp .gt 12, 3) := by decide +kernel
theorem dX2_hopAt_32 : decode cX2_hopAt 32 = .ok (.iload_n 3, 1) := by decide +kernel
theorem dX2_hopAt_33 : decode cX2_hopAt 33 = .ok (.aload_n 0, 1) := by decide +kernel
theorem dX2_hopAt_34 : decode cX2_hopAt 34 = .ok (.getfield 38, 3) := by decide +kernel
theorem dX2_hopAt_37 : decode cX2_hopAt 37 = .ok (.arraylength, 1) := by decide +kernel
theorem dX2_hopAt_38 : decode cX2_hopAt 38 = .ok (.if_icmp .lt 13, 3) := by decide +kernel
theorem dX2_hopAt_41 : decode cX2_hopAt 41 = .ok (.new 122, 3) := by decide +kernel
theorem dX2_hopAt_44 : decode cX2_hopAt 44 = .ok (.dup, 1) := by decide +kernel
theorem dX2_hopAt_45 : decode cX2_hopAt 45 = .ok (.ldc 124, 2) := by decide +kernel
theorem dX2_hopAt_47 : decode cX2_hopAt 47 = .ok (.invokespecial 126, 3) := by decide +kernel
theorem dX2_hopAt_50 : decode cX2_hopAt 50 = .ok (.athrow, 1) := by decide +kernel
theorem dX2_hopAt_51 : decode cX2_hopAt 51 = .ok (.aload_n 0, 1) := by decide +kernel
theorem dX2_hopAt_52 : decode cX2_hopAt 52 = .ok (.getfield 38, 3) := by decide +kernel
theorem dX2_hopAt_55 : decode cX2_hopAt 55 = .ok (.iload_n 3, 1) := by decide +kernel
theorem dX2_hopAt_56 : decode cX2_hopAt 56 = .ok (.iaload, 1) := by decide +kernel
theorem dX2_hopAt_57 : decode cX2_hopAt 57 = .ok (.ireturn, 1) := by decide +kernel
set_option maxRecDepth 20000 in
theorem ggX2_put_X2_requireIdentifier : GoodIn wsX2_put wsX2_requireIdentifier := goodIn_ca (goodIn_r _ [7, 8, 9, 6, 10, 11, 12] (by decide +kernel) (by decide +kernel)) (goodIn_sub (fun _ h => List.mem_cons_of_mem _ (List.mem_append_left _ (List.mem_append_right _ h))) (by decide +kernel))
set_option maxRecDepth 20000 in
theorem gX2_put_X2_requireIdentifier : GoodIn wsX2_put (va_wsS RX2 54 yX2_requireIdentifier wsX2_requireIdentifier) := goodIn_app (goodIn_of _ (by decide +kernel)) ggX2_put_X2_requireIdentifier
set_option maxRecDepth 20000 in
theorem ggX2_put_X2_requireRange : GoodIn wsX2_put wsX2_requireRange := goodIn_ca (goodIn_r _ [10, 11, 12] (by decide +kernel) (by decide +kernel)) (goodIn_sub (fun _ h => List.mem_cons_of_mem _ (List.mem_append_left _ (List.mem_append_right _ h))) (by decide +kernel))
set_option maxRecDepth 20000 in
theorem gX2_put_X2_requireRange : GoodIn wsX2_put (va_wsS RX2 99 yX2_requireRange wsX2_requireRange) := goodIn_app (goodIn_of _ (by decide +kernel)) ggX2_put_X2_requireRange
set_option maxRecDepth 20000 in
theorem ggX2_put_X2_requireAlive : GoodIn wsX2_put wsX2_requireAlive := goodIn_ca (goodIn_r _ [16, 17, 18, 19, 20, 21, 6, 22, 23, 70, 71, 72, 73, 74, 75, 76, 77, 78, 79, 80, 81] (by decide +kernel) (by decide +kernel)) (goodIn_sub (fun _ h => List.mem_cons_of_mem _ (List.mem_append_right _ h)) (by decide +kernel))
set_option maxRecDepth 20000 in
theorem gX2_put_X2_requireAlive : GoodIn wsX2_put (wsV RX2 78 RX2 yX2_requireAlive wsX2_requireAlive) := goodIn_app (goodIn_of _ (by decide +kernel)) ggX2_put_X2_requireAlive
set_option maxRecDepth 20000 in
theorem ggX2_put_X2_find : GoodIn wsX2_put wsX2_find := goodIn_r _ [27, 28, 29, 30, 31, 32, 6, 33, 34, 35, 36, 37, 38, 39, 40, 41, 19, 20, 21, 22, 23, 42, 43, 44, 45, 46, 47, 48, 49, 50, 51, 52, 53, 70, 71, 72, 73, 74, 75, 76, 77, 78, 79, 80, 81, 82, 83] (by decide +kernel) (by decide +kernel)
set_option maxRecDepth 20000 in
theorem gX2_put_X2_find : GoodIn wsX2_put (wsV RX2 81 RX2 yX2_find wsX2_find) := goodIn_app (goodIn_of _ (by decide +kernel)) ggX2_put_X2_find
set_option maxRecDepth 20000 in
theorem ggX2_put_X1_set : GoodIn wsX2_put wsX1_set := goodIn_r _ [57, 40, 41, 82, 83] (by decide +kernel) (by decide +kernel)
set_option maxRecDepth 20000 in
theorem gX2_put_X1_set : GoodIn wsX2_put (wsV RX2 127 RX1 yX1_set wsX1_set) := goodIn_app (goodIn_of _ (by decide +kernel)) ggX2_put_X1_set
set_option maxRecDepth 20000 in
theorem ggX2_put_X2_copyToHeirs : GoodIn wsX2_put wsX2_copyToHeirs := goodIn_r _ [61, 62, 63, 64, 6, 65, 34, 35, 36, 37, 38, 39, 40, 41, 19, 20, 21, 22, 23, 66, 67, 68, 69, 3, 2, 54, 55, 56, 57, 70, 71, 72, 73, 74, 75, 76, 77, 78, 79, 80, 81, 82, 83] (by decide +kernel) (by decide +kernel)
set_option maxRecDepth 20000 in
theorem gX2_put_X2_copyToHeirs : GoodIn wsX2_put (wsV RX2 130 RX2 yX2_copyToHeirs wsX2_copyToHeirs) := goodIn_app (goodIn_of _ (by decide +kernel)) ggX2_put_X2_copyToHeirs
theorem dX2_put_0 : decode cX2_put 0 = .ok (.iload_n 1, 1) := by decide +kernel
theorem dX2_put_1 : decode cX2_put 1 = .ok (.invokestatic 54, 3) := by decide +kernel
theorem dX2_put_4 : decode cX2_put 4 = .ok (.iload_n 2, 1) := by decide +kernel
theorem dX2_put_5 : decode cX2_put 5 = .ok (.invokestatic 54, 3) := by decide +kernel
theorem dX2_put_8 : decode cX2_put 8 = .ok (.iload_n 3, 1) := by decide +kernel
theorem dX2_put_9 : decode cX2_put 9 = .ok (.iconst 0, 1) := by decide +kernel
theorem dX2_put_10 : decode cX2_put 10 = .ok (.sipush 999, 3) := by decide +kernel
theorem dX2_put_13 : decode cX2_put 13 = .ok (.invokestatic 99, 3) := by decide +kernel
theorem dX2_put_16 : decode cX2_put 16 = .ok (.aload_n 0, 1) := by decide +kernel
theorem dX2_put_17 : decode cX2_put 17 = .ok (.iload_n 1, 1) := by decide +kernel
theorem dX2_put_18 : decode cX2_put 18 = .ok (.invokevirtual 78, 3) := by decide +kernel
theorem dX2_put_21 : decode cX2_put 21 = .ok (.aload_n 0, 1) := by decide +kernel
theorem dX2_put_22 : decode cX2_put 22 = .ok (.iload_n 1, 1) := by decide +kernel
theorem dX2_put_23 : decode cX2_put 23 = .ok (.iload_n 2, 1) := by decide +kernel
theorem dX2_put_24 : decode cX2_put 24 = .ok (.invokevirtual 81, 3) := by decide +kernel
theorem dX2_put_27 : decode cX2_put 27 = .ok (.istore 4, 2) := by decide +kernel
theorem dX2_put_29 : decode cX2_put 29 = .ok (.aload_n 0, 1) := by decide +kernel
theorem dX2_put_30 : decode cX2_put 30 = .ok (.dup, 1) := by decide +kernel
theorem dX2_put_31 : decode cX2_put 31 = .ok (.getfield 34, 3) := by decide +kernel
theorem dX2_put_34 : decode cX2_put 34 = .ok (.iconst 1, 1) := by decide +kernel
theorem dX2_put_35 : decode cX2_put 35 = .ok (.iadd, 1) := by decide +kernel
theorem dX2_put_36 : decode cX2_put 36 = .ok (.putfield 34, 3) := by decide +kernel
theorem dX2_put_39 : decode cX2_put 39 = .ok (.aload_n 0, 1) := by decide +kernel
theorem dX2_put_40 : decode cX2_put 40 = .ok (.getfield 28, 3) := by decide +kernel
theorem dX2_put_43 : decode cX2_put 43 = .ok (.iload 4, 2) := by decide +kernel
theorem dX2_put_45 : decode cX2_put 45 = .ok (.iload_n 2, 1) := by decide +kernel
theorem dX2_put_46 : decode cX2_put 46 = .ok (.iload_n 3, 1) := by decide +kernel
theorem dX2_put_47 : decode cX2_put 47 = .ok (.invokevirtual 127, 3) := by decide +kernel
theorem dX2_put_50 : decode cX2_put 50 = .ok (.aload_n 0, 1) := by decide +kernel
theorem dX2_put_51 : decode cX2_put 51 = .ok (.getfield 31, 3) := by decide +kernel
theorem dX2_put_54 : decode cX2_put 54 = .ok (.iload 4, 2) := by decide +kernel
theorem dX2_put_56 : decode cX2_put 56 = .ok (.iload_n 2, 1) := by decide +kernel
theorem dX2_put_57 : decode cX2_put 57 = .ok (.aload_n 0, 1) := by decide +kernel
theorem dX2_put_58 : decode cX2_put 58 = .ok (.getfield 34, 3) := by decide +kernel
theorem dX2_put_61 : decode cX2_put 61 = .ok (.invokevirtual 127, 3) := by decide +kernel
theorem dX2_put_64 : decode cX2_put 64 = .ok (.aload_n 0, 1) := by decide +kernel
theorem dX2_put_65 : decode cX2_put 65 = .ok (.iload 4, 2) := by decide +kernel
theorem dX2_put_67 : decode cX2_put 67 = .ok (.iload_n 2, 1) := by decide +kernel
theorem dX2_put_68 : decode cX2_put 68 = .ok (.invokevirtual 130, 3) := by decide +kernel
theorem dX2_put_71 : decode cX2_put 71 = .ok (.pop, 1) := by decide +kernel
theorem dX2_put_72 : decode cX2_put 72 = .ok (.iload 4, 2) := by decide +kernel
theorem dX2_put_74 : decode cX2_put 74 = .ok (.ireturn, 1) := by decide +kernel
set_option maxRecDepth 20000 in
theorem ggX2_get_X2_requireIdentifier : GoodIn wsX2_get wsX2_requireIdentifier := goodIn_ca (goodIn_r _ [5, 6, 7, 4, 8, 9, 10] (by decide +kernel) (by decide +kernel)) (goodIn_sub (fun _ h => List.mem_cons_of_mem _ (List.mem_append_left _ (List.mem_append_right _ h))) (by decide +kernel))
set_option maxRecDepth 20000 in
theorem gX2_get_X2_requireIdentifier : GoodIn wsX2_get (va_wsS RX2 54 yX2_requireIdentifier wsX2_requireIdentifier) := goodIn_app (goodIn_of _ (by decide +kernel)) ggX2_get_X2_requireIdentifier
set_option maxRecDepth 20000 in
theorem ggX2_get_X2_requireAlive : GoodIn wsX2_get wsX2_requireAlive := goodIn_ca (goodIn_r _ [14, 15, 16, 17, 18, 19, 4, 20, 21, 52, 53, 54, 55, 56, 57, 58, 59, 60, 61, 62, 63] (by decide +kernel) (by decide +kernel)) (goodIn_sub (fun _ h => List.mem_cons_of_mem _ (List.mem_append_right _ h)) (by decide +kernel))
set_option maxRecDepth 20000 in
theorem gX2_get_X2_requireAlive : GoodIn wsX2_get (wsV RX2 78 RX2 yX2_requireAlive wsX2_requireAlive) := goodIn_app (goodIn_of _ (by decide +kernel)) ggX2_get_X2_requireAlive
set_option maxRecDepth 20000 in
theorem ggX2_get_X2_find : GoodIn wsX2_get wsX2_find := goodIn_r _ [25, 26, 27, 28, 29, 30, 4, 31, 32, 33, 34, 35, 36, 37, 38, 39, 17, 18, 19, 20, 21, 40, 41, 42, 43, 44, 45, 46, 47, 48, 49, 50, 51, 52, 53, 54, 55, 56, 57, 58, 59, 60, 61, 62, 63, 64, 65] (by decide +kernel) (by decide +kernel)
set_option maxRecDepth 20000 in
theorem gX2_get_X2_find : GoodIn wsX2_get (wsV RX2 81 RX2 yX2_find wsX2_find) := goodIn_app (goodIn_of _ (by decide +kernel)) ggX2_get_X2_find
set_option maxRecDepth 20000 in
theorem ggX2_get_X1_at : GoodIn wsX2_get wsX1_at := goodIn_r _ [37, 38, 39, 64, 65] (by decide +kernel) (by decide +kernel)
set_option maxRecDepth 20000 in
theorem gX2_get_X1_at : GoodIn wsX2_get (wsV RX2 85 RX1 yX1_at wsX1_at) := goodIn_app (goodIn_of _ (by decide +kernel)) ggX2_get_X1_at
theorem dX2_get_0 : decode cX2_get 0 = .ok (.iload_n 1, 1) := by decide +kernel
theorem dX2_get_1 : decode cX2_get 1 = .ok (.invokestatic 54, 3) := by decide +kernel
theorem dX2_get_4 : decode cX2_get 4 = .ok (.iload_n 2, 1) := by decide +kernel
theorem dX2_get_5 : decode cX2_get 5 = .ok (.invokestatic 54, 3) := by decide +kernel
theorem dX2_get_8 : decode cX2_get 8 = .ok (.aload_n 0, 1) := by decide +kernel
theorem dX2_get_9 : decode cX2_get 9 = .ok (.iload_n 1, 1) := by decide +kernel
theorem dX2_get_10 : decode cX2_get 10 = .ok (.invokevirtual 78, 3) := by decide +kernel
theorem dX2_get_13 : decode cX2_get 13 = .ok (.aload_n 0, 1) := by decide +kernel
theorem dX2_get_14 : decode cX2_get 14 = .ok (.getfield 28, 3) := by decide +kernel
theorem dX2_get_17 : decode cX2_get 17 = .ok (.aload_n 0, 1) := by decide +kernel
theorem dX2_get_18 : decode cX2_get 18 = .ok (.iload_n 1, 1) := by decide +kernel
theorem dX2_get_19 : decode cX2_get 19 = .ok (.iload_n 2, 1) := by decide +kernel
theorem dX2_get_20 : decode cX2_get 20 = .ok (.invokevirtual 81, 3) := by decide +kernel
theorem dX2_get_23 : decode cX2_get 23 = .ok (.iload_n 2, 1) := by decide +kernel
theorem dX2_get_24 : decode cX2_get 24 = .ok (.invokevirtual 85, 3) := by decide +kernel
theorem dX2_get_27 : decode cX2_get 27 = .ok (.ireturn, 1) := by decide +kernel
set_option maxRecDepth 20000 in
theorem ggX2_kept_X2_requireIdentifier : GoodIn wsX2_kept wsX2_requireIdentifier := goodIn_ca (goodIn_r _ [5, 6, 7, 4, 8, 9, 10] (by decide +kernel) (by decide +kernel)) (goodIn_sub (fun _ h => List.mem_cons_of_mem _ (List.mem_append_left _ (List.mem_append_right _ h))) (by decide +kernel))
set_option maxRecDepth 20000 in
theorem gX2_kept_X2_requireIdentifier : GoodIn wsX2_kept (va_wsS RX2 54 yX2_requireIdentifier wsX2_requireIdentifier) := goodIn_app (goodIn_of _ (by decide +kernel)) ggX2_kept_X2_requireIdentifier
set_option maxRecDepth 20000 in
theorem ggX2_kept_X2_requireAlive : GoodIn wsX2_kept wsX2_requireAlive := goodIn_ca (goodIn_r _ [14, 15, 16, 17, 18, 19, 4, 20, 21, 29, 30, 31, 32, 33, 34, 35, 36, 37, 38, 39, 40] (by decide +kernel) (by decide +kernel)) (goodIn_sub (fun _ h => List.mem_cons_of_mem _ (List.mem_append_right _ h)) (by decide +kernel))
set_option maxRecDepth 20000 in
theorem gX2_kept_X2_requireAlive : GoodIn wsX2_kept (wsV RX2 78 RX2 yX2_requireAlive wsX2_requireAlive) := goodIn_app (goodIn_of _ (by decide +kernel)) ggX2_kept_X2_requireAlive
set_option maxRecDepth 20000 in
theorem ggX2_kept_X1_at : GoodIn wsX2_kept wsX1_at := goodIn_r _ [26, 27, 28, 41, 42] (by decide +kernel) (by decide +kernel)
set_option maxRecDepth 20000 in
theorem gX2_kept_X1_at : GoodIn wsX2_kept (wsV RX2 85 RX1 yX1_at wsX1_at) := goodIn_app (goodIn_of _ (by decide +kernel)) ggX2_kept_X1_at
theorem dX2_kept_0 : decode cX2_kept 0 = .ok (.iload_n 1, 1) := by decide +kernel
theorem dX2_kept_1 : decode cX2_kept 1 = .ok (.invokestatic 54, 3) := by decide +kernel
theorem dX2_kept_4 : decode cX2_kept 4 = .ok (.iload_n 2, 1) := by decide +kernel
theorem dX2_kept_5 : decode cX2_kept 5 = .ok (.invokestatic 54, 3) := by decide +kernel
theorem dX2_kept_8 : decode cX2_kept 8 = .ok (.aload_n 0, 1) := by decide +kernel
theorem dX2_kept_9 : decode cX2_kept 9 = .ok (.iload_n 1, 1) := by decide +kernel
theorem dX2_kept_10 : decode cX2_kept 10 = .ok (.invokevirtual 78, 3) := by decide +kernel
theorem dX2_kept_13 : decode cX2_kept 13 = .ok (.aload_n 0, 1) := by decide +kernel
theorem dX2_kept_14 : decode cX2_kept 14 = .ok (.getfield 28, 3) := by decide +kernel
theorem dX2_kept_17 : decode cX2_kept 17 = .ok (.iload_n 1, 1) := by decide +kernel
theorem dX2_kept_18 : decode cX2_kept 18 = .ok (.iload_n 2, 1) := by decide +kernel
theorem dX2_kept_19 : decode cX2_kept 19 = .ok (.invokevirtual 85, 3) := by decide +kernel
theorem dX2_kept_22 : decode cX2_kept 22 = .ok (.ireturn, 1) := by decide +kernel
set_option maxRecDepth 20000 in
theorem ggX2_keepers_X2_requireIdentifier : GoodIn wsX2_keepers wsX2_requireIdentifier := goodIn_ca (goodIn_r _ [5, 6, 7, 4, 8, 9, 10] (by decide +kernel) (by decide +kernel)) (goodIn_sub (fun _ h => List.mem_cons_of_mem _ (List.mem_append_right _ h)) (by decide +kernel))
set_option maxRecDepth 20000 in
theorem gX2_keepers_X2_requireIdentifier : GoodIn wsX2_keepers (va_wsS RX2 54 yX2_requireIdentifier wsX2_requireIdentifier) := goodIn_app (goodIn_of _ (by decide +kernel)) ggX2_keepers_X2_requireIdentifier
set_option maxRecDepth 20000 in
theorem ggX2_keepers_X2_isAlive : GoodIn wsX2_keepers wsX2_isAlive := goodIn_r _ [14, 15, 23, 24, 25, 26, 27, 28, 29, 30, 31, 32, 33, 34] (by decide +kernel) (by decide +kernel)
set_option maxRecDepth 20000 in
theorem gX2_keepers_X2_isAlive : GoodIn wsX2_keepers (wsV RX2 72 RX2 yX2_isAlive wsX2_isAlive) := goodIn_app (goodIn_of _ (by decide +kernel)) ggX2_keepers_X2_isAlive
set_option maxRecDepth 20000 in
theorem ggX2_keepers_X1_at : GoodIn wsX2_keepers wsX1_at := goodIn_r _ [20, 21, 22, 35, 36] (by decide +kernel) (by decide +kernel)
set_option maxRecDepth 20000 in
theorem gX2_keepers_X1_at : GoodIn wsX2_keepers (wsV RX2 85 RX1 yX1_at wsX1_at) := goodIn_app (goodIn_of _ (by decide +kernel)) ggX2_keepers_X1_at
theorem dX2_keepers_0 : decode cX2_keepers 0 = .ok (.iload_n 1, 1) := by decide +kernel
theorem dX2_keepers_1 : decode cX2_keepers 1 = .ok (.invokestatic 54, 3) := by decide +kernel
theorem dX2_keepers_4 : decode cX2_keepers 4 = .ok (.iconst 0, 1) := by decide +kernel
theorem dX2_keepers_5 : decode cX2_keepers 5 = .ok (.istore_n 2, 1) := by decide +kernel
theorem dX2_keepers_6 : decode cX2_keepers 6 = .ok (.iconst 0, 1) := by decide +kernel
theorem dX2_keepers_7 : decode cX2_keepers 7 = .ok (.istore_n 3, 1) := by decide +kernel
theorem dX2_keepers_8 : decode cX2_keepers 8 = .ok (.iload_n 3, 1) := by decide +kernel
theorem dX2_keepers_9 : decode cX2_keepers 9 = .ok (.bipush 64, 2) := by decide +kernel
theorem dX2_keepers_11 : decode cX2_keepers 11 = .ok (.if_icmp .ge 33, 3) := by decide +kernel
theorem dX2_keepers_14 : decode cX2_keepers 14 = .ok (.aload_n 0, 1) := by decide +kernel
theorem dX2_keepers_15 : decode cX2_keepers 15 = .ok (.iload_n 3, 1) := by decide +kernel
theorem dX2_keepers_16 : decode cX2_keepers 16 = .ok (.invokevirtual 72, 3) := by decide +kernel
theorem dX2_keepers_19 : decode cX2_keepers 19 = .ok (.ifCond .eq 19, 3) := by decide +kernel
theorem dX2_keepers_22 : decode cX2_keepers 22 = .ok (.aload_n 0, 1) := by decide +kernel
theorem dX2_keepers_23 : decode cX2_keepers 23 = .ok (.getfield 28, 3) := by decide +kernel
theorem dX2_keepers_26 : decode cX2_keepers 26 = .ok (.iload_n 3, 1) := by decide +kernel
theorem dX2_keepers_27 : decode cX2_keepers 27 = .ok (.iload_n 1, 1) := by decide +kernel
theorem dX2_keepers_28 : decode cX2_keepers 28 = .ok (.invokevirtual 85, 3) := by decide +kernel
theorem dX2_keepers_31 : decode cX2_keepers 31 = .ok (.iconst (-1), 1) := by decide +kernel
theorem dX2_keepers_32 : decode cX2_keepers 32 = .ok (.if_icmp .eq 6, 3) := by decide +kernel
theorem dX2_keepers_35 : decode cX2_keepers 35 = .ok (.iinc 2 1, 3) := by decide +kernel
theorem dX2_keepers_38 : decode cX2_keepers 38 = .ok (.iinc 3 1, 3) := by decide +kernel
theorem dX2_keepers_41 : decode cX2_keepers 41 = .ok (.goto (-33), 3) := by decide +kernel
theorem dX2_keepers_44 : decode cX2_keepers 44 = .ok (.iload_n 2, 1) := by decide +kernel
theorem dX2_keepers_45 : decode cX2_keepers 45 = .ok (.ireturn, 1) := by decide +kernel
set_option maxRecDepth 20000 in
theorem ggX2_owner_X2_requireIdentifier : GoodIn wsX2_owner wsX2_requireIdentifier := goodIn_ca (goodIn_r _ [4, 5, 6, 3, 7, 8, 9] (by decide +kernel) (by decide +kernel)) (goodIn_sub (fun _ h => List.mem_cons_of_mem _ (List.mem_append_right _ h)) (by decide +kernel))
set_option maxRecDepth 20000 in
theorem gX2_owner_X2_requireIdentifier : GoodIn wsX2_owner (va_wsS RX2 54 yX2_requireIdentifier wsX2_requireIdentifier) := goodIn_app (goodIn_of _ (by decide +kernel)) ggX2_owner_X2_requireIdentifier
set_option maxRecDepth 20000 in
theorem ggX2_owner_X2_firstLivingUpFrom : GoodIn wsX2_owner wsX2_firstLivingUpFrom := goodIn_r _ [13, 14, 15, 16, 17, 18, 19, 20, 3, 21, 22, 23, 24, 25, 26, 27, 28, 29, 30, 31, 32, 33, 34] (by decide +kernel) (by decide +kernel)
set_option maxRecDepth 20000 in
theorem gX2_owner_X2_firstLivingUpFrom : GoodIn wsX2_owner (wsV RX2 133 RX2 yX2_firstLivingUpFrom wsX2_firstLivingUpFrom) := goodIn_app (goodIn_of _ (by decide +kernel)) ggX2_owner_X2_firstLivingUpFrom
theorem dX2_owner_0 : decode cX2_owner 0 = .ok (.iload_n 1, 1) := by decide +kernel
theorem dX2_owner_1 : decode cX2_owner 1 = .ok (.invokestatic 54, 3) := by decide +kernel
theorem dX2_owner_4 : decode cX2_owner 4 = .ok (.aload_n 0, 1) := by decide +kernel
theorem dX2_owner_5 : decode cX2_owner 5 = .ok (.iload_n 1, 1) := by decide +kernel
theorem dX2_owner_6 : decode cX2_owner 6 = .ok (.invokevirtual 133, 3) := by decide +kernel
theorem dX2_owner_9 : decode cX2_owner 9 = .ok (.ireturn, 1) := by decide +kernel
set_option maxRecDepth 20000 in
theorem ggX2_wrongPointers_X2_countWrongPointers : GoodIn wsX2_wrongPointers wsX2_countWrongPointers := goodIn_r _ [5, 6, 7, 8, 4, 9, 10, 11, 12, 13, 14, 15, 16, 17, 18, 19, 20, 21, 22, 23, 24, 25, 26, 27, 28, 29, 30, 31, 32, 33, 34, 35, 36, 37, 38, 39, 40, 41, 42, 43, 44, 45, 46, 47, 48, 49, 50, 51, 52, 53, 54, 55, 56, 57, 58] (by decide +kernel) (by decide +kernel)
set_option maxRecDepth 20000 in
theorem gX2_wrongPointers_X2_countWrongPointers : GoodIn wsX2_wrongPointers (wsV RX2 119 RX2 yX2_countWrongPointers wsX2_countWrongPointers) := goodIn_app (goodIn_of _ (by decide +kernel)) ggX2_wrongPointers_X2_countWrongPointers
theorem dX2_wrongPointers_0 : decode cX2_wrongPointers 0 = .ok (.aload_n 0, 1) := by decide +kernel
theorem dX2_wrongPointers_1 : decode cX2_wrongPointers 1 = .ok (.invokevirtual 119, 3) := by decide +kernel
theorem dX2_wrongPointers_4 : decode cX2_wrongPointers 4 = .ok (.ireturn, 1) := by decide +kernel
set_option maxRecDepth 20000 in
theorem ggX2_roundsToRight_X2_requireRange : GoodIn wsX2_roundsToRight wsX2_requireRange := goodIn_ca (goodIn_r _ [4, 5, 6] (by decide +kernel) (by decide +kernel)) (goodIn_sub (fun _ h => List.mem_cons_of_mem _ (List.mem_append_right _ h)) (by decide +kernel))
set_option maxRecDepth 20000 in
theorem gX2_roundsToRight_X2_requireRange : GoodIn wsX2_roundsToRight (va_wsS RX2 99 yX2_requireRange wsX2_requireRange) := goodIn_app (goodIn_of _ (by decide +kernel)) ggX2_roundsToRight_X2_requireRange
set_option maxRecDepth 20000 in
theorem ggX2_roundsToRight_X2_layPointersAside : GoodIn wsX2_roundsToRight wsX2_layPointersAside := goodIn_r _ [10, 11, 12, 13, 14, 15, 16, 17, 18, 19, 20, 21, 22, 23, 24, 25, 26, 27, 28, 29, 30, 143, 144, 145, 146, 147, 148, 149, 150, 151, 152, 153, 154, 155, 156] (by decide +kernel) (by decide +kernel)
set_option maxRecDepth 20000 in
theorem gX2_roundsToRight_X2_layPointersAside : GoodIn wsX2_roundsToRight (wsV RX2 136 RX2 yX2_layPointersAside wsX2_layPointersAside) := goodIn_app (goodIn_of _ (by decide +kernel)) ggX2_roundsToRight_X2_layPointersAside
set_option maxRecDepth 20000 in
theorem ggX2_roundsToRight_X2_countWrongPointers : GoodIn wsX2_roundsToRight wsX2_countWrongPointers := goodIn_r _ [34, 35, 36, 37, 3, 38, 39, 40, 41, 42, 43, 14, 16, 44, 45, 46, 47, 12, 48, 49, 50, 20, 51, 52, 22, 53, 54, 55, 56, 57, 58, 59, 60, 61, 62, 63, 64, 65, 66, 67, 68, 143, 144, 145, 146, 147, 148, 149, 150, 151, 152, 153, 154, 155, 156] (by decide +kernel) (by decide +kernel)
set_option maxRecDepth 20000 in
theorem gX2_roundsToRight_X2_countWrongPointers : GoodIn wsX2_roundsToRight (wsV RX2 119 RX2 yX2_countWrongPointers wsX2_countWrongPointers) := goodIn_app (goodIn_of _ (by decide +kernel)) ggX2_roundsToRight_X2_countWrongPointers
set_option maxRecDepth 20000 in
theorem ggX2_roundsToRight_X2_letRoundGoBy : GoodIn wsX2_roundsToRight wsX2_letRoundGoBy := goodIn_r _ [72, 35, 36, 37, 3, 38, 39, 73, 74, 75, 76, 14, 48, 49, 50, 20, 51, 52, 22, 77, 78, 79, 80, 81, 82, 83, 84, 44, 45, 46, 47, 12, 85, 86, 55, 87, 88, 89, 90, 91, 92, 93, 94, 95, 96, 97, 98, 99, 100, 101, 102, 103, 16, 65, 66, 67, 68, 54, 56, 104, 105, 106, 107, 108, 109, 110, 111, 112, 113, 114, 115, 116, 117, 118, 119, 120, 121, 122, 123, 124, 125, 126, 127, 128, 129, 130, 131, 132, 133, 134, 135, 136, 137, 138, 143, 144, 145, 146, 147, 148, 149, 150, 151, 152, 153, 154, 155, 156] (by decide +kernel) (by decide +kernel)
set_option maxRecDepth 20000 in
theorem gX2_roundsToRight_X2_letRoundGoBy : GoodIn wsX2_roundsToRight (wsV RX2 115 RX2 yX2_letRoundGoBy wsX2_letRoundGoBy) := goodIn_app (goodIn_of _ (by decide +kernel)) ggX2_roundsToRight_X2_letRoundGoBy
set_option maxRecDepth 20000 in
theorem ggX2_roundsToRight_X2_takePointersBack : GoodIn wsX2_roundsToRight wsX2_takePointersBack := goodIn_r _ [142, 12, 11, 14, 13, 16, 15, 17, 18, 19, 20, 21, 22, 23, 24, 25, 26, 27, 28, 29, 30, 143, 144, 145, 146, 147, 148, 149, 150, 151, 152, 153, 154, 155, 156] (by decide +kernel) (by decide +kernel)
set_option maxRecDepth 20000 in
theorem gX2_roundsToRight_X2_takePointersBack : GoodIn wsX2_roundsToRight (wsV RX2 139 RX2 yX2_takePointersBack wsX2_takePointersBack) := goodIn_app (goodIn_of _ (by decide +kernel)) ggX2_roundsToRight_X2_takePointersBack
theorem dX2_roundsToRight_0 : decode cX2_roundsToRight 0 = .ok (.iload_n 1, 1) := by decide +kernel
theorem dX2_roundsToRight_1 : decode cX2_roundsToRight 1 = .ok (.iconst 1, 1) := by decide +kernel
theorem dX2_roundsToRight_2 : decode cX2_roundsToRight 2 = .ok (.bipush 30, 2) := by decide +kernel
theorem dX2_roundsToRight_4 : decode cX2_roundsToRight 4 = .ok (.invokestatic 99, 3) := by decide +kernel
theorem dX2_roundsToRight_7 : decode cX2_roundsToRight 7 = .ok (.aload_n 0, 1) := by decide +kernel
theorem dX2_roundsToRight_8 : decode cX2_roundsToRight 8 = .ok (.invokevirtual 136, 3) := by decide +kernel
theorem dX2_roundsToRight_11 : decode cX2_roundsToRight 11 = .ok (.iconst 0, 1) := by decide +kernel
theorem dX2_roundsToRight_12 : decode cX2_roundsToRight 12 = .ok (.istore_n 2, 1) := by decide +kernel
theorem dX2_roundsToRight_13 : decode cX2_roundsToRight 13 = .ok (.iload_n 2, 1) := by decide +kernel
theorem dX2_roundsToRight_14 : decode cX2_roundsToRight 14 = .ok (.iload_n 1, 1) := by decide +kernel
theorem dX2_roundsToRight_15 : decode cX2_roundsToRight 15 = .ok (.if_icmp .gt 21, 3) := by decide +kernel
theorem dX2_roundsToRight_18 : decode cX2_roundsToRight 18 = .ok (.aload_n 0, 1) := by decide +kernel
theorem dX2_roundsToRight_19 : decode cX2_roundsToRight 19 = .ok (.invokevirtual 119, 3) := by decide +kernel
theorem dX2_roundsToRight_22 : decode cX2_roundsToRight 22 = .ok (.ifCond .le 14, 3) := by decide +kernel
theorem dX2_roundsToRight_25 : decode cX2_roundsToRight 25 = .ok (.aload_n 0, 1) := by decide +kernel
theorem dX2_roundsToRight_26 : decode cX2_roundsToRight 26 = .ok (.iconst 0, 1) := by decide +kernel
theorem dX2_roundsToRight_27 : decode cX2_roundsToRight 27 = .ok (.invokevirtual 115, 3) := by decide +kernel
theorem dX2_roundsToRight_30 : decode cX2_roundsToRight 30 = .ok (.iinc 2 1, 3) := by decide +kernel
theorem dX2_roundsToRight_33 : decode cX2_roundsToRight 33 = .ok (.goto (-20), 3) := by decide +kernel
theorem dX2_roundsToRight_36 : decode cX2_roundsToRight 36 = .ok (.aload_n 0, 1) := by decide +kernel
theorem dX2_roundsToRight_37 : decode cX2_roundsToRight 37 = .ok (.invokevirtual 139, 3) := by decide +kernel
theorem dX2_roundsToRight_40 : decode cX2_roundsToRight 40 = .ok (.iload_n 2, 1) := by decide +kernel
theorem dX2_roundsToRight_41 : decode cX2_roundsToRight 41 = .ok (.iload_n 1, 1) := by decide +kernel
theorem dX2_roundsToRight_42 : decode cX2_roundsToRight 42 = .ok (.if_icmp .gt 7, 3) := by decide +kernel
theorem dX2_roundsToRight_45 : decode cX2_roundsToRight 45 = .ok (.iload_n 2, 1) := by decide +kernel
theorem dX2_roundsToRight_46 : decode cX2_roundsToRight 46 = .ok (.goto 4, 3) := by decide +kernel
theorem dX2_roundsToRight_49 : decode cX2_roundsToRight 49 = .ok (.iconst (-1), 1) := by decide +kernel
theorem dX2_roundsToRight_50 : decode cX2_roundsToRight 50 = .ok (.ireturn, 1) := by decide +kernel
theorem dX2_requireRange_0 : decode cX2_requireRange 0 = .ok (.iload_n 0, 1) := by decide +kernel
theorem dX2_requireRange_1 : decode cX2_requireRange 1 = .ok (.iload_n 1, 1) := by decide +kernel
theorem dX2_requireRange_2 : decode cX2_requireRange 2 = .ok (.if_icmp .lt 8, 3) := by decide +kernel
theorem dX2_requireRange_5 : decode cX2_requireRange 5 = .ok (.iload_n 0, 1) := by decide +kernel
theorem dX2_requireRange_6 : decode cX2_requireRange 6 = .ok (.iload_n 2, 1) := by decide +kernel
theorem dX2_requireRange_7 : decode cX2_requireRange 7 = .ok (.if_icmp .le 13, 3) := by decide +kernel
theorem dX2_requireRange_10 : decode cX2_requireRange 10 = .ok (.new 142, 3) := by decide +kernel
theorem dX2_requireRange_13 : decode cX2_requireRange 13 = .ok (.dup, 1) := by decide +kernel
theorem dX2_requireRange_14 : decode cX2_requireRange 14 = .ok (.ldc 144, 2) := by decide +kernel
theorem dX2_requireRange_16 : decode cX2_requireRange 16 = .ok (.invokespecial 146, 3) := by decide +kernel
theorem dX2_requireRange_19 : decode cX2_requireRange 19 = .ok (.athrow, 1) := by decide +kernel
theorem dX2_requireRange_20 : decode cX2_requireRange 20 = .ok (.return_, 1) := by decide +kernel
set_option maxRecDepth 20000 in
theorem ggX2_requireIdentifier_X2_requireRange : GoodIn wsX2_requireIdentifier wsX2_requireRange := goodIn_ca (goodIn_r _ [4, 5, 6] (by decide +kernel) (by decide +kernel)) (goodIn_sub (fun _ h => List.mem_cons_of_mem _ (List.mem_append_right _ h)) (by decide +kernel))
set_option maxRecDepth 20000 in
theorem gX2_requireIdentifier_X2_requireRange : GoodIn wsX2_requireIdentifier (va_wsS RX2 99 yX2_requireRange wsX2_requireRange) := goodIn_app (goodIn_of _ (by decide +kernel)) ggX2_requireIdentifier_X2_requireRange
theorem dX2_requireIdentifier_0 : decode cX2_requireIdentifier 0 = .ok (.iload_n 0, 1) := by decide +kernel
theorem dX2_requireIdentifier_1 : decode cX2_requireIdentifier 1 = .ok (.iconst 0, 1) := by decide +kernel
theorem dX2_requireIdentifier_2 : decode cX2_requireIdentifier 2 = .ok (.bipush 63, 2) := by decide +kernel
theorem dX2_requireIdentifier_4 : decode cX2_requireIdentifier 4 = .ok (.invokestatic 99, 3) := by decide +kernel
theorem dX2_requireIdentifier_7 : decode cX2_requireIdentifier 7 = .ok (.return_, 1) := by decide +kernel
set_option maxRecDepth 20000 in
theorem ggX2_requireAlive_X2_isAlive : GoodIn wsX2_requireAlive wsX2_isAlive := goodIn_r _ [7, 8, 9, 10, 11, 12, 13, 14, 15, 16, 17, 18, 19, 20] (by decide +kernel) (by decide +kernel)
set_option maxRecDepth 20000 in
theorem gX2_requireAlive_X2_isAlive : GoodIn wsX2_requireAlive (wsV RX2 72 RX2 yX2_isAlive wsX2_isAlive) := goodIn_app (goodIn_of _ (by decide +kernel)) ggX2_requireAlive_X2_isAlive
theorem dX2_requireAlive_0 : decode cX2_requireAlive 0 = .ok (.aload_n 0, 1) := by decide +kernel
theorem dX2_requireAlive_1 : decode cX2_requireAlive 1 = .ok (.iload_n 1, 1) := by decide +kernel
theorem dX2_requireAlive_2 : decode cX2_requireAlive 2 = .ok (.invokevirtual 72, 3) := by decide +kernel
theorem dX2_requireAlive_5 : decode cX2_requireAlive 5 = .ok (.ifCond .ne 13, 3) := by decide +kernel
theorem dX2_requireAlive_8 : decode cX2_requireAlive 8 = .ok (.new 61, 3) := by decide +kernel
theorem dX2_requireAlive_11 : decode cX2_requireAlive 11 = .ok (.dup, 1) := by decide +kernel
theorem dX2_requireAlive_12 : decode cX2_requireAlive 12 = .ok (.ldc 147, 2) := by decide +kernel
theorem dX2_requireAlive_14 : decode cX2_requireAlive 14 = .ok (.invokespecial 65, 3) := by decide +kernel
theorem dX2_requireAlive_17 : decode cX2_requireAlive 17 = .ok (.athrow, 1) := by decide +kernel
theorem dX2_requireAlive_18 : decode cX2_requireAlive 18 = .ok (.return_, 1) := by decide +kernel
theorem dX2_isAlive_0 : decode cX2_isAlive 0 = .ok (.iload_n 1, 1) := by decide +kernel
theorem dX2_isAlive_1 : decode cX2_isAlive 1 = .ok (.ifCond .lt 25, 3) := by decide +kernel
theorem dX2_isAlive_4 : decode cX2_isAlive 4 = .ok (.iload_n 1, 1) := by decide +kernel
theorem dX2_isAlive_5 : decode cX2_isAlive 5 = .ok (.aload_n 0, 1) := by decide +kernel
theorem dX2_isAlive_6 : decode cX2_isAlive 6 = .ok (.getfield 9, 3) := by decide +kernel
theorem dX2_isAlive_9 : decode cX2_isAlive 9 = .ok (.arraylength, 1) := by decide +kernel
theorem dX2_isAlive_10 : decode cX2_isAlive 10 = .ok (.if_icmp .ge 16, 3) := by decide +kernel
theorem dX2_isAlive_13 : decode cX2_isAlive 13 = .ok (.aload_n 0, 1) := by decide +kernel
theorem dX2_isAlive_14 : decode cX2_isAlive 14 = .ok (.getfield 9, 3) := by decide +kernel
theorem dX2_isAlive_17 : decode cX2_isAlive 17 = .ok (.iload_n 1, 1) := by decide +kernel
theorem dX2_isAlive_18 : decode cX2_isAlive 18 = .ok (.baload, 1) := by decide +kernel
theorem dX2_isAlive_19 : decode cX2_isAlive 19 = .ok (.ifCond .eq 7, 3) := by decide +kernel
theorem dX2_isAlive_22 : decode cX2_isAlive 22 = .ok (.iconst 1, 1) := by decide +kernel
theorem dX2_isAlive_23 : decode cX2_isAlive 23 = .ok (.goto 4, 3) := by decide +kernel
theorem dX2_isAlive_26 : decode cX2_isAlive 26 = .ok (.iconst 0, 1) := by decide +kernel
theorem dX2_isAlive_27 : decode cX2_isAlive 27 = .ok (.ireturn, 1) := by decide +kernel
theorem dX2_setAlive_0 : decode cX2_setAlive 0 = .ok (.iload_n 1, 1) := by decide +kernel
theorem dX2_setAlive_1 : decode cX2_setAlive 1 = .ok (.ifCond .lt 19, 3) := by decide +kernel
theorem dX2_setAlive_4 : decode cX2_setAlive 4 = .ok (.iload_n 1, 1) := by decide +kernel
theorem dX2_setAlive_5 : decode cX2_setAlive 5 = .ok (.aload_n 0, 1) := by decide +kernel
theorem dX2_setAlive_6 : decode cX2_setAlive 6 = .ok (.getfield 9, 3) := by decide +kernel
theorem dX2_setAlive_9 : decode cX2_setAlive 9 = .ok (.arraylength, 1) := by decide +kernel
theorem dX2_setAlive_10 : decode cX2_setAlive 10 = .ok (.if_icmp .ge 10, 3) := by decide +kernel
theorem dX2_setAlive_13 : decode cX2_setAlive 13 = .ok (.aload_n 0, 1) := by decide +kernel
theorem dX2_setAlive_14 : decode cX2_setAlive 14 = .ok (.getfield 9, 3) := by decide +kernel
theorem dX2_setAlive_17 : decode cX2_setAlive 17 = .ok (.iload_n 1, 1) := by decide +kernel
theorem dX2_setAlive_18 : decode cX2_setAlive 18 = .ok (.iload_n 2, 1) := by decide +kernel
theorem dX2_setAlive_19 : decode cX2_setAlive 19 = .ok (.bastore, 1) := by decide +kernel
theorem dX2_setAlive_20 : decode cX2_setAlive 20 = .ok (.return_, 1) := by decide +kernel
set_option maxRecDepth 20000 in
theorem ggX2_countLiving_X2_isAlive : GoodIn wsX2_countLiving wsX2_isAlive := goodIn_r _ [5, 6, 7, 8, 9, 10, 11, 12, 13, 14, 15, 16, 17, 18] (by decide +kernel) (by decide +kernel)
set_option maxRecDepth 20000 in
theorem gX2_countLiving_X2_isAlive : GoodIn wsX2_countLiving (wsV RX2 72 RX2 yX2_isAlive wsX2_isAlive) := goodIn_app (goodIn_of _ (by decide +kernel)) ggX2_countLiving_X2_isAlive
theorem dX2_countLiving_0 : decode cX2_countLiving 0 = .ok (.iconst 0, 1) := by decide +kernel
theorem dX2_countLiving_1 : decode cX2_countLiving 1 = .ok (.istore_n 1, 1) := by decide +kernel
theorem dX2_countLiving_2 : decode cX2_countLiving 2 = .ok (.iconst 0, 1) := by decide +kernel
theorem dX2_countLiving_3 : decode cX2_countLiving 3 = .ok (.istore_n 2, 1) := by decide +kernel
theorem dX2_countLiving_4 : decode cX2_countLiving 4 = .ok (.iload_n 2, 1) := by decide +kernel
theorem dX2_countLiving_5 : decode cX2_countLiving 5 = .ok (.bipush 64, 2) := by decide +kernel
theorem dX2_countLiving_7 : decode cX2_countLiving 7 = .ok (.if_icmp .ge 20, 3) := by decide +kernel
theorem dX2_countLiving_10 : decode cX2_countLiving 10 = .ok (.aload_n 0, 1) := by decide +kernel
theorem dX2_countLiving_11 : decode cX2_countLiving 11 = .ok (.iload_n 2, 1) := by decide +kernel
theorem dX2_countLiving_12 : decode cX2_countLiving 12 = .ok (.invokevirtual 72, 3) := by decide +kernel
theorem dX2_countLiving_15 : decode cX2_countLiving 15 = .ok (.ifCond .eq 6, 3) := by decide +kernel
theorem dX2_countLiving_18 : decode cX2_countLiving 18 = .ok (.iinc 1 1, 3) := by decide +kernel
theorem dX2_countLiving_21 : decode cX2_countLiving 21 = .ok (.iinc 2 1, 3) := by decide +kernel
theorem dX2_countLiving_24 : decode cX2_countLiving 24 = .ok (.goto (-20), 3) := by decide +kernel
theorem dX2_countLiving_27 : decode cX2_countLiving 27 = .ok (.iload_n 1, 1) := by decide +kernel
theorem dX2_countLiving_28 : decode cX2_countLiving 28 = .ok (.ireturn, 1) := by decide +kernel
set_option maxRecDepth 20000 in
theorem ggX2_beginLife_X2_setSuccessors : GoodIn wsX2_beginLife wsX2_setSuccessors := goodIn_r _ [9, 10, 11, 12, 13, 14, 15, 16, 17, 28, 29, 30, 31, 32, 33, 34, 35, 36, 37, 38, 39, 40, 41] (by decide +kernel) (by decide +kernel)
set_option maxRecDepth 20000 in
theorem gX2_beginLife_X2_setSuccessors : GoodIn wsX2_beginLife (wsV RX2 149 RX2 yX2_setSuccessors wsX2_setSuccessors) := goodIn_app (goodIn_of _ (by decide +kernel)) ggX2_beginLife_X2_setSuccessors
set_option maxRecDepth 20000 in
theorem ggX2_beginLife_X1_clear : GoodIn wsX2_beginLife wsX1_clear := goodIn_r _ [21, 16, 22, 12, 13, 14, 15, 17, 40, 41] (by decide +kernel) (by decide +kernel)
set_option maxRecDepth 20000 in
theorem gX2_beginLife_X1_clear : GoodIn wsX2_beginLife (wsV RX2 152 RX1 yX1_clear wsX1_clear) := goodIn_app (goodIn_of _ (by decide +kernel)) ggX2_beginLife_X1_clear
set_option maxRecDepth 20000 in
theorem ggX2_beginLife_X2_setAlive : GoodIn wsX2_beginLife wsX2_setAlive := goodIn_r _ [26, 27, 28, 29, 30, 31, 32, 33, 34, 35, 36, 37, 38, 39] (by decide +kernel) (by decide +kernel)
set_option maxRecDepth 20000 in
theorem gX2_beginLife_X2_setAlive : GoodIn wsX2_beginLife (wsV RX2 155 RX2 yX2_setAlive wsX2_setAlive) := goodIn_app (goodIn_of _ (by decide +kernel)) ggX2_beginLife_X2_setAlive
theorem dX2_beginLife_0 : decode cX2_beginLife 0 = .ok (.aload_n 0, 1) := by decide +kernel
theorem dX2_beginLife_1 : decode cX2_beginLife 1 = .ok (.iload_n 1, 1) := by decide +kernel
theorem dX2_beginLife_2 : decode cX2_beginLife 2 = .ok (.iload_n 2, 1) := by decide +kernel
theorem dX2_beginLife_3 : decode cX2_beginLife 3 = .ok (.iload_n 3, 1) := by decide +kernel
theorem dX2_beginLife_4 : decode cX2_beginLife 4 = .ok (.iload 4, 2) := by decide +kernel
theorem dX2_beginLife_6 : decode cX2_beginLife 6 = .ok (.invokevirtual 149, 3) := by decide +kernel
theorem dX2_beginLife_9 : decode cX2_beginLife 9 = .ok (.aload_n 0, 1) := by decide +kernel
theorem dX2_beginLife_10 : decode cX2_beginLife 10 = .ok (.getfield 22, 3) := by decide +kernel
theorem dX2_beginLife_13 : decode cX2_beginLife 13 = .ok (.iload_n 1, 1) := by decide +kernel
theorem dX2_beginLife_14 : decode cX2_beginLife 14 = .ok (.invokevirtual 152, 3) := by decide +kernel
theorem dX2_beginLife_17 : decode cX2_beginLife 17 = .ok (.aload_n 0, 1) := by decide +kernel
theorem dX2_beginLife_18 : decode cX2_beginLife 18 = .ok (.getfield 25, 3) := by decide +kernel
theorem dX2_beginLife_21 : decode cX2_beginLife 21 = .ok (.iload_n 1, 1) := by decide +kernel
theorem dX2_beginLife_22 : decode cX2_beginLife 22 = .ok (.invokevirtual 152, 3) := by decide +kernel
theorem dX2_beginLife_25 : decode cX2_beginLife 25 = .ok (.aload_n 0, 1) := by decide +kernel
theorem dX2_beginLife_26 : decode cX2_beginLife 26 = .ok (.getfield 28, 3) := by decide +kernel
theorem dX2_beginLife_29 : decode cX2_beginLife 29 = .ok (.iload_n 1, 1) := by decide +kernel
theorem dX2_beginLife_30 : decode cX2_beginLife 30 = .ok (.invokevirtual 152, 3) := by decide +kernel
theorem dX2_beginLife_33 : decode cX2_beginLife 33 = .ok (.aload_n 0, 1) := by decide +kernel
theorem dX2_beginLife_34 : decode cX2_beginLife 34 = .ok (.getfield 31, 3) := by decide +kernel
theorem dX2_beginLife_37 : decode cX2_beginLife 37 = .ok (.iload_n 1, 1) := by decide +kernel
theorem dX2_beginLife_38 : decode cX2_beginLife 38 = .ok (.invokevirtual 152, 3) := by decide +kernel
theorem dX2_beginLife_41 : decode cX2_beginLife 41 = .ok (.aload_n 0, 1) := by decide +kernel
theorem dX2_beginLife_42 : decode cX2_beginLife 42 = .ok (.iload_n 1, 1) := by decide +kernel
theorem dX2_beginLife_43 : decode cX2_beginLife 43 = .ok (.iconst 1, 1) := by decide +kernel
theorem dX2_beginLife_44 : decode cX2_beginLife 44 = .ok (.invokevirtual 155, 3) := by decide +kernel
theorem dX2_beginLife_47 : decode cX2_beginLife 47 = .ok (.return_, 1) := by decide +kernel
set_option maxRecDepth 20000 in
theorem ggX2_endLife_X2_setAlive : GoodIn wsX2_endLife wsX2_setAlive := goodIn_r _ [5, 6, 7, 8, 9, 10, 11, 12, 13, 14, 15, 16, 17, 18] (by decide +kernel) (by decide +kernel)
set_option maxRecDepth 20000 in
theorem gX2_endLife_X2_setAlive : GoodIn wsX2_endLife (wsV RX2 155 RX2 yX2_setAlive wsX2_setAlive) := goodIn_app (goodIn_of _ (by decide +kernel)) ggX2_endLife_X2_setAlive
theorem dX2_endLife_0 : decode cX2_endLife 0 = .ok (.aload_n 0, 1) := by decide +kernel
theorem dX2_endLife_1 : decode cX2_endLife 1 = .ok (.iload_n 1, 1) := by decide +kernel
theorem dX2_endLife_2 : decode cX2_endLife 2 = .ok (.iconst 0, 1) := by decide +kernel
theorem dX2_endLife_3 : decode cX2_endLife 3 = .ok (.invokevirtual 155, 3) := by decide +kernel
theorem dX2_endLife_6 : decode cX2_endLife 6 = .ok (.return_, 1) := by decide +kernel
set_option maxRecDepth 20000 in
theorem ggX2_handOver_X2_giveCopy : GoodIn wsX2_handOver wsX2_giveCopy := goodIn_r _ [6, 7, 8, 9, 10, 11, 12, 13, 14, 15, 16, 17, 18, 19, 34, 35, 36, 37, 38, 39, 40, 41, 42, 43, 44, 45, 46, 47] (by decide +kernel) (by decide +kernel)
set_option maxRecDepth 20000 in
theorem gX2_handOver_X2_giveCopy : GoodIn wsX2_handOver (wsV RX2 159 RX2 yX2_giveCopy wsX2_giveCopy) := goodIn_app (goodIn_of _ (by decide +kernel)) ggX2_handOver_X2_giveCopy
set_option maxRecDepth 20000 in
theorem ggX2_handOver_X1_at : GoodIn wsX2_handOver wsX1_at := goodIn_r _ [13, 14, 15, 46, 47] (by decide +kernel) (by decide +kernel)
set_option maxRecDepth 20000 in
theorem gX2_handOver_X1_at : GoodIn wsX2_handOver (wsV RX2 85 RX1 yX1_at wsX1_at) := goodIn_app (goodIn_of _ (by decide +kernel)) ggX2_handOver_X1_at
set_option maxRecDepth 20000 in
theorem ggX2_handOver_X1_set : GoodIn wsX2_handOver wsX1_set := goodIn_r _ [19, 14, 15, 46, 47] (by decide +kernel) (by decide +kernel)
set_option maxRecDepth 20000 in
theorem gX2_handOver_X1_set : GoodIn wsX2_handOver (wsV RX2 127 RX1 yX1_set wsX1_set) := goodIn_app (goodIn_of _ (by decide +kernel)) ggX2_handOver_X1_set
set_option maxRecDepth 20000 in
theorem ggX2_handOver_X2_isAlive : GoodIn wsX2_handOver wsX2_isAlive := goodIn_r _ [23, 24, 34, 35, 36, 37, 38, 39, 40, 41, 42, 43, 44, 45] (by decide +kernel) (by decide +kernel)
set_option maxRecDepth 20000 in
theorem gX2_handOver_X2_isAlive : GoodIn wsX2_handOver (wsV RX2 72 RX2 yX2_isAlive wsX2_isAlive) := goodIn_app (goodIn_of _ (by decide +kernel)) ggX2_handOver_X2_isAlive
set_option maxRecDepth 20000 in
theorem ggX2_handOver_X2_follow : GoodIn wsX2_handOver wsX2_follow := goodIn_r _ [28, 29, 9, 10, 11, 12, 13, 14, 15, 30, 31, 32, 5, 33, 16, 17, 18, 19, 34, 35, 36, 37, 38, 39, 40, 41, 42, 43, 44, 45, 46, 47] (by decide +kernel) (by decide +kernel)
set_option maxRecDepth 20000 in
theorem gX2_handOver_X2_follow : GoodIn wsX2_handOver (wsV RX2 163 RX2 yX2_follow wsX2_follow) := goodIn_app (goodIn_of _ (by decide +kernel)) ggX2_handOver_X2_follow
theorem dX2_handOver_0 : decode cX2_handOver 0 = .ok (.iconst 0, 1) := by decide +kernel
theorem dX2_handOver_1 : decode cX2_handOver 1 = .ok (.istore_n 3, 1) := by decide +kernel
theorem dX2_handOver_2 : decode cX2_handOver 2 = .ok (.iload_n 3, 1) := by decide +kernel
theorem dX2_handOver_3 : decode cX2_handOver 3 = .ok (.bipush 64, 2) := by decide +kernel
theorem dX2_handOver_5 : decode cX2_handOver 5 = .ok (.if_icmp .ge 17, 3) := by decide +kernel
theorem dX2_handOver_8 : decode cX2_handOver 8 = .ok (.aload_n 0, 1) := by decide +kernel
theorem dX2_handOver_9 : decode cX2_handOver 9 = .ok (.iload_n 1, 1) := by decide +kernel
theorem dX2_handOver_10 : decode cX2_handOver 10 = .ok (.iload_n 2, 1) := by decide +kernel
theorem dX2_handOver_11 : decode cX2_handOver 11 = .ok (.iload_n 3, 1) := by decide +kernel
theorem dX2_handOver_12 : decode cX2_handOver 12 = .ok (.invokevirtual 159, 3) := by decide +kernel
theorem dX2_handOver_15 : decode cX2_handOver 15 = .ok (.pop, 1) := by decide +kernel
theorem dX2_handOver_16 : decode cX2_handOver 16 = .ok (.iinc 3 1, 3) := by decide +kernel
theorem dX2_handOver_19 : decode cX2_handOver 19 = .ok (.goto (-17), 3) := by decide +kernel
theorem dX2_handOver_22 : decode cX2_handOver 22 = .ok (.aload_n 0, 1) := by decide +kernel
theorem dX2_handOver_23 : decode cX2_handOver 23 = .ok (.getfield 22, 3) := by decide +kernel
theorem dX2_handOver_26 : decode cX2_handOver 26 = .ok (.iload_n 1, 1) := by decide +kernel
theorem dX2_handOver_27 : decode cX2_handOver 27 = .ok (.iconst 0, 1) := by decide +kernel
theorem dX2_handOver_28 : decode cX2_handOver 28 = .ok (.invokevirtual 85, 3) := by decide +kernel
theorem dX2_handOver_31 : decode cX2_handOver 31 = .ok (.istore_n 3, 1) := by decide +kernel
theorem dX2_handOver_32 : decode cX2_handOver 32 = .ok (.aload_n 0, 1) := by decide +kernel
theorem dX2_handOver_33 : decode cX2_handOver 33 = .ok (.getfield 22, 3) := by decide +kernel
theorem dX2_handOver_36 : decode cX2_handOver 36 = .ok (.iload_n 2, 1) := by decide +kernel
theorem dX2_handOver_37 : decode cX2_handOver 37 = .ok (.iconst 0, 1) := by decide +kernel
theorem dX2_handOver_38 : decode cX2_handOver 38 = .ok (.iload_n 3, 1) := by decide +kernel
theorem dX2_handOver_39 : decode cX2_handOver 39 = .ok (.invokevirtual 127, 3) := by decide +kernel
theorem dX2_handOver_42 : decode cX2_handOver 42 = .ok (.iload_n 3, 1) := by decide +kernel
theorem dX2_handOver_43 : decode cX2_handOver 43 = .ok (.iload_n 1, 1) := by decide +kernel
theorem dX2_handOver_44 : decode cX2_handOver 44 = .ok (.if_icmp .eq 17, 3) := by decide +kernel
theorem dX2_handOver_47 : decode cX2_handOver 47 = .ok (.aload_n 0, 1) := by decide +kernel
theorem dX2_handOver_48 : decode cX2_handOver 48 = .ok (.iload_n 3, 1) := by decide +kernel
theorem dX2_handOver_49 : decode cX2_handOver 49 = .ok (.invokevirtual 72, 3) := by decide +kernel
theorem dX2_handOver_52 : decode cX2_handOver 52 = .ok (.ifCond .eq 9, 3) := by decide +kernel
theorem dX2_handOver_55 : decode cX2_handOver 55 = .ok (.aload_n 0, 1) := by decide +kernel
theorem dX2_handOver_56 : decode cX2_handOver 56 = .ok (.iload_n 3, 1) := by decide +kernel
theorem dX2_handOver_57 : decode cX2_handOver 57 = .ok (.iload_n 2, 1) := by decide +kernel
theorem dX2_handOver_58 : decode cX2_handOver 58 = .ok (.invokevirtual 163, 3) := by decide +kernel
theorem dX2_handOver_61 : decode cX2_handOver 61 = .ok (.return_, 1) := by decide +kernel
set_option maxRecDepth 20000 in
theorem ggX2_setSuccessors_X1_set : GoodIn wsX2_setSuccessors wsX1_set := goodIn_r _ [6, 7, 8, 21, 22] (by decide +kernel) (by decide +kernel)
set_option maxRecDepth 20000 in
theorem gX2_setSuccessors_X1_set : GoodIn wsX2_setSuccessors (wsV RX2 127 RX1 yX1_set wsX1_set) := goodIn_app (goodIn_of _ (by decide +kernel)) ggX2_setSuccessors_X1_set
theorem dX2_setSuccessors_0 : decode cX2_setSuccessors 0 = .ok (.aload_n 0, 1) := by decide +kernel
theorem dX2_setSuccessors_1 : decode cX2_setSuccessors 1 = .ok (.getfield 18, 3) := by decide +kernel
theorem dX2_setSuccessors_4 : decode cX2_setSuccessors 4 = .ok (.iload_n 1, 1) := by decide +kernel
theorem dX2_setSuccessors_5 : decode cX2_setSuccessors 5 = .ok (.iconst 0, 1) := by decide +kernel
theorem dX2_setSuccessors_6 : decode cX2_setSuccessors 6 = .ok (.iload_n 2, 1) := by decide +kernel
theorem dX2_setSuccessors_7 : decode cX2_setSuccessors 7 = .ok (.invokevirtual 127, 3) := by decide +kernel
theorem dX2_setSuccessors_10 : decode cX2_setSuccessors 10 = .ok (.aload_n 0, 1) := by decide +kernel
theorem dX2_setSuccessors_11 : decode cX2_setSuccessors 11 = .ok (.getfield 18, 3) := by decide +kernel
theorem dX2_setSuccessors_14 : decode cX2_setSuccessors 14 = .ok (.iload_n 1, 1) := by decide +kernel
theorem dX2_setSuccessors_15 : decode cX2_setSuccessors 15 = .ok (.iconst 1, 1) := by decide +kernel
theorem dX2_setSuccessors_16 : decode cX2_setSuccessors 16 = .ok (.iload_n 3, 1) := by decide +kernel
theorem dX2_setSuccessors_17 : decode cX2_setSuccessors 17 = .ok (.invokevirtual 127, 3) := by decide +kernel
theorem dX2_setSuccessors_20 : decode cX2_setSuccessors 20 = .ok (.aload_n 0, 1) := by decide +kernel
theorem dX2_setSuccessors_21 : decode cX2_setSuccessors 21 = .ok (.getfield 18, 3) := by decide +kernel
theorem dX2_setSuccessors_24 : decode cX2_setSuccessors 24 = .ok (.iload_n 1, 1) := by decide +kernel
theorem dX2_setSuccessors_25 : decode cX2_setSuccessors 25 = .ok (.iconst 2, 1) := by decide +kernel
theorem dX2_setSuccessors_26 : decode cX2_setSuccessors 26 = .ok (.iload 4, 2) := by decide +kernel
theorem dX2_setSuccessors_28 : decode cX2_setSuccessors 28 = .ok (.invokevirtual 127, 3) := by decide +kernel
theorem dX2_setSuccessors_31 : decode cX2_setSuccessors 31 = .ok (.return_, 1) := by decide +kernel
set_option maxRecDepth 20000 in
theorem ggX2_follow_X1_at : GoodIn wsX2_follow wsX1_at := goodIn_r _ [6, 7, 8, 30, 31] (by decide +kernel) (by decide +kernel)
set_option maxRecDepth 20000 in
theorem gX2_follow_X1_at : GoodIn wsX2_follow (wsV RX2 85 RX1 yX1_at wsX1_at) := goodIn_app (goodIn_of _ (by decide +kernel)) ggX2_follow_X1_at
set_option maxRecDepth 20000 in
theorem ggX2_follow_X2_setSuccessors : GoodIn wsX2_follow wsX2_setSuccessors := goodIn_r _ [13, 1, 14, 15, 16, 5, 17, 7, 8, 18, 19, 20, 21, 22, 23, 24, 25, 26, 27, 28, 29, 30, 31] (by decide +kernel) (by decide +kernel)
set_option maxRecDepth 20000 in
theorem gX2_follow_X2_setSuccessors : GoodIn wsX2_follow (wsV RX2 149 RX2 yX2_setSuccessors wsX2_setSuccessors) := goodIn_app (goodIn_of _ (by decide +kernel)) ggX2_follow_X2_setSuccessors
theorem dX2_follow_0 : decode cX2_follow 0 = .ok (.aload_n 0, 1) := by decide +kernel
theorem dX2_follow_1 : decode cX2_follow 1 = .ok (.getfield 18, 3) := by decide +kernel
theorem dX2_follow_4 : decode cX2_follow 4 = .ok (.iload_n 2, 1) := by decide +kernel
theorem dX2_follow_5 : decode cX2_follow 5 = .ok (.iconst 0, 1) := by decide +kernel
theorem dX2_follow_6 : decode cX2_follow 6 = .ok (.invokevirtual 85, 3) := by decide +kernel
theorem dX2_follow_9 : decode cX2_follow 9 = .ok (.istore_n 3, 1) := by decide +kernel
theorem dX2_follow_10 : decode cX2_follow 10 = .ok (.aload_n 0, 1) := by decide +kernel
theorem dX2_follow_11 : decode cX2_follow 11 = .ok (.getfield 18, 3) := by decide +kernel
theorem dX2_follow_14 : decode cX2_follow 14 = .ok (.iload_n 2, 1) := by decide +kernel
theorem dX2_follow_15 : decode cX2_follow 15 = .ok (.iconst 1, 1) := by decide +kernel
theorem dX2_follow_16 : decode cX2_follow 16 = .ok (.invokevirtual 85, 3) := by decide +kernel
theorem dX2_follow_19 : decode cX2_follow 19 = .ok (.istore 4, 2) := by decide +kernel
theorem dX2_follow_21 : decode cX2_follow 21 = .ok (.aload_n 0, 1) := by decide +kernel
theorem dX2_follow_22 : decode cX2_follow 22 = .ok (.iload_n 1, 1) := by decide +kernel
theorem dX2_follow_23 : decode cX2_follow 23 = .ok (.iload_n 2, 1) := by decide +kernel
theorem dX2_follow_24 : decode cX2_follow 24 = .ok (.iload_n 3, 1) := by decide +kernel
theorem dX2_follow_25 : decode cX2_follow 25 = .ok (.iload 4, 2) := by decide +kernel
theorem dX2_follow_27 : decode cX2_follow 27 = .ok (.invokevirtual 149, 3) := by decide +kernel
theorem dX2_follow_30 : decode cX2_follow 30 = .ok (.return_, 1) := by decide +kernel
set_option maxRecDepth 20000 in
theorem ggX2_firstLivingSuccessor_X1_at : GoodIn wsX2_firstLivingSuccessor wsX1_at := goodIn_r _ [6, 7, 8, 27, 28] (by decide +kernel) (by decide +kernel)
set_option maxRecDepth 20000 in
theorem gX2_firstLivingSuccessor_X1_at : GoodIn wsX2_firstLivingSuccessor (wsV RX2 85 RX1 yX1_at wsX1_at) := goodIn_app (goodIn_of _ (by decide +kernel)) ggX2_firstLivingSuccessor_X1_at
set_option maxRecDepth 20000 in
theorem ggX2_firstLivingSuccessor_X2_isAlive : GoodIn wsX2_firstLivingSuccessor wsX2_isAlive := goodIn_r _ [13, 14, 15, 16, 17, 18, 19, 20, 21, 22, 23, 24, 25, 26] (by decide +kernel) (by decide +kernel)
set_option maxRecDepth 20000 in
theorem gX2_firstLivingSuccessor_X2_isAlive : GoodIn wsX2_firstLivingSuccessor (wsV RX2 72 RX2 yX2_isAlive wsX2_isAlive) := goodIn_app (goodIn_of _ (by decide +kernel)) ggX2_firstLivingSuccessor_X2_isAlive
theorem dX2_firstLivingSuccessor_0 : decode cX2_firstLivingSuccessor 0 = .ok (.iconst 0, 1) := by decide +kernel
theorem dX2_firstLivingSuccessor_1 : decode cX2_firstLivingSuccessor 1 = .ok (.istore_n 2, 1) := by decide +kernel
theorem dX2_firstLivingSuccessor_2 : decode cX2_firstLivingSuccessor 2 = .ok (.iload_n 2, 1) := by decide +kernel
theorem dX2_firstLivingSuccessor_3 : decode cX2_firstLivingSuccessor 3 = .ok (.iconst 3, 1) := by decide +kernel
theorem dX2_firstLivingSuccessor_4 : decode cX2_firstLivingSuccessor 4 = .ok (.if_icmp .ge 29, 3) := by decide +kernel
theorem dX2_firstLivingSuccessor_7 : decode cX2_firstLivingSuccessor 7 = .ok (.aload_n 0, 1) := by decide +kernel
theorem dX2_firstLivingSuccessor_8 : decode cX2_firstLivingSuccessor 8 = .ok (.getfield 18, 3) := by decide +kernel
theorem dX2_firstLivingSuccessor_11 : decode cX2_firstLivingSuccessor 11 = .ok (.iload_n 1, 1) := by decide +kernel
theorem dX2_firstLivingSuccessor_12 : decode cX2_firstLivingSuccessor 12 = .ok (.iload_n 2, 1) := by decide +kernel
theorem dX2_firstLivingSuccessor_13 : decode cX2_firstLivingSuccessor 13 = .ok (.invokevirtual 85, 3) := by decide +kernel
theorem dX2_firstLivingSuccessor_16 : decode cX2_firstLivingSuccessor 16 = .ok (.istore_n 3, 1) := by decide +kernel
theorem dX2_firstLivingSuccessor_17 : decode cX2_firstLivingSuccessor 17 = .ok (.aload_n 0, 1) := by decide +kernel
theorem dX2_firstLivingSuccessor_18 : decode cX2_firstLivingSuccessor 18 = .ok (.iload_n 3, 1) := by decide +kernel
theorem dX2_firstLivingSuccessor_19 : decode cX2_firstLivingSuccessor 19 = .ok (.invokevirtual 72, 3) := by decide +kernel
theorem dX2_firstLivingSuccessor_22 : decode cX2_firstLivingSuccessor 22 = .ok (.ifCond .eq 5, 3) := by decide +kernel
theorem dX2_firstLivingSuccessor_25 : decode cX2_firstLivingSuccessor 25 = .ok (.iload_n 3, 1) := by decide +kernel
theorem dX2_firstLivingSuccessor_26 : decode cX2_firstLivingSuccessor 26 = .ok (.ireturn, 1) := by decide +kernel
theorem dX2_firstLivingSuccessor_27 : decode cX2_firstLivingSuccessor 27 = .ok (.iinc 2 1, 3) := by decide +kernel
theorem dX2_firstLivingSuccessor_30 : decode cX2_firstLivingSuccessor 30 = .ok (.goto (-28), 3) := by decide +kernel
theorem dX2_firstLivingSuccessor_33 : decode cX2_firstLivingSuccessor 33 = .ok (.iload_n 1, 1) := by decide +kernel
theorem dX2_firstLivingSuccessor_34 : decode cX2_firstLivingSuccessor 34 = .ok (.ireturn, 1) := by decide +kernel
set_option maxRecDepth 20000 in
theorem ggX2_firstHeir_X1_at : GoodIn wsX2_firstHeir wsX1_at := goodIn_r _ [6, 7, 8, 27, 28] (by decide +kernel) (by decide +kernel)
set_option maxRecDepth 20000 in
theorem gX2_firstHeir_X1_at : GoodIn wsX2_firstHeir (wsV RX2 85 RX1 yX1_at wsX1_at) := goodIn_app (goodIn_of _ (by decide +kernel)) ggX2_firstHeir_X1_at
set_option maxRecDepth 20000 in
theorem ggX2_firstHeir_X2_isAlive : GoodIn wsX2_firstHeir wsX2_isAlive := goodIn_r _ [13, 14, 15, 16, 17, 18, 19, 20, 21, 22, 23, 24, 25, 26] (by decide +kernel) (by decide +kernel)
set_option maxRecDepth 20000 in
theorem gX2_firstHeir_X2_isAlive : GoodIn wsX2_firstHeir (wsV RX2 72 RX2 yX2_isAlive wsX2_isAlive) := goodIn_app (goodIn_of _ (by decide +kernel)) ggX2_firstHeir_X2_isAlive
theorem dX2_firstHeir_0 : decode cX2_firstHeir 0 = .ok (.iconst 0, 1) := by decide +kernel
theorem dX2_firstHeir_1 : decode cX2_firstHeir 1 = .ok (.istore_n 3, 1) := by decide +kernel
theorem dX2_firstHeir_2 : decode cX2_firstHeir 2 = .ok (.iload_n 3, 1) := by decide +kernel
theorem dX2_firstHeir_3 : decode cX2_firstHeir 3 = .ok (.iconst 3, 1) := by decide +kernel
theorem dX2_firstHeir_4 : decode cX2_firstHeir 4 = .ok (.if_icmp .ge 44, 3) := by decide +kernel
theorem dX2_firstHeir_7 : decode cX2_firstHeir 7 = .ok (.aload_n 0, 1) := by decide +kernel
theorem dX2_firstHeir_8 : decode cX2_firstHeir 8 = .ok (.getfield 18, 3) := by decide +kernel
theorem dX2_firstHeir_11 : decode cX2_firstHeir 11 = .ok (.iload_n 1, 1) := by decide +kernel
theorem dX2_firstHeir_12 : decode cX2_firstHeir 12 = .ok (.iload_n 3, 1) := by decide +kernel
theorem dX2_firstHeir_13 : decode cX2_firstHeir 13 = .ok (.invokevirtual 85, 3) := by decide +kernel
theorem dX2_firstHeir_16 : decode cX2_firstHeir 16 = .ok (.istore 4, 2) := by decide +kernel
theorem dX2_firstHeir_18 : decode cX2_firstHeir 18 = .ok (.aload_n 0, 1) := by decide +kernel
theorem dX2_firstHeir_19 : decode cX2_firstHeir 19 = .ok (.iload 4, 2) := by decide +kernel
theorem dX2_firstHeir_21 : decode cX2_firstHeir 21 = .ok (.invokevirtual 72, 3) := by decide +kernel
theorem dX2_firstHeir_24 : decode cX2_firstHeir 24 = .ok (.ifCond .eq 18, 3) := by decide +kernel
theorem dX2_firstHeir_27 : decode cX2_firstHeir 27 = .ok (.iload 4, 2) := by decide +kernel
theorem dX2_firstHeir_29 : decode cX2_firstHeir 29 = .ok (.iload_n 1, 1) := by decide +kernel
theorem dX2_firstHeir_30 : decode cX2_firstHeir 30 = .ok (.if_icmp .eq 12, 3) := by decide +kernel
theorem dX2_firstHeir_33 : decode cX2_firstHeir 33 = .ok (.iload 4, 2) := by decide +kernel
theorem dX2_firstHeir_35 : decode cX2_firstHeir 35 = .ok (.iload_n 2, 1) := by decide +kernel
theorem dX2_firstHeir_36 : decode cX2_firstHeir 36 = .ok (.if_icmp .eq 6, 3) := by decide +kernel
theorem dX2_firstHeir_39 : decode cX2_firstHeir 39 = .ok (.iload 4, 2) := by decide +kernel
theorem dX2_firstHeir_41 : decode cX2_firstHeir 41 = .ok (.ireturn, 1) := by decide +kernel
theorem dX2_firstHeir_42 : decode cX2_firstHeir 42 = .ok (.iinc 3 1, 3) := by decide +kernel
theorem dX2_firstHeir_45 : decode cX2_firstHeir 45 = .ok (.goto (-43), 3) := by decide +kernel
theorem dX2_firstHeir_48 : decode cX2_firstHeir 48 = .ok (.iconst (-1), 1) := by decide +kernel
theorem dX2_firstHeir_49 : decode cX2_firstHeir 49 = .ok (.ireturn, 1) := by decide +kernel
set_option maxRecDepth 20000 in
theorem ggX2_letRoundGoBy_X2_isAlive : GoodIn wsX2_letRoundGoBy wsX2_isAlive := goodIn_r _ [5, 6, 94, 95, 96, 97, 98, 99, 100, 101, 102, 103, 104, 105] (by decide +kernel) (by decide +kernel)
set_option maxRecDepth 20000 in
theorem gX2_letRoundGoBy_X2_isAlive : GoodIn wsX2_letRoundGoBy (wsV RX2 72 RX2 yX2_isAlive wsX2_isAlive) := goodIn_app (goodIn_of _ (by decide +kernel)) ggX2_letRoundGoBy_X2_isAlive
set_option maxRecDepth 20000 in
theorem ggX2_letRoundGoBy_X2_dropDeadPredecessor : GoodIn wsX2_letRoundGoBy wsX2_dropDeadPredecessor := goodIn_r _ [10, 11, 12, 13, 14, 15, 16, 17, 18, 1, 2, 3, 4, 5, 6, 19, 20, 21, 22, 94, 95, 96, 97, 98, 99, 100, 101, 102, 103, 104, 105, 106, 107] (by decide +kernel) (by decide +kernel)
set_option maxRecDepth 20000 in
theorem gX2_letRoundGoBy_X2_dropDeadPredecessor : GoodIn wsX2_letRoundGoBy (wsV RX2 103 RX2 yX2_dropDeadPredecessor wsX2_dropDeadPredecessor) := goodIn_app (goodIn_of _ (by decide +kernel)) ggX2_letRoundGoBy_X2_dropDeadPredecessor
set_option maxRecDepth 20000 in
theorem ggX2_letRoundGoBy_X2_mendSuccessors : GoodIn wsX2_letRoundGoBy wsX2_mendSuccessors := goodIn_r _ [26, 11, 27, 28, 29, 4, 30, 31, 12, 13, 14, 15, 16, 17, 18, 1, 2, 3, 5, 6, 32, 33, 34, 35, 36, 37, 38, 39, 40, 41, 42, 43, 19, 20, 21, 22, 44, 45, 46, 47, 94, 95, 96, 97, 98, 99, 100, 101, 102, 103, 104, 105, 106, 107] (by decide +kernel) (by decide +kernel)
set_option maxRecDepth 20000 in
theorem gX2_letRoundGoBy_X2_mendSuccessors : GoodIn wsX2_letRoundGoBy (wsV RX2 106 RX2 yX2_mendSuccessors wsX2_mendSuccessors) := goodIn_app (goodIn_of _ (by decide +kernel)) ggX2_letRoundGoBy_X2_mendSuccessors
set_option maxRecDepth 20000 in
theorem ggX2_letRoundGoBy_X2_renewFingers : GoodIn wsX2_letRoundGoBy wsX2_renewFingers := goodIn_r _ [51, 52, 53, 54, 34, 55, 56, 57, 58, 59, 60, 61, 4, 62, 63, 64, 27, 28, 29, 30, 31, 12, 13, 14, 15, 16, 17, 18, 1, 2, 3, 5, 6, 65, 66, 67, 68, 69, 70, 71, 32, 33, 35, 19, 20, 21, 22, 94, 95, 96, 97, 98, 99, 100, 101, 102, 103, 104, 105, 106, 107] (by decide +kernel) (by decide +kernel)
set_option maxRecDepth 20000 in
theorem gX2_letRoundGoBy_X2_renewFingers : GoodIn wsX2_letRoundGoBy (wsV RX2 109 RX2 yX2_renewFingers wsX2_renewFingers) := goodIn_app (goodIn_of _ (by decide +kernel)) ggX2_letRoundGoBy_X2_renewFingers
set_option maxRecDepth 20000 in
theorem ggX2_letRoundGoBy_X2_spreadValues : GoodIn wsX2_letRoundGoBy wsX2_spreadValues := goodIn_r _ [75, 76, 12, 13, 14, 15, 16, 17, 18, 77, 78, 79, 4, 80, 11, 65, 66, 34, 67, 59, 60, 61, 62, 63, 64, 27, 28, 29, 30, 31, 1, 2, 3, 5, 6, 68, 69, 70, 71, 52, 32, 33, 35, 81, 82, 83, 84, 85, 19, 20, 21, 22, 86, 87, 88, 89, 90, 91, 92, 93, 94, 95, 96, 97, 98, 99, 100, 101, 102, 103, 104, 105, 106, 107] (by decide +kernel) (by decide +kernel)
set_option maxRecDepth 20000 in
theorem gX2_letRoundGoBy_X2_spreadValues : GoodIn wsX2_letRoundGoBy (wsV RX2 112 RX2 yX2_spreadValues wsX2_spreadValues) := goodIn_app (goodIn_of _ (by decide +kernel)) ggX2_letRoundGoBy_X2_spreadValues
theorem dX2_letRoundGoBy_0 : decode cX2_letRoundGoBy 0 = .ok (.iconst 0, 1) := by decide +kernel
theorem dX2_letRoundGoBy_1 : decode cX2_letRoundGoBy 1 = .ok (.istore_n 2, 1) := by decide +kernel
theorem dX2_letRoundGoBy_2 : decode cX2_letRoundGoBy 2 = .ok (.iload_n 2, 1) := by decide +kernel
theorem dX2_letRoundGoBy_3 : decode cX2_letRoundGoBy 3 = .ok (.bipush 64, 2) := by decide +kernel
theorem dX2_letRoundGoBy_5 : decode cX2_letRoundGoBy 5 = .ok (.if_icmp .ge 43, 3) := by decide +kernel
theorem dX2_letRoundGoBy_8 : decode cX2_letRoundGoBy 8 = .ok (.aload_n 0, 1) := by decide +kernel
theorem dX2_letRoundGoBy_9 : decode cX2_letRoundGoBy 9 = .ok (.iload_n 2, 1) := by decide +kernel
theorem dX2_letRoundGoBy_10 : decode cX2_letRoundGoBy 10 = .ok (.invokevirtual 72, 3) := by decide +kernel
theorem dX2_letRoundGoBy_13 : decode cX2_letRoundGoBy 13 = .ok (.ifCond .eq 29, 3) := by decide +kernel
theorem dX2_letRoundGoBy_16 : decode cX2_letRoundGoBy 16 = .ok (.aload_n 0, 1) := by decide +kernel
theorem dX2_letRoundGoBy_17 : decode cX2_letRoundGoBy 17 = .ok (.iload_n 2, 1) := by decide +kernel
theorem dX2_letRoundGoBy_18 : decode cX2_letRoundGoBy 18 = .ok (.invokevirtual 103, 3) := by decide +kernel
theorem dX2_letRoundGoBy_21 : decode cX2_letRoundGoBy 21 = .ok (.aload_n 0, 1) := by decide +kernel
theorem dX2_letRoundGoBy_22 : decode cX2_letRoundGoBy 22 = .ok (.iload_n 2, 1) := by decide +kernel
theorem dX2_letRoundGoBy_23 : decode cX2_letRoundGoBy 23 = .ok (.invokevirtual 106, 3) := by decide +kernel
theorem dX2_letRoundGoBy_26 : decode cX2_letRoundGoBy 26 = .ok (.aload_n 0, 1) := by decide +kernel
theorem dX2_letRoundGoBy_27 : decode cX2_letRoundGoBy 27 = .ok (.iload_n 2, 1) := by decide +kernel
theorem dX2_letRoundGoBy_28 : decode cX2_letRoundGoBy 28 = .ok (.invokevirtual 109, 3) := by decide +kernel
theorem dX2_letRoundGoBy_31 : decode cX2_letRoundGoBy 31 = .ok (.pop, 1) := by decide +kernel
theorem dX2_letRoundGoBy_32 : decode cX2_letRoundGoBy 32 = .ok (.iload_n 1, 1) := by decide +kernel
theorem dX2_letRoundGoBy_33 : decode cX2_letRoundGoBy 33 = .ok (.ifCond .eq 9, 3) := by decide +kernel
theorem dX2_letRoundGoBy_36 : decode cX2_letRoundGoBy 36 = .ok (.aload_n 0, 1) := by decide +kernel
theorem dX2_letRoundGoBy_37 : decode cX2_letRoundGoBy 37 = .ok (.iload_n 2, 1) := by decide +kernel
theorem dX2_letRoundGoBy_38 : decode cX2_letRoundGoBy 38 = .ok (.invokevirtual 112, 3) := by decide +kernel
theorem dX2_letRoundGoBy_41 : decode cX2_letRoundGoBy 41 = .ok (.pop, 1) := by decide +kernel
theorem dX2_letRoundGoBy_42 : decode cX2_letRoundGoBy 42 = .ok (.iinc 2 1, 3) := by decide +kernel
theorem dX2_letRoundGoBy_45 : decode cX2_letRoundGoBy 45 = .ok (.goto (-43), 3) := by decide +kernel
theorem dX2_letRoundGoBy_48 : decode cX2_letRoundGoBy 48 = .ok (.return_, 1) := by decide +kernel
set_option maxRecDepth 20000 in
theorem ggX2_dropDeadPredecessor_X1_at : GoodIn wsX2_dropDeadPredecessor wsX1_at := goodIn_r _ [6, 7, 8, 31, 32] (by decide +kernel) (by decide +kernel)
set_option maxRecDepth 20000 in
theorem gX2_dropDeadPredecessor_X1_at : GoodIn wsX2_dropDeadPredecessor (wsV RX2 85 RX1 yX1_at wsX1_at) := goodIn_app (goodIn_of _ (by decide +kernel)) ggX2_dropDeadPredecessor_X1_at
set_option maxRecDepth 20000 in
theorem ggX2_dropDeadPredecessor_X2_isAlive : GoodIn wsX2_dropDeadPredecessor wsX2_isAlive := goodIn_r _ [13, 14, 19, 20, 21, 22, 23, 24, 25, 26, 27, 28, 29, 30] (by decide +kernel) (by decide +kernel)
set_option maxRecDepth 20000 in
theorem gX2_dropDeadPredecessor_X2_isAlive : GoodIn wsX2_dropDeadPredecessor (wsV RX2 72 RX2 yX2_isAlive wsX2_isAlive) := goodIn_app (goodIn_of _ (by decide +kernel)) ggX2_dropDeadPredecessor_X2_isAlive
set_option maxRecDepth 20000 in
theorem ggX2_dropDeadPredecessor_X1_set : GoodIn wsX2_dropDeadPredecessor wsX1_set := goodIn_r _ [18, 7, 8, 31, 32] (by decide +kernel) (by decide +kernel)
set_option maxRecDepth 20000 in
theorem gX2_dropDeadPredecessor_X1_set : GoodIn wsX2_dropDeadPredecessor (wsV RX2 127 RX1 yX1_set wsX1_set) := goodIn_app (goodIn_of _ (by decide +kernel)) ggX2_dropDeadPredecessor_X1_set
theorem dX2_dropDeadPredecessor_0 : decode cX2_dropDeadPredecessor 0 = .ok (.aload_n 0, 1) := by decide +kernel
theorem dX2_dropDeadPredecessor_1 : decode cX2_dropDeadPredecessor 1 = .ok (.aload_n 0, 1) := by decide +kernel
theorem dX2_dropDeadPredecessor_2 : decode cX2_dropDeadPredecessor 2 = .ok (.getfield 22, 3) := by decide +kernel
theorem dX2_dropDeadPredecessor_5 : decode cX2_dropDeadPredecessor 5 = .ok (.iload_n 1, 1) := by decide +kernel
theorem dX2_dropDeadPredecessor_6 : decode cX2_dropDeadPredecessor 6 = .ok (.iconst 0, 1) := by decide +kernel
theorem dX2_dropDeadPredecessor_7 : decode cX2_dropDeadPredecessor 7 = .ok (.invokevirtual 85, 3) := by decide +kernel
theorem dX2_dropDeadPredecessor_10 : decode cX2_dropDeadPredecessor 10 = .ok (.invokevirtual 72, 3) := by decide +kernel
theorem dX2_dropDeadPredecessor_13 : decode cX2_dropDeadPredecessor 13 = .ok (.ifCond .ne 13, 3) := by decide +kernel
theorem dX2_dropDeadPredecessor_16 : decode cX2_dropDeadPredecessor 16 = .ok (.aload_n 0, 1) := by decide +kernel
theorem dX2_dropDeadPredecessor_17 : decode cX2_dropDeadPredecessor 17 = .ok (.getfield 22, 3) := by decide +kernel
theorem dX2_dropDeadPredecessor_20 : decode cX2_dropDeadPredecessor 20 = .ok (.iload_n 1, 1) := by decide +kernel
theorem dX2_dropDeadPredecessor_21 : decode cX2_dropDeadPredecessor 21 = .ok (.iconst 0, 1) := by decide +kernel
theorem dX2_dropDeadPredecessor_22 : decode cX2_dropDeadPredecessor 22 = .ok (.iconst (-1), 1) := by decide +kernel
theorem dX2_dropDeadPredecessor_23 : decode cX2_dropDeadPredecessor 23 = .ok (.invokevirtual 127, 3) := by decide +kernel
theorem dX2_dropDeadPredecessor_26 : decode cX2_dropDeadPredecessor 26 = .ok (.return_, 1) := by decide +kernel
set_option maxRecDepth 20000 in
theorem ggX2_mendSuccessors_X2_firstLivingSuccessor : GoodIn wsX2_mendSuccessors wsX2_firstLivingSuccessor := goodIn_r _ [6, 7, 8, 9, 10, 11, 12, 13, 14, 15, 16, 17, 5, 18, 19, 40, 41, 42, 43, 44, 45, 46, 47, 48, 49, 50, 51, 52, 53] (by decide +kernel) (by decide +kernel)
set_option maxRecDepth 20000 in
theorem gX2_mendSuccessors_X2_firstLivingSuccessor : GoodIn wsX2_mendSuccessors (wsV RX2 91 RX2 yX2_firstLivingSuccessor wsX2_firstLivingSuccessor) := goodIn_app (goodIn_of _ (by decide +kernel)) ggX2_mendSuccessors_X2_firstLivingSuccessor
set_option maxRecDepth 20000 in
theorem ggX2_mendSuccessors_X1_at : GoodIn wsX2_mendSuccessors wsX1_at := goodIn_r _ [12, 13, 14, 52, 53] (by decide +kernel) (by decide +kernel)
set_option maxRecDepth 20000 in
theorem gX2_mendSuccessors_X1_at : GoodIn wsX2_mendSuccessors (wsV RX2 85 RX1 yX1_at wsX1_at) := goodIn_app (goodIn_of _ (by decide +kernel)) ggX2_mendSuccessors_X1_at
set_option maxRecDepth 20000 in
theorem ggX2_mendSuccessors_X2_isAlive : GoodIn wsX2_mendSuccessors wsX2_isAlive := goodIn_r _ [18, 19, 40, 41, 42, 43, 44, 45, 46, 47, 48, 49, 50, 51] (by decide +kernel) (by decide +kernel)
set_option maxRecDepth 20000 in
theorem gX2_mendSuccessors_X2_isAlive : GoodIn wsX2_mendSuccessors (wsV RX2 72 RX2 yX2_isAlive wsX2_isAlive) := goodIn_app (goodIn_of _ (by decide +kernel)) ggX2_mendSuccessors_X2_isAlive
set_option maxRecDepth 20000 in
theorem ggX2_mendSuccessors_X0_isBetween : GoodIn wsX2_mendSuccessors wsX0_isBetween := goodIn_r _ [23] (by decide +kernel) (by decide +kernel)
set_option maxRecDepth 20000 in
theorem gX2_mendSuccessors_X0_isBetween : GoodIn wsX2_mendSuccessors (va_wsS RX2 166 yX0_isBetween wsX0_isBetween) := goodIn_app (goodIn_of _ (by decide +kernel)) ggX2_mendSuccessors_X0_isBetween
set_option maxRecDepth 20000 in
theorem ggX2_mendSuccessors_X2_follow : GoodIn wsX2_mendSuccessors wsX2_follow := goodIn_r _ [27, 7, 8, 9, 10, 11, 12, 13, 14, 28, 29, 30, 5, 31, 32, 33, 34, 35, 40, 41, 42, 43, 44, 45, 46, 47, 48, 49, 50, 51, 52, 53] (by decide +kernel) (by decide +kernel)
set_option maxRecDepth 20000 in
theorem gX2_mendSuccessors_X2_follow : GoodIn wsX2_mendSuccessors (wsV RX2 163 RX2 yX2_follow wsX2_follow) := goodIn_app (goodIn_of _ (by decide +kernel)) ggX2_mendSuccessors_X2_follow
set_option maxRecDepth 20000 in
theorem ggX2_mendSuccessors_X2_notifyOf : GoodIn wsX2_mendSuccessors wsX2_notifyOf := goodIn_r _ [39, 1, 8, 9, 10, 11, 12, 13, 14, 15, 16, 17, 5, 18, 19, 20, 21, 22, 23, 32, 33, 34, 35, 40, 41, 42, 43, 44, 45, 46, 47, 48, 49, 50, 51, 52, 53] (by decide +kernel) (by decide +kernel)
set_option maxRecDepth 20000 in
theorem gX2_mendSuccessors_X2_notifyOf : GoodIn wsX2_mendSuccessors (wsV RX2 172 RX2 yX2_notifyOf wsX2_notifyOf) := goodIn_app (goodIn_of _ (by decide +kernel)) ggX2_mendSuccessors_X2_notifyOf
theorem dX2_mendSuccessors_0 : decode cX2_mendSuccessors 0 = .ok (.aload_n 0, 1) := by decide +kernel
theorem dX2_mendSuccessors_1 : decode cX2_mendSuccessors 1 = .ok (.iload_n 1, 1) := by decide +kernel
theorem dX2_mendSuccessors_2 : decode cX2_mendSuccessors 2 = .ok (.invokevirtual 91, 3) := by decide +kernel
theorem dX2_mendSuccessors_5 : decode cX2_mendSuccessors 5 = .ok (.istore_n 2, 1) := by decide +kernel
theorem dX2_mendSuccessors_6 : decode cX2_mendSuccessors 6 = .ok (.aload_n 0, 1) := by decide +kernel
theorem dX2_mendSuccessors_7 : decode cX2_mendSuccessors 7 = .ok (.getfield 22, 3) := by decide +kernel
theorem dX2_mendSuccessors_10 : decode cX2_mendSuccessors 10 = .ok (.iload_n 2, 1) := by decide +kernel
theorem dX2_mendSuccessors_11 : decode cX2_mendSuccessors 11 = .ok (.iconst 0, 1) := by decide +kernel
theorem dX2_mendSuccessors_12 : decode cX2_mendSuccessors 12 = .ok (.invokevirtual 85, 3) := by decide +kernel
theorem dX2_mendSuccessors_15 : decode cX2_mendSuccessors 15 = .ok (.istore_n 3, 1) := by decide +kernel
theorem dX2_mendSuccessors_16 : decode cX2_mendSuccessors 16 = .ok (.aload_n 0, 1) := by decide +kernel
theorem dX2_mendSuccessors_17 : decode cX2_mendSuccessors 17 = .ok (.iload_n 3, 1) := by decide +kernel
theorem dX2_mendSuccessors_18 : decode cX2_mendSuccessors 18 = .ok (.invokevirtual 72, 3) := by decide +kernel
theorem dX2_mendSuccessors_21 : decode cX2_mendSuccessors 21 = .ok (.ifCond .eq 14, 3) := by decide +kernel
theorem dX2_mendSuccessors_24 : decode cX2_mendSuccessors 24 = .ok (.iload_n 3, 1) := by decide +kernel
theorem dX2_mendSuccessors_25 : decode cX2_mendSuccessors 25 = .ok (.iload_n 1, 1) := by decide +kernel
theorem dX2_mendSuccessors_26 : decode cX2_mendSuccessors 26 = .ok (.iload_n 2, 1) := by decide +kernel
theorem dX2_mendSuccessors_27 : decode cX2_mendSuccessors 27 = .ok (.invokestatic 166, 3) := by decide +kernel
theorem dX2_mendSuccessors_30 : decode cX2_mendSuccessors 30 = .ok (.ifCond .eq 5, 3) := by decide +kernel
theorem dX2_mendSuccessors_33 : decode cX2_mendSuccessors 33 = .ok (.iload_n 3, 1) := by decide +kernel
theorem dX2_mendSuccessors_34 : decode cX2_mendSuccessors 34 = .ok (.istore_n 2, 1) := by decide +kernel
theorem dX2_mendSuccessors_35 : decode cX2_mendSuccessors 35 = .ok (.aload_n 0, 1) := by decide +kernel
theorem dX2_mendSuccessors_36 : decode cX2_mendSuccessors 36 = .ok (.iload_n 1, 1) := by decide +kernel
theorem dX2_mendSuccessors_37 : decode cX2_mendSuccessors 37 = .ok (.iload_n 2, 1) := by decide +kernel
theorem dX2_mendSuccessors_38 : decode cX2_mendSuccessors 38 = .ok (.invokevirtual 163, 3) := by decide +kernel
theorem dX2_mendSuccessors_41 : decode cX2_mendSuccessors 41 = .ok (.aload_n 0, 1) := by decide +kernel
theorem dX2_mendSuccessors_42 : decode cX2_mendSuccessors 42 = .ok (.iload_n 1, 1) := by decide +kernel
theorem dX2_mendSuccessors_43 : decode cX2_mendSuccessors 43 = .ok (.iload_n 2, 1) := by decide +kernel
theorem dX2_mendSuccessors_44 : decode cX2_mendSuccessors 44 = .ok (.invokevirtual 172, 3) := by decide +kernel
theorem dX2_mendSuccessors_47 : decode cX2_mendSuccessors 47 = .ok (.return_, 1) := by decide +kernel
set_option maxRecDepth 20000 in
theorem ggX2_notifyOf_X1_at : GoodIn wsX2_notifyOf wsX1_at := goodIn_r _ [6, 7, 8, 35, 36] (by decide +kernel) (by decide +kernel)
set_option maxRecDepth 20000 in
theorem gX2_notifyOf_X1_at : GoodIn wsX2_notifyOf (wsV RX2 85 RX1 yX1_at wsX1_at) := goodIn_app (goodIn_of _ (by decide +kernel)) ggX2_notifyOf_X1_at
set_option maxRecDepth 20000 in
theorem ggX2_notifyOf_X2_isAlive : GoodIn wsX2_notifyOf wsX2_isAlive := goodIn_r _ [13, 14, 23, 24, 25, 26, 27, 28, 29, 30, 31, 32, 33, 34] (by decide +kernel) (by decide +kernel)
set_option maxRecDepth 20000 in
theorem gX2_notifyOf_X2_isAlive : GoodIn wsX2_notifyOf (wsV RX2 72 RX2 yX2_isAlive wsX2_isAlive) := goodIn_app (goodIn_of _ (by decide +kernel)) ggX2_notifyOf_X2_isAlive
set_option maxRecDepth 20000 in
theorem ggX2_notifyOf_X0_isBetween : GoodIn wsX2_notifyOf wsX0_isBetween := goodIn_r _ [18] (by decide +kernel) (by decide +kernel)
set_option maxRecDepth 20000 in
theorem gX2_notifyOf_X0_isBetween : GoodIn wsX2_notifyOf (va_wsS RX2 166 yX0_isBetween wsX0_isBetween) := goodIn_app (goodIn_of _ (by decide +kernel)) ggX2_notifyOf_X0_isBetween
set_option maxRecDepth 20000 in
theorem ggX2_notifyOf_X1_set : GoodIn wsX2_notifyOf wsX1_set := goodIn_r _ [22, 7, 8, 35, 36] (by decide +kernel) (by decide +kernel)
set_option maxRecDepth 20000 in
theorem gX2_notifyOf_X1_set : GoodIn wsX2_notifyOf (wsV RX2 127 RX1 yX1_set wsX1_set) := goodIn_app (goodIn_of _ (by decide +kernel)) ggX2_notifyOf_X1_set
theorem dX2_notifyOf_0 : decode cX2_notifyOf 0 = .ok (.aload_n 0, 1) := by decide +kernel
theorem dX2_notifyOf_1 : decode cX2_notifyOf 1 = .ok (.getfield 22, 3) := by decide +kernel
theorem dX2_notifyOf_4 : decode cX2_notifyOf 4 = .ok (.iload_n 2, 1) := by decide +kernel
theorem dX2_notifyOf_5 : decode cX2_notifyOf 5 = .ok (.iconst 0, 1) := by decide +kernel
theorem dX2_notifyOf_6 : decode cX2_notifyOf 6 = .ok (.invokevirtual 85, 3) := by decide +kernel
theorem dX2_notifyOf_9 : decode cX2_notifyOf 9 = .ok (.istore_n 3, 1) := by decide +kernel
theorem dX2_notifyOf_10 : decode cX2_notifyOf 10 = .ok (.aload_n 0, 1) := by decide +kernel
theorem dX2_notifyOf_11 : decode cX2_notifyOf 11 = .ok (.iload_n 3, 1) := by decide +kernel
theorem dX2_notifyOf_12 : decode cX2_notifyOf 12 = .ok (.invokevirtual 72, 3) := by decide +kernel
theorem dX2_notifyOf_15 : decode cX2_notifyOf 15 = .ok (.ifCond .eq 12, 3) := by decide +kernel
theorem dX2_notifyOf_18 : decode cX2_notifyOf 18 = .ok (.iload_n 1, 1) := by decide +kernel
theorem dX2_notifyOf_19 : decode cX2_notifyOf 19 = .ok (.iload_n 3, 1) := by decide +kernel
theorem dX2_notifyOf_20 : decode cX2_notifyOf 20 = .ok (.iload_n 2, 1) := by decide +kernel
theorem dX2_notifyOf_21 : decode cX2_notifyOf 21 = .ok (.invokestatic 166, 3) := by decide +kernel
theorem dX2_notifyOf_24 : decode cX2_notifyOf 24 = .ok (.ifCond .eq 13, 3) := by decide +kernel
theorem dX2_notifyOf_27 : decode cX2_notifyOf 27 = .ok (.aload_n 0, 1) := by decide +kernel
theorem dX2_notifyOf_28 : decode cX2_notifyOf 28 = .ok (.getfield 22, 3) := by decide +kernel
theorem dX2_notifyOf_31 : decode cX2_notifyOf 31 = .ok (.iload_n 2, 1) := by decide +kernel
theorem dX2_notifyOf_32 : decode cX2_notifyOf 32 = .ok (.iconst 0, 1) := by decide +kernel
theorem dX2_notifyOf_33 : decode cX2_notifyOf 33 = .ok (.iload_n 1, 1) := by decide +kernel
theorem dX2_notifyOf_34 : decode cX2_notifyOf 34 = .ok (.invokevirtual 127, 3) := by decide +kernel
theorem dX2_notifyOf_37 : decode cX2_notifyOf 37 = .ok (.return_, 1) := by decide +kernel
set_option maxRecDepth 20000 in
theorem ggX2_renewFingers_X0_fingerStart : GoodIn wsX2_renewFingers wsX0_fingerStart := goodIn_r _ [5, 6, 7, 4, 8] (by decide +kernel) (by decide +kernel)
set_option maxRecDepth 20000 in
theorem gX2_renewFingers_X0_fingerStart : GoodIn wsX2_renewFingers (va_wsS RX2 175 yX0_fingerStart wsX0_fingerStart) := goodIn_app (goodIn_of _ (by decide +kernel)) ggX2_renewFingers_X0_fingerStart
set_option maxRecDepth 20000 in
theorem ggX2_renewFingers_X2_find : GoodIn wsX2_renewFingers wsX2_find := goodIn_r _ [13, 14, 15, 16, 17, 18, 12, 19, 20, 21, 22, 23, 24, 25, 26, 27, 28, 29, 30, 31, 32, 33, 34, 4, 35, 36, 37, 38, 39, 1, 40, 41, 42, 47, 48, 49, 50, 51, 52, 53, 54, 55, 56, 57, 58, 59, 60] (by decide +kernel) (by decide +kernel)
set_option maxRecDepth 20000 in
theorem gX2_renewFingers_X2_find : GoodIn wsX2_renewFingers (wsV RX2 81 RX2 yX2_find wsX2_find) := goodIn_app (goodIn_of _ (by decide +kernel)) ggX2_renewFingers_X2_find
set_option maxRecDepth 20000 in
theorem ggX2_renewFingers_X1_at : GoodIn wsX2_renewFingers wsX1_at := goodIn_r _ [25, 26, 27, 59, 60] (by decide +kernel) (by decide +kernel)
set_option maxRecDepth 20000 in
theorem gX2_renewFingers_X1_at : GoodIn wsX2_renewFingers (wsV RX2 85 RX1 yX1_at wsX1_at) := goodIn_app (goodIn_of _ (by decide +kernel)) ggX2_renewFingers_X1_at
set_option maxRecDepth 20000 in
theorem ggX2_renewFingers_X1_set : GoodIn wsX2_renewFingers wsX1_set := goodIn_r _ [46, 26, 27, 59, 60] (by decide +kernel) (by decide +kernel)
set_option maxRecDepth 20000 in
theorem gX2_renewFingers_X1_set : GoodIn wsX2_renewFingers (wsV RX2 127 RX1 yX1_set wsX1_set) := goodIn_app (goodIn_of _ (by decide +kernel)) ggX2_renewFingers_X1_set
theorem dX2_renewFingers_0 : decode cX2_renewFingers 0 = .ok (.iconst 0, 1) := by decide +kernel
theorem dX2_renewFingers_1 : decode cX2_renewFingers 1 = .ok (.istore_n 2, 1) := by decide +kernel
theorem dX2_renewFingers_2 : decode cX2_renewFingers 2 = .ok (.iconst 0, 1) := by decide +kernel
theorem dX2_renewFingers_3 : decode cX2_renewFingers 3 = .ok (.istore_n 3, 1) := by decide +kernel
theorem dX2_renewFingers_4 : decode cX2_renewFingers 4 = .ok (.iload_n 3, 1) := by decide +kernel
theorem dX2_renewFingers_5 : decode cX2_renewFingers 5 = .ok (.bipush 6, 2) := by decide +kernel
theorem dX2_renewFingers_7 : decode cX2_renewFingers 7 = .ok (.if_icmp .ge 49, 3) := by decide +kernel
theorem dX2_renewFingers_10 : decode cX2_renewFingers 10 = .ok (.aload_n 0, 1) := by decide +kernel
theorem dX2_renewFingers_11 : decode cX2_renewFingers 11 = .ok (.iload_n 1, 1) := by decide +kernel
theorem dX2_renewFingers_12 : decode cX2_renewFingers 12 = .ok (.iload_n 1, 1) := by decide +kernel
theorem dX2_renewFingers_13 : decode cX2_renewFingers 13 = .ok (.iload_n 3, 1) := by decide +kernel
theorem dX2_renewFingers_14 : decode cX2_renewFingers 14 = .ok (.invokestatic 175, 3) := by decide +kernel
theorem dX2_renewFingers_17 : decode cX2_renewFingers 17 = .ok (.invokevirtual 81, 3) := by decide +kernel
theorem dX2_renewFingers_20 : decode cX2_renewFingers 20 = .ok (.istore 4, 2) := by decide +kernel
theorem dX2_renewFingers_22 : decode cX2_renewFingers 22 = .ok (.iload 4, 2) := by decide +kernel
theorem dX2_renewFingers_24 : decode cX2_renewFingers 24 = .ok (.aload_n 0, 1) := by decide +kernel
theorem dX2_renewFingers_25 : decode cX2_renewFingers 25 = .ok (.getfield 25, 3) := by decide +kernel
theorem dX2_renewFingers_28 : decode cX2_renewFingers 28 = .ok (.iload_n 1, 1) := by decide +kernel
theorem dX2_renewFingers_29 : decode cX2_renewFingers 29 = .ok (.iload_n 3, 1) := by decide +kernel
theorem dX2_renewFingers_30 : decode cX2_renewFingers 30 = .ok (.invokevirtual 85, 3) := by decide +kernel
theorem dX2_renewFingers_33 : decode cX2_renewFingers 33 = .ok (.if_icmp .eq 6, 3) := by decide +kernel
theorem dX2_renewFingers_36 : decode cX2_renewFingers 36 = .ok (.iinc 2 1, 3) := by decide +kernel
theorem dX2_renewFingers_39 : decode cX2_renewFingers 39 = .ok (.aload_n 0, 1) := by decide +kernel
theorem dX2_renewFingers_40 : decode cX2_renewFingers 40 = .ok (.getfield 25, 3) := by decide +kernel
theorem dX2_renewFingers_43 : decode cX2_renewFingers 43 = .ok (.iload_n 1, 1) := by decide +kernel
theorem dX2_renewFingers_44 : decode cX2_renewFingers 44 = .ok (.iload_n 3, 1) := by decide +kernel
theorem dX2_renewFingers_45 : decode cX2_renewFingers 45 = .ok (.iload 4, 2) := by decide +kernel
theorem dX2_renewFingers_47 : decode cX2_renewFingers 47 = .ok (.invokevirtual 127, 3) := by decide +kernel
theorem dX2_renewFingers_50 : decode cX2_renewFingers 50 = .ok (.iinc 3 1, 3) := by decide +kernel
theorem dX2_renewFingers_53 : decode cX2_renewFingers 53 = .ok (.goto (-49), 3) := by decide +kernel
theorem dX2_renewFingers_56 : decode cX2_renewFingers 56 = .ok (.iload_n 2, 1) := by decide +kernel
theorem dX2_renewFingers_57 : decode cX2_renewFingers 57 = .ok (.ireturn, 1) := by decide +kernel
set_option maxRecDepth 20000 in
theorem ggX2_spreadValues_X1_at : GoodIn wsX2_spreadValues wsX1_at := goodIn_r _ [6, 7, 8, 72, 73] (by decide +kernel) (by decide +kernel)
set_option maxRecDepth 20000 in
theorem gX2_spreadValues_X1_at : GoodIn wsX2_spreadValues (wsV RX2 85 RX1 yX1_at wsX1_at) := goodIn_app (goodIn_of _ (by decide +kernel)) ggX2_spreadValues_X1_at
set_option maxRecDepth 20000 in
theorem ggX2_spreadValues_X2_spreadValue : GoodIn wsX2_spreadValues wsX2_spreadValue := goodIn_r _ [13, 14, 2, 3, 4, 5, 6, 7, 8, 15, 16, 17, 18, 19, 20, 21, 12, 22, 23, 24, 25, 26, 27, 28, 29, 30, 31, 32, 33, 34, 35, 36, 37, 38, 39, 40, 41, 42, 43, 44, 45, 46, 47, 1, 48, 49, 50, 51, 52, 53, 54, 55, 56, 57, 58, 59, 60, 61, 62, 63, 64, 65, 66, 67, 68, 69, 70, 71, 72, 73] (by decide +kernel) (by decide +kernel)
set_option maxRecDepth 20000 in
theorem gX2_spreadValues_X2_spreadValue : GoodIn wsX2_spreadValues (wsV RX2 178 RX2 yX2_spreadValue wsX2_spreadValue) := goodIn_app (goodIn_of _ (by decide +kernel)) ggX2_spreadValues_X2_spreadValue
theorem dX2_spreadValues_0 : decode cX2_spreadValues 0 = .ok (.iconst 0, 1) := by decide +kernel
theorem dX2_spreadValues_1 : decode cX2_spreadValues 1 = .ok (.istore_n 2, 1) := by decide +kernel
theorem dX2_spreadValues_2 : decode cX2_spreadValues 2 = .ok (.iconst 0, 1) := by decide +kernel
theorem dX2_spreadValues_3 : decode cX2_spreadValues 3 = .ok (.istore_n 3, 1) := by decide +kernel
theorem dX2_spreadValues_4 : decode cX2_spreadValues 4 = .ok (.iload_n 3, 1) := by decide +kernel
theorem dX2_spreadValues_5 : decode cX2_spreadValues 5 = .ok (.bipush 64, 2) := by decide +kernel
theorem dX2_spreadValues_7 : decode cX2_spreadValues 7 = .ok (.if_icmp .ge 31, 3) := by decide +kernel
theorem dX2_spreadValues_10 : decode cX2_spreadValues 10 = .ok (.aload_n 0, 1) := by decide +kernel
theorem dX2_spreadValues_11 : decode cX2_spreadValues 11 = .ok (.getfield 28, 3) := by decide +kernel
theorem dX2_spreadValues_14 : decode cX2_spreadValues 14 = .ok (.iload_n 1, 1) := by decide +kernel
theorem dX2_spreadValues_15 : decode cX2_spreadValues 15 = .ok (.iload_n 3, 1) := by decide +kernel
theorem dX2_spreadValues_16 : decode cX2_spreadValues 16 = .ok (.invokevirtual 85, 3) := by decide +kernel
theorem dX2_spreadValues_19 : decode cX2_spreadValues 19 = .ok (.iconst (-1), 1) := by decide +kernel
theorem dX2_spreadValues_20 : decode cX2_spreadValues 20 = .ok (.if_icmp .eq 12, 3) := by decide +kernel
theorem dX2_spreadValues_23 : decode cX2_spreadValues 23 = .ok (.iload_n 2, 1) := by decide +kernel
theorem dX2_spreadValues_24 : decode cX2_spreadValues 24 = .ok (.aload_n 0, 1) := by decide +kernel
theorem dX2_spreadValues_25 : decode cX2_spreadValues 25 = .ok (.iload_n 1, 1) := by decide +kernel
theorem dX2_spreadValues_26 : decode cX2_spreadValues 26 = .ok (.iload_n 3, 1) := by decide +kernel
theorem dX2_spreadValues_27 : decode cX2_spreadValues 27 = .ok (.invokevirtual 178, 3) := by decide +kernel
theorem dX2_spreadValues_30 : decode cX2_spreadValues 30 = .ok (.iadd, 1) := by decide +kernel
theorem dX2_spreadValues_31 : decode cX2_spreadValues 31 = .ok (.istore_n 2, 1) := by decide +kernel
theorem dX2_spreadValues_32 : decode cX2_spreadValues 32 = .ok (.iinc 3 1, 3) := by decide +kernel
theorem dX2_spreadValues_35 : decode cX2_spreadValues 35 = .ok (.goto (-31), 3) := by decide +kernel
theorem dX2_spreadValues_38 : decode cX2_spreadValues 38 = .ok (.iload_n 2, 1) := by decide +kernel
theorem dX2_spreadValues_39 : decode cX2_spreadValues 39 = .ok (.ireturn, 1) := by decide +kernel
set_option maxRecDepth 20000 in
theorem ggX2_spreadValue_X1_at : GoodIn wsX2_spreadValue wsX1_at := goodIn_r _ [6, 7, 8, 68, 69] (by decide +kernel) (by decide +kernel)
set_option maxRecDepth 20000 in
theorem gX2_spreadValue_X1_at : GoodIn wsX2_spreadValue (wsV RX2 85 RX1 yX1_at wsX1_at) := goodIn_app (goodIn_of _ (by decide +kernel)) ggX2_spreadValue_X1_at
set_option maxRecDepth 20000 in
theorem ggX2_spreadValue_X0_isUpTo : GoodIn wsX2_spreadValue wsX0_isUpTo := goodIn_r _ [12] (by decide +kernel) (by decide +kernel)
set_option maxRecDepth 20000 in
theorem gX2_spreadValue_X0_isUpTo : GoodIn wsX2_spreadValue (va_wsS RX2 181 yX0_isUpTo wsX0_isUpTo) := goodIn_app (goodIn_of _ (by decide +kernel)) ggX2_spreadValue_X0_isUpTo
set_option maxRecDepth 20000 in
theorem ggX2_spreadValue_X2_find : GoodIn wsX2_spreadValue wsX2_find := goodIn_r _ [17, 18, 19, 20, 21, 22, 16, 23, 24, 2, 3, 4, 5, 6, 7, 8, 25, 26, 27, 28, 29, 9, 10, 11, 12, 30, 31, 32, 33, 34, 35, 36, 37, 56, 57, 58, 59, 60, 61, 62, 63, 64, 65, 66, 67, 68, 69] (by decide +kernel) (by decide +kernel)
set_option maxRecDepth 20000 in
theorem gX2_spreadValue_X2_find : GoodIn wsX2_spreadValue (wsV RX2 81 RX2 yX2_find wsX2_find) := goodIn_app (goodIn_of _ (by decide +kernel)) ggX2_spreadValue_X2_find
set_option maxRecDepth 20000 in
theorem ggX2_spreadValue_X2_giveCopy : GoodIn wsX2_spreadValue wsX2_giveCopy := goodIn_r _ [41, 42, 43, 2, 3, 4, 5, 6, 7, 8, 44, 45, 46, 47, 56, 57, 58, 59, 60, 61, 62, 63, 64, 65, 66, 67, 68, 69] (by decide +kernel) (by decide +kernel)
set_option maxRecDepth 20000 in
theorem gX2_spreadValue_X2_giveCopy : GoodIn wsX2_spreadValue (wsV RX2 159 RX2 yX2_giveCopy wsX2_giveCopy) := goodIn_app (goodIn_of _ (by decide +kernel)) ggX2_spreadValue_X2_giveCopy
set_option maxRecDepth 20000 in
theorem ggX2_spreadValue_X2_copyToHeirs : GoodIn wsX2_spreadValue wsX2_copyToHeirs := goodIn_r _ [51, 52, 53, 54, 16, 55, 24, 2, 3, 4, 5, 6, 7, 8, 25, 26, 27, 28, 29, 38, 39, 40, 41, 42, 43, 44, 45, 46, 47, 56, 57, 58, 59, 60, 61, 62, 63, 64, 65, 66, 67, 68, 69] (by decide +kernel) (by decide +kernel)
set_option maxRecDepth 20000 in
theorem gX2_spreadValue_X2_copyToHeirs : GoodIn wsX2_spreadValue (wsV RX2 130 RX2 yX2_copyToHeirs wsX2_copyToHeirs) := goodIn_app (goodIn_of _ (by decide +kernel)) ggX2_spreadValue_X2_copyToHeirs
theorem dX2_spreadValue_0 : decode cX2_spreadValue 0 = .ok (.aload_n 0, 1) := by decide +kernel
theorem dX2_spreadValue_1 : decode cX2_spreadValue 1 = .ok (.getfield 22, 3) := by decide +kernel
theorem dX2_spreadValue_4 : decode cX2_spreadValue 4 = .ok (.iload_n 1, 1) := by decide +kernel
theorem dX2_spreadValue_5 : decode cX2_spreadValue 5 = .ok (.iconst 0, 1) := by decide +kernel
theorem dX2_spreadValue_6 : decode cX2_spreadValue 6 = .ok (.invokevirtual 85, 3) := by decide +kernel
theorem dX2_spreadValue_9 : decode cX2_spreadValue 9 = .ok (.istore_n 3, 1) := by decide +kernel
theorem dX2_spreadValue_10 : decode cX2_spreadValue 10 = .ok (.iload_n 3, 1) := by decide +kernel
theorem dX2_spreadValue_11 : decode cX2_spreadValue 11 = .ok (.iconst (-1), 1) := by decide +kernel
theorem dX2_spreadValue_12 : decode cX2_spreadValue 12 = .ok (.if_icmp .eq 25, 3) := by decide +kernel
theorem dX2_spreadValue_15 : decode cX2_spreadValue 15 = .ok (.iload_n 2, 1) := by decide +kernel
theorem dX2_spreadValue_16 : decode cX2_spreadValue 16 = .ok (.iload_n 3, 1) := by decide +kernel
theorem dX2_spreadValue_17 : decode cX2_spreadValue 17 = .ok (.iload_n 1, 1) := by decide +kernel
theorem dX2_spreadValue_18 : decode cX2_spreadValue 18 = .ok (.invokestatic 181, 3) := by decide +kernel
theorem dX2_spreadValue_21 : decode cX2_spreadValue 21 = .ok (.ifCond .ne 16, 3) := by decide +kernel
theorem dX2_spreadValue_24 : decode cX2_spreadValue 24 = .ok (.aload_n 0, 1) := by decide +kernel
theorem dX2_spreadValue_25 : decode cX2_spreadValue 25 = .ok (.iload_n 1, 1) := by decide +kernel
theorem dX2_spreadValue_26 : decode cX2_spreadValue 26 = .ok (.aload_n 0, 1) := by decide +kernel
theorem dX2_spreadValue_27 : decode cX2_spreadValue 27 = .ok (.iload_n 1, 1) := by decide +kernel
theorem dX2_spreadValue_28 : decode cX2_spreadValue 28 = .ok (.iload_n 2, 1) := by decide +kernel
theorem dX2_spreadValue_29 : decode cX2_spreadValue 29 = .ok (.invokevirtual 81, 3) := by decide +kernel
theorem dX2_spreadValue_32 : decode cX2_spreadValue 32 = .ok (.iload_n 2, 1) := by decide +kernel
theorem dX2_spreadValue_33 : decode cX2_spreadValue 33 = .ok (.invokevirtual 159, 3) := by decide +kernel
theorem dX2_spreadValue_36 : decode cX2_spreadValue 36 = .ok (.ireturn, 1) := by decide +kernel
theorem dX2_spreadValue_37 : decode cX2_spreadValue 37 = .ok (.aload_n 0, 1) := by decide +kernel
theorem dX2_spreadValue_38 : decode cX2_spreadValue 38 = .ok (.iload_n 1, 1) := by decide +kernel
theorem dX2_spreadValue_39 : decode cX2_spreadValue 39 = .ok (.iload_n 2, 1) := by decide +kernel
theorem dX2_spreadValue_40 : decode cX2_spreadValue 40 = .ok (.invokevirtual 130, 3) := by decide +kernel
theorem dX2_spreadValue_43 : decode cX2_spreadValue 43 = .ok (.ireturn, 1) := by decide +kernel
set_option maxRecDepth 20000 in
theorem ggX2_find_X2_firstLivingSuccessor : GoodIn wsX2_find wsX2_firstLivingSuccessor := goodIn_r _ [7, 8, 9, 10, 11, 12, 13, 14, 15, 16, 17, 18, 6, 19, 20, 33, 34, 35, 36, 37, 38, 39, 40, 41, 42, 43, 44, 45, 46] (by decide +kernel) (by decide +kernel)
set_option maxRecDepth 20000 in
theorem gX2_find_X2_firstLivingSuccessor : GoodIn wsX2_find (wsV RX2 91 RX2 yX2_firstLivingSuccessor wsX2_firstLivingSuccessor) := goodIn_app (goodIn_of _ (by decide +kernel)) ggX2_find_X2_firstLivingSuccessor
set_option maxRecDepth 20000 in
theorem ggX2_find_X0_isUpTo : GoodIn wsX2_find wsX0_isUpTo := goodIn_r _ [24] (by decide +kernel) (by decide +kernel)
set_option maxRecDepth 20000 in
theorem gX2_find_X0_isUpTo : GoodIn wsX2_find (va_wsS RX2 181 yX0_isUpTo wsX0_isUpTo) := goodIn_app (goodIn_of _ (by decide +kernel)) ggX2_find_X0_isUpTo
set_option maxRecDepth 20000 in
theorem ggX2_find_X2_hopTowards : GoodIn wsX2_find wsX2_hopTowards := goodIn_r _ [28, 29, 9, 10, 11, 12, 13, 14, 15, 16, 17, 18, 6, 19, 20, 30, 31, 23, 32, 33, 34, 35, 36, 37, 38, 39, 40, 41, 42, 43, 44, 45, 46] (by decide +kernel) (by decide +kernel)
set_option maxRecDepth 20000 in
theorem gX2_find_X2_hopTowards : GoodIn wsX2_find (wsV RX2 184 RX2 yX2_hopTowards wsX2_hopTowards) := goodIn_app (goodIn_of _ (by decide +kernel)) ggX2_find_X2_hopTowards
theorem dX2_find_0 : decode cX2_find 0 = .ok (.iload_n 1, 1) := by decide +kernel
theorem dX2_find_1 : decode cX2_find 1 = .ok (.istore_n 3, 1) := by decide +kernel
theorem dX2_find_2 : decode cX2_find 2 = .ok (.iconst 0, 1) := by decide +kernel
theorem dX2_find_3 : decode cX2_find 3 = .ok (.istore 4, 2) := by decide +kernel
theorem dX2_find_5 : decode cX2_find 5 = .ok (.iload 4, 2) := by decide +kernel
theorem dX2_find_7 : decode cX2_find 7 = .ok (.aload_n 0, 1) := by decide +kernel
theorem dX2_find_8 : decode cX2_find 8 = .ok (.getfield 38, 3) := by decide +kernel
theorem dX2_find_11 : decode cX2_find 11 = .ok (.arraylength, 1) := by decide +kernel
theorem dX2_find_12 : decode cX2_find 12 = .ok (.if_icmp .ge 52, 3) := by decide +kernel
theorem dX2_find_15 : decode cX2_find 15 = .ok (.aload_n 0, 1) := by decide +kernel
theorem dX2_find_16 : decode cX2_find 16 = .ok (.getfield 38, 3) := by decide +kernel
theorem dX2_find_19 : decode cX2_find 19 = .ok (.iload 4, 2) := by decide +kernel
theorem dX2_find_21 : decode cX2_find 21 = .ok (.iload_n 3, 1) := by decide +kernel
theorem dX2_find_22 : decode cX2_find 22 = .ok (.iastore, 1) := by decide +kernel
theorem dX2_find_23 : decode cX2_find 23 = .ok (.aload_n 0, 1) := by decide +kernel
theorem dX2_find_24 : decode cX2_find 24 = .ok (.iload 4, 2) := by decide +kernel
theorem dX2_find_26 : decode cX2_find 26 = .ok (.putfield 42, 3) := by decide +kernel
theorem dX2_find_29 : decode cX2_find 29 = .ok (.aload_n 0, 1) := by decide +kernel
theorem dX2_find_30 : decode cX2_find 30 = .ok (.iload_n 3, 1) := by decide +kernel
theorem dX2_find_31 : decode cX2_find 31 = .ok (.invokevirtual 91, 3) := by decide +kernel
theorem dX2_find_34 : decode cX2_find 34 = .ok (.istore 5, 2) := by decide +kernel
theorem dX2_find_36 : decode cX2_find 36 = .ok (.iload_n 2, 1) := by decide +kernel
theorem dX2_find_37 : decode cX2_find 37 = .ok (.iload_n 3, 1) := by decide +kernel
theorem dX2_find_38 : decode cX2_find 38 = .ok (.iload 5, 2) := by decide +kernel
theorem dX2_find_40 : decode cX2_find 40 = .ok (.invokestatic 181, 3) := by decide +kernel
theorem dX2_find_43 : decode cX2_find 43 = .ok (.ifCond .eq 6, 3) := by decide +kernel
theorem dX2_find_46 : decode cX2_find 46 = .ok (.iload 5, 2) := by decide +kernel
theorem dX2_find_48 : decode cX2_find 48 = .ok (.ireturn, 1) := by decide +kernel
theorem dX2_find_49 : decode cX2_find 49 = .ok (.aload_n 0, 1) := by decide +kernel
theorem dX2_find_50 : decode cX2_find 50 = .ok (.iload_n 2, 1) := by decide +kernel
theorem dX2_find_51 : decode cX2_find 51 = .ok (.iload_n 3, 1) := by decide +kernel
theorem dX2_find_52 : decode cX2_find 52 = .ok (.iload 5, 2) := by decide +kernel
theorem dX2_find_54 : decode cX2_find 54 = .ok (.invokevirtual 184, 3) := by decide +kernel
theorem dX2_find_57 : decode cX2_find 57 = .ok (.istore_n 3, 1) := by decide +kernel
theorem dX2_find_58 : decode cX2_find 58 = .ok (.iinc 4 1, 3) := by decide +kernel
theorem dX2_find_61 : decode cX2_find 61 = .ok (.goto (-56), 3) := by decide +kernel
theorem dX2_find_64 : decode cX2_find 64 = .ok (.iload_n 3, 1) := by decide +kernel
theorem dX2_find_65 : decode cX2_find 65 = .ok (.ireturn, 1) := by decide +kernel
set_option maxRecDepth 20000 in
theorem ggX2_hopTowards_X1_at : GoodIn wsX2_hopTowards wsX1_at := goodIn_r _ [6, 7, 8, 31, 32] (by decide +kernel) (by decide +kernel)
set_option maxRecDepth 20000 in
theorem gX2_hopTowards_X1_at : GoodIn wsX2_hopTowards (wsV RX2 85 RX1 yX1_at wsX1_at) := goodIn_app (goodIn_of _ (by decide +kernel)) ggX2_hopTowards_X1_at
set_option maxRecDepth 20000 in
theorem ggX2_hopTowards_X2_isAlive : GoodIn wsX2_hopTowards wsX2_isAlive := goodIn_r _ [13, 14, 19, 20, 21, 22, 23, 24, 25, 26, 27, 28, 29, 30] (by decide +kernel) (by decide +kernel)
set_option maxRecDepth 20000 in
theorem gX2_hopTowards_X2_isAlive : GoodIn wsX2_hopTowards (wsV RX2 72 RX2 yX2_isAlive wsX2_isAlive) := goodIn_app (goodIn_of _ (by decide +kernel)) ggX2_hopTowards_X2_isAlive
set_option maxRecDepth 20000 in
theorem ggX2_hopTowards_X0_isBetween : GoodIn wsX2_hopTowards wsX0_isBetween := goodIn_r _ [18] (by decide +kernel) (by decide +kernel)
set_option maxRecDepth 20000 in
theorem gX2_hopTowards_X0_isBetween : GoodIn wsX2_hopTowards (va_wsS RX2 166 yX0_isBetween wsX0_isBetween) := goodIn_app (goodIn_of _ (by decide +kernel)) ggX2_hopTowards_X0_isBetween
theorem dX2_hopTowards_0 : decode cX2_hopTowards 0 = .ok (.iconst 5, 1) := by decide +kernel
theorem dX2_hopTowards_1 : decode cX2_hopTowards 1 = .ok (.istore 4, 2) := by decide +kernel
theorem dX2_hopTowards_3 : decode cX2_hopTowards 3 = .ok (.iload 4, 2) := by decide +kernel
theorem dX2_hopTowards_5 : decode cX2_hopTowards 5 = .ok (.ifCond .lt 43, 3) := by decide +kernel
theorem dX2_hopTowards_8 : decode cX2_hopTowards 8 = .ok (.aload_n 0, 1) := by decide +kernel
theorem dX2_hopTowards_9 : decode cX2_hopTowards 9 = .ok (.getfield 25, 3) := by decide +kernel
theorem dX2_hopTowards_12 : decode cX2_hopTowards 12 = .ok (.iload_n 2, 1) := by decide +kernel
theorem dX2_hopTowards_13 : decode cX2_hopTowards 13 = .ok (.iload 4, 2) := by decide +kernel
theorem dX2_hopTowards_15 : decode cX2_hopTowards 15 = .ok (.invokevirtual 85, 3) := by decide +kernel
theorem dX2_hopTowards_18 : decode cX2_hopTowards 18 = .ok (.istore 5, 2) := by decide +kernel
theorem dX2_hopTowards_20 : decode cX2_hopTowards 20 = .ok (.aload_n 0, 1) := by decide +kernel
theorem dX2_hopTowards_21 : decode cX2_hopTowards 21 = .ok (.iload 5, 2) := by decide +kernel
theorem dX2_hopTowards_23 : decode cX2_hopTowards 23 = .ok (.invokevirtual 72, 3) := by decide +kernel
theorem dX2_hopTowards_26 : decode cX2_hopTowards 26 = .ok (.ifCond .eq 16, 3) := by decide +kernel
theorem dX2_hopTowards_29 : decode cX2_hopTowards 29 = .ok (.iload 5, 2) := by decide +kernel
theorem dX2_hopTowards_31 : decode cX2_hopTowards 31 = .ok (.iload_n 2, 1) := by decide +kernel
theorem dX2_hopTowards_32 : decode cX2_hopTowards 32 = .ok (.iload_n 1, 1) := by decide +kernel
theorem dX2_hopTowards_33 : decode cX2_hopTowards 33 = .ok (.invokestatic 166, 3) := by decide +kernel
theorem dX2_hopTowards_36 : decode cX2_hopTowards 36 = .ok (.ifCond .eq 6, 3) := by decide +kernel
theorem dX2_hopTowards_39 : decode cX2_hopTowards 39 = .ok (.iload 5, 2) := by decide +kernel
theorem dX2_hopTowards_41 : decode cX2_hopTowards 41 = .ok (.ireturn, 1) := by decide +kernel
theorem dX2_hopTowards_42 : decode cX2_hopTowards 42 = .ok (.iinc 4 (-1), 3) := by decide +kernel
theorem dX2_hopTowards_45 : decode cX2_hopTowards 45 = .ok (.goto (-42), 3) := by decide +kernel
theorem dX2_hopTowards_48 : decode cX2_hopTowards 48 = .ok (.iload_n 3, 1) := by decide +kernel
theorem dX2_hopTowards_49 : decode cX2_hopTowards 49 = .ok (.ireturn, 1) := by decide +kernel
set_option maxRecDepth 20000 in
theorem ggX2_giveCopy_X1_at : GoodIn wsX2_giveCopy wsX1_at := goodIn_r _ [7, 8, 9, 26, 27] (by decide +kernel) (by decide +kernel)
set_option maxRecDepth 20000 in
theorem gX2_giveCopy_X1_at : GoodIn wsX2_giveCopy (wsV RX2 85 RX1 yX1_at wsX1_at) := goodIn_app (goodIn_of _ (by decide +kernel)) ggX2_giveCopy_X1_at
set_option maxRecDepth 20000 in
theorem ggX2_giveCopy_X1_set : GoodIn wsX2_giveCopy wsX1_set := goodIn_r _ [13, 8, 9, 26, 27] (by decide +kernel) (by decide +kernel)
set_option maxRecDepth 20000 in
theorem gX2_giveCopy_X1_set : GoodIn wsX2_giveCopy (wsV RX2 127 RX1 yX1_set wsX1_set) := goodIn_app (goodIn_of _ (by decide +kernel)) ggX2_giveCopy_X1_set
theorem dX2_giveCopy_0 : decode cX2_giveCopy 0 = .ok (.aload_n 0, 1) := by decide +kernel
theorem dX2_giveCopy_1 : decode cX2_giveCopy 1 = .ok (.getfield 31, 3) := by decide +kernel
theorem dX2_giveCopy_4 : decode cX2_giveCopy 4 = .ok (.iload_n 1, 1) := by decide +kernel
theorem dX2_giveCopy_5 : decode cX2_giveCopy 5 = .ok (.iload_n 3, 1) := by decide +kernel
theorem dX2_giveCopy_6 : decode cX2_giveCopy 6 = .ok (.invokevirtual 85, 3) := by decide +kernel
theorem dX2_giveCopy_9 : decode cX2_giveCopy 9 = .ok (.istore 4, 2) := by decide +kernel
theorem dX2_giveCopy_11 : decode cX2_giveCopy 11 = .ok (.iload 4, 2) := by decide +kernel
theorem dX2_giveCopy_13 : decode cX2_giveCopy 13 = .ok (.aload_n 0, 1) := by decide +kernel
theorem dX2_giveCopy_14 : decode cX2_giveCopy 14 = .ok (.getfield 31, 3) := by decide +kernel
theorem dX2_giveCopy_17 : decode cX2_giveCopy 17 = .ok (.iload_n 2, 1) := by decide +kernel
theorem dX2_giveCopy_18 : decode cX2_giveCopy 18 = .ok (.iload_n 3, 1) := by decide +kernel
theorem dX2_giveCopy_19 : decode cX2_giveCopy 19 = .ok (.invokevirtual 85, 3) := by decide +kernel
theorem dX2_giveCopy_22 : decode cX2_giveCopy 22 = .ok (.if_icmp .gt 5, 3) := by decide +kernel
theorem dX2_giveCopy_25 : decode cX2_giveCopy 25 = .ok (.iconst 0, 1) := by decide +kernel
theorem dX2_giveCopy_26 : decode cX2_giveCopy 26 = .ok (.ireturn, 1) := by decide +kernel
theorem dX2_giveCopy_27 : decode cX2_giveCopy 27 = .ok (.aload_n 0, 1) := by decide +kernel
theorem dX2_giveCopy_28 : decode cX2_giveCopy 28 = .ok (.getfield 28, 3) := by decide +kernel
theorem dX2_giveCopy_31 : decode cX2_giveCopy 31 = .ok (.iload_n 2, 1) := by decide +kernel
theorem dX2_giveCopy_32 : decode cX2_giveCopy 32 = .ok (.iload_n 3, 1) := by decide +kernel
theorem dX2_giveCopy_33 : decode cX2_giveCopy 33 = .ok (.aload_n 0, 1) := by decide +kernel
theorem dX2_giveCopy_34 : decode cX2_giveCopy 34 = .ok (.getfield 28, 3) := by decide +kernel
theorem dX2_giveCopy_37 : decode cX2_giveCopy 37 = .ok (.iload_n 1, 1) := by decide +kernel
theorem dX2_giveCopy_38 : decode cX2_giveCopy 38 = .ok (.iload_n 3, 1) := by decide +kernel
theorem dX2_giveCopy_39 : decode cX2_giveCopy 39 = .ok (.invokevirtual 85, 3) := by decide +kernel
theorem dX2_giveCopy_42 : decode cX2_giveCopy 42 = .ok (.invokevirtual 127, 3) := by decide +kernel
theorem dX2_giveCopy_45 : decode cX2_giveCopy 45 = .ok (.aload_n 0, 1) := by decide +kernel
theorem dX2_giveCopy_46 : decode cX2_giveCopy 46 = .ok (.getfield 31, 3) := by decide +kernel
theorem dX2_giveCopy_49 : decode cX2_giveCopy 49 = .ok (.iload_n 2, 1) := by decide +kernel
theorem dX2_giveCopy_50 : decode cX2_giveCopy 50 = .ok (.iload_n 3, 1) := by decide +kernel
theorem dX2_giveCopy_51 : decode cX2_giveCopy 51 = .ok (.iload 4, 2) := by decide +kernel
theorem dX2_giveCopy_53 : decode cX2_giveCopy 53 = .ok (.invokevirtual 127, 3) := by decide +kernel
theorem dX2_giveCopy_56 : decode cX2_giveCopy 56 = .ok (.iconst 1, 1) := by decide +kernel
theorem dX2_giveCopy_57 : decode cX2_giveCopy 57 = .ok (.ireturn, 1) := by decide +kernel
set_option maxRecDepth 20000 in
theorem ggX2_copyToHeirs_X2_firstHeir : GoodIn wsX2_copyToHeirs wsX2_firstHeir := goodIn_r _ [5, 6, 7, 8, 9, 10, 11, 12, 13, 14, 15, 16, 4, 17, 18, 29, 30, 31, 32, 33, 34, 35, 36, 37, 38, 39, 40, 41, 42] (by decide +kernel) (by decide +kernel)
set_option maxRecDepth 20000 in
theorem gX2_copyToHeirs_X2_firstHeir : GoodIn wsX2_copyToHeirs (wsV RX2 187 RX2 yX2_firstHeir wsX2_firstHeir) := goodIn_app (goodIn_of _ (by decide +kernel)) ggX2_copyToHeirs_X2_firstHeir
set_option maxRecDepth 20000 in
theorem ggX2_copyToHeirs_X2_giveCopy : GoodIn wsX2_copyToHeirs wsX2_giveCopy := goodIn_r _ [22, 23, 24, 7, 8, 9, 10, 11, 12, 13, 25, 26, 27, 28, 29, 30, 31, 32, 33, 34, 35, 36, 37, 38, 39, 40, 41, 42] (by decide +kernel) (by decide +kernel)
set_option maxRecDepth 20000 in
theorem gX2_copyToHeirs_X2_giveCopy : GoodIn wsX2_copyToHeirs (wsV RX2 159 RX2 yX2_giveCopy wsX2_giveCopy) := goodIn_app (goodIn_of _ (by decide +kernel)) ggX2_copyToHeirs_X2_giveCopy
theorem dX2_copyToHeirs_0 : decode cX2_copyToHeirs 0 = .ok (.aload_n 0, 1) := by decide +kernel
theorem dX2_copyToHeirs_1 : decode cX2_copyToHeirs 1 = .ok (.iload_n 1, 1) := by decide +kernel
theorem dX2_copyToHeirs_2 : decode cX2_copyToHeirs 2 = .ok (.iconst (-1), 1) := by decide +kernel
theorem dX2_copyToHeirs_3 : decode cX2_copyToHeirs 3 = .ok (.invokevirtual 187, 3) := by decide +kernel
theorem dX2_copyToHeirs_6 : decode cX2_copyToHeirs 6 = .ok (.istore_n 3, 1) := by decide +kernel
theorem dX2_copyToHeirs_7 : decode cX2_copyToHeirs 7 = .ok (.aload_n 0, 1) := by decide +kernel
theorem dX2_copyToHeirs_8 : decode cX2_copyToHeirs 8 = .ok (.iload_n 1, 1) := by decide +kernel
theorem dX2_copyToHeirs_9 : decode cX2_copyToHeirs 9 = .ok (.iload_n 3, 1) := by decide +kernel
theorem dX2_copyToHeirs_10 : decode cX2_copyToHeirs 10 = .ok (.invokevirtual 187, 3) := by decide +kernel
theorem dX2_copyToHeirs_13 : decode cX2_copyToHeirs 13 = .ok (.istore 4, 2) := by decide +kernel
theorem dX2_copyToHeirs_15 : decode cX2_copyToHeirs 15 = .ok (.iconst 0, 1) := by decide +kernel
theorem dX2_copyToHeirs_16 : decode cX2_copyToHeirs 16 = .ok (.istore 5, 2) := by decide +kernel
theorem dX2_copyToHeirs_18 : decode cX2_copyToHeirs 18 = .ok (.iload_n 3, 1) := by decide +kernel
theorem dX2_copyToHeirs_19 : decode cX2_copyToHeirs 19 = .ok (.iconst (-1), 1) := by decide +kernel
theorem dX2_copyToHeirs_20 : decode cX2_copyToHeirs 20 = .ok (.if_icmp .eq 15, 3) := by decide +kernel
theorem dX2_copyToHeirs_23 : decode cX2_copyToHeirs 23 = .ok (.iload 5, 2) := by decide +kernel
theorem dX2_copyToHeirs_25 : decode cX2_copyToHeirs 25 = .ok (.aload_n 0, 1) := by decide +kernel
theorem dX2_copyToHeirs_26 : decode cX2_copyToHeirs 26 = .ok (.iload_n 1, 1) := by decide +kernel
theorem dX2_copyToHeirs_27 : decode cX2_copyToHeirs 27 = .ok (.iload_n 3, 1) := by decide +kernel
theorem dX2_copyToHeirs_28 : decode cX2_copyToHeirs 28 = .ok (.iload_n 2, 1) := by decide +kernel
theorem dX2_copyToHeirs_29 : decode cX2_copyToHeirs 29 = .ok (.invokevirtual 159, 3) := by decide +kernel
theorem dX2_copyToHeirs_32 : decode cX2_copyToHeirs 32 = .ok (.iadd, 1) := by decide +kernel
theorem dX2_copyToHeirs_33 : decode cX2_copyToHeirs 33 = .ok (.istore 5, 2) := by decide +kernel
theorem dX2_copyToHeirs_35 : decode cX2_copyToHeirs 35 = .ok (.iload 4, 2) := by decide +kernel
theorem dX2_copyToHeirs_37 : decode cX2_copyToHeirs 37 = .ok (.iconst (-1), 1) := by decide +kernel
theorem dX2_copyToHeirs_38 : decode cX2_copyToHeirs 38 = .ok (.if_icmp .eq 16, 3) := by decide +kernel
theorem dX2_copyToHeirs_41 : decode cX2_copyToHeirs 41 = .ok (.iload 5, 2) := by decide +kernel
theorem dX2_copyToHeirs_43 : decode cX2_copyToHeirs 43 = .ok (.aload_n 0, 1) := by decide +kernel
theorem dX2_copyToHeirs_44 : decode cX2_copyToHeirs 44 = .ok (.iload_n 1, 1) := by decide +kernel
theorem dX2_copyToHeirs_45 : decode cX2_copyToHeirs 45 = .ok (.iload 4, 2) := by decide +kernel
theorem dX2_copyToHeirs_47 : decode cX2_copyToHeirs 47 = .ok (.iload_n 2, 1) := by decide +kernel
theorem dX2_copyToHeirs_48 : decode cX2_copyToHeirs 48 = .ok (.invokevirtual 159, 3) := by decide +kernel
theorem dX2_copyToHeirs_51 : decode cX2_copyToHeirs 51 = .ok (.iadd, 1) := by decide +kernel
theorem dX2_copyToHeirs_52 : decode cX2_copyToHeirs 52 = .ok (.istore 5, 2) := by decide +kernel
theorem dX2_copyToHeirs_54 : decode cX2_copyToHeirs 54 = .ok (.iload 5, 2) := by decide +kernel
theorem dX2_copyToHeirs_56 : decode cX2_copyToHeirs 56 = .ok (.ireturn, 1) := by decide +kernel
set_option maxRecDepth 20000 in
theorem ggX2_firstLivingUpFrom_X0_onward : GoodIn wsX2_firstLivingUpFrom wsX0_onward := goodIn_r _ [4] (by decide +kernel) (by decide +kernel)
set_option maxRecDepth 20000 in
theorem gX2_firstLivingUpFrom_X0_onward : GoodIn wsX2_firstLivingUpFrom (va_wsS RX2 190 yX0_onward wsX0_onward) := goodIn_app (goodIn_of _ (by decide +kernel)) ggX2_firstLivingUpFrom_X0_onward
set_option maxRecDepth 20000 in
theorem ggX2_firstLivingUpFrom_X2_isAlive : GoodIn wsX2_firstLivingUpFrom wsX2_isAlive := goodIn_r _ [9, 10, 11, 12, 13, 14, 15, 16, 17, 18, 19, 20, 21, 22] (by decide +kernel) (by decide +kernel)
set_option maxRecDepth 20000 in
theorem gX2_firstLivingUpFrom_X2_isAlive : GoodIn wsX2_firstLivingUpFrom (wsV RX2 72 RX2 yX2_isAlive wsX2_isAlive) := goodIn_app (goodIn_of _ (by decide +kernel)) ggX2_firstLivingUpFrom_X2_isAlive
theorem dX2_firstLivingUpFrom_0 : decode cX2_firstLivingUpFrom 0 = .ok (.iconst 0, 1) := by decide +kernel
theorem dX2_firstLivingUpFrom_1 : decode cX2_firstLivingUpFrom 1 = .ok (.istore_n 2, 1) := by decide +kernel
theorem dX2_firstLivingUpFrom_2 : decode cX2_firstLivingUpFrom 2 = .ok (.iload_n 2, 1) := by decide +kernel
theorem dX2_firstLivingUpFrom_3 : decode cX2_firstLivingUpFrom 3 = .ok (.bipush 64, 2) := by decide +kernel
theorem dX2_firstLivingUpFrom_5 : decode cX2_firstLivingUpFrom 5 = .ok (.if_icmp .ge 25, 3) := by decide +kernel
theorem dX2_firstLivingUpFrom_8 : decode cX2_firstLivingUpFrom 8 = .ok (.iload_n 1, 1) := by decide +kernel
theorem dX2_firstLivingUpFrom_9 : decode cX2_firstLivingUpFrom 9 = .ok (.iload_n 2, 1) := by decide +kernel
theorem dX2_firstLivingUpFrom_10 : decode cX2_firstLivingUpFrom 10 = .ok (.invokestatic 190, 3) := by decide +kernel
theorem dX2_firstLivingUpFrom_13 : decode cX2_firstLivingUpFrom 13 = .ok (.istore_n 3, 1) := by decide +kernel
theorem dX2_firstLivingUpFrom_14 : decode cX2_firstLivingUpFrom 14 = .ok (.aload_n 0, 1) := by decide +kernel
theorem dX2_firstLivingUpFrom_15 : decode cX2_firstLivingUpFrom 15 = .ok (.iload_n 3, 1) := by decide +kernel
theorem dX2_firstLivingUpFrom_16 : decode cX2_firstLivingUpFrom 16 = .ok (.invokevirtual 72, 3) := by decide +kernel
theorem dX2_firstLivingUpFrom_19 : decode cX2_firstLivingUpFrom 19 = .ok (.ifCond .eq 5, 3) := by decide +kernel
theorem dX2_firstLivingUpFrom_22 : decode cX2_firstLivingUpFrom 22 = .ok (.iload_n 3, 1) := by decide +kernel
theorem dX2_firstLivingUpFrom_23 : decode cX2_firstLivingUpFrom 23 = .ok (.ireturn, 1) := by decide +kernel
theorem dX2_firstLivingUpFrom_24 : decode cX2_firstLivingUpFrom 24 = .ok (.iinc 2 1, 3) := by decide +kernel
theorem dX2_firstLivingUpFrom_27 : decode cX2_firstLivingUpFrom 27 = .ok (.goto (-25), 3) := by decide +kernel
theorem dX2_firstLivingUpFrom_30 : decode cX2_firstLivingUpFrom 30 = .ok (.iconst (-1), 1) := by decide +kernel
theorem dX2_firstLivingUpFrom_31 : decode cX2_firstLivingUpFrom 31 = .ok (.ireturn, 1) := by decide +kernel
set_option maxRecDepth 20000 in
theorem ggX2_firstLivingDownFrom_X0_onward : GoodIn wsX2_firstLivingDownFrom wsX0_onward := goodIn_r _ [4] (by decide +kernel) (by decide +kernel)
set_option maxRecDepth 20000 in
theorem gX2_firstLivingDownFrom_X0_onward : GoodIn wsX2_firstLivingDownFrom (va_wsS RX2 190 yX0_onward wsX0_onward) := goodIn_app (goodIn_of _ (by decide +kernel)) ggX2_firstLivingDownFrom_X0_onward
set_option maxRecDepth 20000 in
theorem ggX2_firstLivingDownFrom_X2_isAlive : GoodIn wsX2_firstLivingDownFrom wsX2_isAlive := goodIn_r _ [9, 10, 11, 12, 13, 14, 15, 16, 17, 18, 19, 20, 21, 22] (by decide +kernel) (by decide +kernel)
set_option maxRecDepth 20000 in
theorem gX2_firstLivingDownFrom_X2_isAlive : GoodIn wsX2_firstLivingDownFrom (wsV RX2 72 RX2 yX2_isAlive wsX2_isAlive) := goodIn_app (goodIn_of _ (by decide +kernel)) ggX2_firstLivingDownFrom_X2_isAlive
theorem dX2_firstLivingDownFrom_0 : decode cX2_firstLivingDownFrom 0 = .ok (.iconst 0, 1) := by decide +kernel
theorem dX2_firstLivingDownFrom_1 : decode cX2_firstLivingDownFrom 1 = .ok (.istore_n 2, 1) := by decide +kernel
theorem dX2_firstLivingDownFrom_2 : decode cX2_firstLivingDownFrom 2 = .ok (.iload_n 2, 1) := by decide +kernel
theorem dX2_firstLivingDownFrom_3 : decode cX2_firstLivingDownFrom 3 = .ok (.bipush 64, 2) := by decide +kernel
theorem dX2_firstLivingDownFrom_5 : decode cX2_firstLivingDownFrom 5 = .ok (.if_icmp .ge 26, 3) := by decide +kernel
theorem dX2_firstLivingDownFrom_8 : decode cX2_firstLivingDownFrom 8 = .ok (.iload_n 1, 1) := by decide +kernel
theorem dX2_firstLivingDownFrom_9 : decode cX2_firstLivingDownFrom 9 = .ok (.iload_n 2, 1) := by decide +kernel
theorem dX2_firstLivingDownFrom_10 : decode cX2_firstLivingDownFrom 10 = .ok (.ineg, 1) := by decide +kernel
theorem dX2_firstLivingDownFrom_11 : decode cX2_firstLivingDownFrom 11 = .ok (.invokestatic 190, 3) := by decide +kernel
theorem dX2_firstLivingDownFrom_14 : decode cX2_firstLivingDownFrom 14 = .ok (.istore_n 3, 1) := by decide +kernel
theorem dX2_firstLivingDownFrom_15 : decode cX2_firstLivingDownFrom 15 = .ok (.aload_n 0, 1) := by decide +kernel
theorem dX2_firstLivingDownFrom_16 : decode cX2_firstLivingDownFrom 16 = .ok (.iload_n 3, 1) := by decide +kernel
theorem dX2_firstLivingDownFrom_17 : decode cX2_firstLivingDownFrom 17 = .ok (.invokevirtual 72, 3) := by decide +kernel
theorem dX2_firstLivingDownFrom_20 : decode cX2_firstLivingDownFrom 20 = .ok (.ifCond .eq 5, 3) := by decide +kernel
theorem dX2_firstLivingDownFrom_23 : decode cX2_firstLivingDownFrom 23 = .ok (.iload_n 3, 1) := by decide +kernel
theorem dX2_firstLivingDownFrom_24 : decode cX2_firstLivingDownFrom 24 = .ok (.ireturn, 1) := by decide +kernel
theorem dX2_firstLivingDownFrom_25 : decode cX2_firstLivingDownFrom 25 = .ok (.iinc 2 1, 3) := by decide +kernel
theorem dX2_firstLivingDownFrom_28 : decode cX2_firstLivingDownFrom 28 = .ok (.goto (-26), 3) := by decide +kernel
theorem dX2_firstLivingDownFrom_31 : decode cX2_firstLivingDownFrom 31 = .ok (.iconst (-1), 1) := by decide +kernel
theorem dX2_firstLivingDownFrom_32 : decode cX2_firstLivingDownFrom 32 = .ok (.ireturn, 1) := by decide +kernel
set_option maxRecDepth 20000 in
theorem ggX2_countWrongPointers_X2_isAlive : GoodIn wsX2_countWrongPointers wsX2_isAlive := goodIn_r _ [5, 6, 41, 42, 43, 44, 45, 46, 47, 48, 49, 50, 51, 52] (by decide +kernel) (by decide +kernel)
set_option maxRecDepth 20000 in
theorem gX2_countWrongPointers_X2_isAlive : GoodIn wsX2_countWrongPointers (wsV RX2 72 RX2 yX2_isAlive wsX2_isAlive) := goodIn_app (goodIn_of _ (by decide +kernel)) ggX2_countWrongPointers_X2_isAlive
set_option maxRecDepth 20000 in
theorem ggX2_countWrongPointers_X2_countWrongPointersOf : GoodIn wsX2_countWrongPointers wsX2_countWrongPointersOf := goodIn_r _ [10, 11, 12, 13, 14, 15, 4, 16, 17, 18, 19, 20, 21, 22, 23, 24, 1, 2, 3, 5, 6, 25, 26, 27, 28, 29, 30, 31, 32, 33, 34, 35, 36, 37, 38, 39, 40, 41, 42, 43, 44, 45, 46, 47, 48, 49, 50, 51, 52, 53, 54] (by decide +kernel) (by decide +kernel)
set_option maxRecDepth 20000 in
theorem gX2_countWrongPointers_X2_countWrongPointersOf : GoodIn wsX2_countWrongPointers (wsV RX2 193 RX2 yX2_countWrongPointersOf wsX2_countWrongPointersOf) := goodIn_app (goodIn_of _ (by decide +kernel)) ggX2_countWrongPointers_X2_countWrongPointersOf
theorem dX2_countWrongPointers_0 : decode cX2_countWrongPointers 0 = .ok (.iconst 0, 1) := by decide +kernel
theorem dX2_countWrongPointers_1 : decode cX2_countWrongPointers 1 = .ok (.istore_n 1, 1) := by decide +kernel
theorem dX2_countWrongPointers_2 : decode cX2_countWrongPointers 2 = .ok (.iconst 0, 1) := by decide +kernel
theorem dX2_countWrongPointers_3 : decode cX2_countWrongPointers 3 = .ok (.istore_n 2, 1) := by decide +kernel
theorem dX2_countWrongPointers_4 : decode cX2_countWrongPointers 4 = .ok (.iload_n 2, 1) := by decide +kernel
theorem dX2_countWrongPointers_5 : decode cX2_countWrongPointers 5 = .ok (.bipush 64, 2) := by decide +kernel
theorem dX2_countWrongPointers_7 : decode cX2_countWrongPointers 7 = .ok (.if_icmp .ge 25, 3) := by decide +kernel
theorem dX2_countWrongPointers_10 : decode cX2_countWrongPointers 10 = .ok (.aload_n 0, 1) := by decide +kernel
theorem dX2_countWrongPointers_11 : decode cX2_countWrongPointers 11 = .ok (.iload_n 2, 1) := by decide +kernel
theorem dX2_countWrongPointers_12 : decode cX2_countWrongPointers 12 = .ok (.invokevirtual 72, 3) := by decide +kernel
theorem dX2_countWrongPointers_15 : decode cX2_countWrongPointers 15 = .ok (.ifCond .eq 11, 3) := by decide +kernel
theorem dX2_countWrongPointers_18 : decode cX2_countWrongPointers 18 = .ok (.iload_n 1, 1) := by decide +kernel
theorem dX2_countWrongPointers_19 : decode cX2_countWrongPointers 19 = .ok (.aload_n 0, 1) := by decide +kernel
theorem dX2_countWrongPointers_20 : decode cX2_countWrongPointers 20 = .ok (.iload_n 2, 1) := by decide +kernel
theorem dX2_countWrongPointers_21 : decode cX2_countWrongPointers 21 = .ok (.invokevirtual 193, 3) := by decide +kernel
theorem dX2_countWrongPointers_24 : decode cX2_countWrongPointers 24 = .ok (.iadd, 1) := by decide +kernel
theorem dX2_countWrongPointers_25 : decode cX2_countWrongPointers 25 = .ok (.istore_n 1, 1) := by decide +kernel
theorem dX2_countWrongPointers_26 : decode cX2_countWrongPointers 26 = .ok (.iinc 2 1, 3) := by decide +kernel
theorem dX2_countWrongPointers_29 : decode cX2_countWrongPointers 29 = .ok (.goto (-25), 3) := by decide +kernel
theorem dX2_countWrongPointers_32 : decode cX2_countWrongPointers 32 = .ok (.iload_n 1, 1) := by decide +kernel
theorem dX2_countWrongPointers_33 : decode cX2_countWrongPointers 33 = .ok (.ireturn, 1) := by decide +kernel
set_option maxRecDepth 20000 in
theorem ggX2_countWrongPointersOf_X2_firstLivingSuccessor : GoodIn wsX2_countWrongPointersOf wsX2_firstLivingSuccessor := goodIn_r _ [7, 8, 9, 10, 11, 12, 13, 14, 15, 16, 17, 18, 6, 19, 20, 37, 38, 39, 40, 41, 42, 43, 44, 45, 46, 47, 48, 49, 50] (by decide +kernel) (by decide +kernel)
set_option maxRecDepth 20000 in
theorem gX2_countWrongPointersOf_X2_firstLivingSuccessor : GoodIn wsX2_countWrongPointersOf (wsV RX2 91 RX2 yX2_firstLivingSuccessor wsX2_firstLivingSuccessor) := goodIn_app (goodIn_of _ (by decide +kernel)) ggX2_countWrongPointersOf_X2_firstLivingSuccessor
set_option maxRecDepth 20000 in
theorem ggX2_countWrongPointersOf_X0_onward : GoodIn wsX2_countWrongPointersOf wsX0_onward := goodIn_r _ [24] (by decide +kernel) (by decide +kernel)
set_option maxRecDepth 20000 in
theorem gX2_countWrongPointersOf_X0_onward : GoodIn wsX2_countWrongPointersOf (va_wsS RX2 190 yX0_onward wsX0_onward) := goodIn_app (goodIn_of _ (by decide +kernel)) ggX2_countWrongPointersOf_X0_onward
set_option maxRecDepth 20000 in
theorem ggX2_countWrongPointersOf_X2_firstLivingUpFrom : GoodIn wsX2_countWrongPointersOf wsX2_firstLivingUpFrom := goodIn_r _ [28, 21, 22, 23, 24, 16, 17, 18, 6, 19, 20, 37, 38, 39, 40, 41, 42, 43, 44, 45, 46, 47, 48] (by decide +kernel) (by decide +kernel)
set_option maxRecDepth 20000 in
theorem gX2_countWrongPointersOf_X2_firstLivingUpFrom : GoodIn wsX2_countWrongPointersOf (wsV RX2 133 RX2 yX2_firstLivingUpFrom wsX2_firstLivingUpFrom) := goodIn_app (goodIn_of _ (by decide +kernel)) ggX2_countWrongPointersOf_X2_firstLivingUpFrom
set_option maxRecDepth 20000 in
theorem ggX2_countWrongPointersOf_X1_at : GoodIn wsX2_countWrongPointersOf wsX1_at := goodIn_r _ [13, 14, 15, 49, 50] (by decide +kernel) (by decide +kernel)
set_option maxRecDepth 20000 in
theorem gX2_countWrongPointersOf_X1_at : GoodIn wsX2_countWrongPointersOf (wsV RX2 85 RX1 yX1_at wsX1_at) := goodIn_app (goodIn_of _ (by decide +kernel)) ggX2_countWrongPointersOf_X1_at
set_option maxRecDepth 20000 in
theorem ggX2_countWrongPointersOf_X2_firstLivingDownFrom : GoodIn wsX2_countWrongPointersOf wsX2_firstLivingDownFrom := goodIn_r _ [32, 21, 22, 23, 24, 16, 17, 18, 6, 19, 20, 37, 38, 39, 40, 41, 42, 43, 44, 45, 46, 47, 48] (by decide +kernel) (by decide +kernel)
set_option maxRecDepth 20000 in
theorem gX2_countWrongPointersOf_X2_firstLivingDownFrom : GoodIn wsX2_countWrongPointersOf (wsV RX2 196 RX2 yX2_firstLivingDownFrom wsX2_firstLivingDownFrom) := goodIn_app (goodIn_of _ (by decide +kernel)) ggX2_countWrongPointersOf_X2_firstLivingDownFrom
set_option maxRecDepth 20000 in
theorem ggX2_countWrongPointersOf_X0_fingerStart : GoodIn wsX2_countWrongPointersOf wsX0_fingerStart := goodIn_r _ [35, 36, 22, 23, 24] (by decide +kernel) (by decide +kernel)
set_option maxRecDepth 20000 in
theorem gX2_countWrongPointersOf_X0_fingerStart : GoodIn wsX2_countWrongPointersOf (va_wsS RX2 175 yX0_fingerStart wsX0_fingerStart) := goodIn_app (goodIn_of _ (by decide +kernel)) ggX2_countWrongPointersOf_X0_fingerStart
theorem dX2_countWrongPointersOf_0 : decode cX2_countWrongPointersOf 0 = .ok (.iconst 0, 1) := by decide +kernel
theorem dX2_countWrongPointersOf_1 : decode cX2_countWrongPointersOf 1 = .ok (.istore_n 2, 1) := by decide +kernel
theorem dX2_countWrongPointersOf_2 : decode cX2_countWrongPointersOf 2 = .ok (.aload_n 0, 1) := by decide +kernel
theorem dX2_countWrongPointersOf_3 : decode cX2_countWrongPointersOf 3 = .ok (.iload_n 1, 1) := by decide +kernel
theorem dX2_countWrongPointersOf_4 : decode cX2_countWrongPointersOf 4 = .ok (.invokevirtual 91, 3) := by decide +kernel
theorem dX2_countWrongPointersOf_7 : decode cX2_countWrongPointersOf 7 = .ok (.aload_n 0, 1) := by decide +kernel
theorem dX2_countWrongPointersOf_8 : decode cX2_countWrongPointersOf 8 = .ok (.iload_n 1, 1) := by decide +kernel
theorem dX2_countWrongPointersOf_9 : decode cX2_countWrongPointersOf 9 = .ok (.iconst 1, 1) := by decide +kernel
theorem dX2_countWrongPointersOf_10 : decode cX2_countWrongPointersOf 10 = .ok (.invokestatic 190, 3) := by decide +kernel
theorem dX2_countWrongPointersOf_13 : decode cX2_countWrongPointersOf 13 = .ok (.invokevirtual 133, 3) := by decide +kernel
theorem dX2_countWrongPointersOf_16 : decode cX2_countWrongPointersOf 16 = .ok (.if_icmp .eq 6, 3) := by decide +kernel
theorem dX2_countWrongPointersOf_19 : decode cX2_countWrongPointersOf 19 = .ok (.iinc 2 1, 3) := by decide +kernel
theorem dX2_countWrongPointersOf_22 : decode cX2_countWrongPointersOf 22 = .ok (.aload_n 0, 1) := by decide +kernel
theorem dX2_countWrongPointersOf_23 : decode cX2_countWrongPointersOf 23 = .ok (.getfield 22, 3) := by decide +kernel
theorem dX2_countWrongPointersOf_26 : decode cX2_countWrongPointersOf 26 = .ok (.iload_n 1, 1) := by decide +kernel
theorem dX2_countWrongPointersOf_27 : decode cX2_countWrongPointersOf 27 = .ok (.iconst 0, 1) := by decide +kernel
theorem dX2_countWrongPointersOf_28 : decode cX2_countWrongPointersOf 28 = .ok (.invokevirtual 85, 3) := by decide +kernel
theorem dX2_countWrongPointersOf_31 : decode cX2_countWrongPointersOf 31 = .ok (.aload_n 0, 1) := by decide +kernel
theorem dX2_countWrongPointersOf_32 : decode cX2_countWrongPointersOf 32 = .ok (.iload_n 1, 1) := by decide +kernel
theorem dX2_countWrongPointersOf_33 : decode cX2_countWrongPointersOf 33 = .ok (.iconst (-1), 1) := by decide +kernel
theorem dX2_countWrongPointersOf_34 : decode cX2_countWrongPointersOf 34 = .ok (.invokestatic 190, 3) := by decide +kernel
theorem dX2_countWrongPointersOf_37 : decode cX2_countWrongPointersOf 37 = .ok (.invokevirtual 196, 3) := by decide +kernel
theorem dX2_countWrongPointersOf_40 : decode cX2_countWrongPointersOf 40 = .ok (.if_icmp .eq 6, 3) := by decide +kernel
theorem dX2_countWrongPointersOf_43 : decode cX2_countWrongPointersOf 43 = .ok (.iinc 2 1, 3) := by decide +kernel
theorem dX2_countWrongPointersOf_46 : decode cX2_countWrongPointersOf 46 = .ok (.iconst 0, 1) := by decide +kernel
theorem dX2_countWrongPointersOf_47 : decode cX2_countWrongPointersOf 47 = .ok (.istore_n 3, 1) := by decide +kernel
theorem dX2_countWrongPointersOf_48 : decode cX2_countWrongPointersOf 48 = .ok (.iload_n 3, 1) := by decide +kernel
theorem dX2_countWrongPointersOf_49 : decode cX2_countWrongPointersOf 49 = .ok (.bipush 6, 2) := by decide +kernel
theorem dX2_countWrongPointersOf_51 : decode cX2_countWrongPointersOf 51 = .ok (.if_icmp .ge 33, 3) := by decide +kernel
theorem dX2_countWrongPointersOf_54 : decode cX2_countWrongPointersOf 54 = .ok (.aload_n 0, 1) := by decide +kernel
theorem dX2_countWrongPointersOf_55 : decode cX2_countWrongPointersOf 55 = .ok (.getfield 25, 3) := by decide +kernel
theorem dX2_countWrongPointersOf_58 : decode cX2_countWrongPointersOf 58 = .ok (.iload_n 1, 1) := by decide +kernel
theorem dX2_countWrongPointersOf_59 : decode cX2_countWrongPointersOf 59 = .ok (.iload_n 3, 1) := by decide +kernel
theorem dX2_countWrongPointersOf_60 : decode cX2_countWrongPointersOf 60 = .ok (.invokevirtual 85, 3) := by decide +kernel
theorem dX2_countWrongPointersOf_63 : decode cX2_countWrongPointersOf 63 = .ok (.aload_n 0, 1) := by decide +kernel
theorem dX2_countWrongPointersOf_64 : decode cX2_countWrongPointersOf 64 = .ok (.iload_n 1, 1) := by decide +kernel
theorem dX2_countWrongPointersOf_65 : decode cX2_countWrongPointersOf 65 = .ok (.iload_n 3, 1) := by decide +kernel
theorem dX2_countWrongPointersOf_66 : decode cX2_countWrongPointersOf 66 = .ok (.invokestatic 175, 3) := by decide +kernel
theorem dX2_countWrongPointersOf_69 : decode cX2_countWrongPointersOf 69 = .ok (.invokevirtual 133, 3) := by decide +kernel
theorem dX2_countWrongPointersOf_72 : decode cX2_countWrongPointersOf 72 = .ok (.if_icmp .eq 6, 3) := by decide +kernel
theorem dX2_countWrongPointersOf_75 : decode cX2_countWrongPointersOf 75 = .ok (.iinc 2 1, 3) := by decide +kernel
theorem dX2_countWrongPointersOf_78 : decode cX2_countWrongPointersOf 78 = .ok (.iinc 3 1, 3) := by decide +kernel
theorem dX2_countWrongPointersOf_81 : decode cX2_countWrongPointersOf 81 = .ok (.goto (-33), 3) := by decide +kernel
theorem dX2_countWrongPointersOf_84 : decode cX2_countWrongPointersOf 84 = .ok (.iload_n 2, 1) := by decide +kernel
theorem dX2_countWrongPointersOf_85 : decode cX2_countWrongPointersOf 85 = .ok (.ireturn, 1) := by decide +kernel
set_option maxRecDepth 20000 in
theorem ggX2_layPointersAside_X1_copyFrom : GoodIn wsX2_layPointersAside wsX1_copyFrom := goodIn_r _ [11, 12, 13, 14, 15, 16, 17, 18, 19, 20, 33, 34] (by decide +kernel) (by decide +kernel)
set_option maxRecDepth 20000 in
theorem gX2_layPointersAside_X1_copyFrom : GoodIn wsX2_layPointersAside (wsV RX2 199 RX1 yX1_copyFrom wsX1_copyFrom) := goodIn_app (goodIn_of _ (by decide +kernel)) ggX2_layPointersAside_X1_copyFrom
theorem dX2_layPointersAside_0 : decode cX2_layPointersAside 0 = .ok (.aload_n 0, 1) := by decide +kernel
theorem dX2_layPointersAside_1 : decode cX2_layPointersAside 1 = .ok (.getfield 45, 3) := by decide +kernel
theorem dX2_layPointersAside_4 : decode cX2_layPointersAside 4 = .ok (.aload_n 0, 1) := by decide +kernel
theorem dX2_layPointersAside_5 : decode cX2_layPointersAside 5 = .ok (.getfield 18, 3) := by decide +kernel
theorem dX2_layPointersAside_8 : decode cX2_layPointersAside 8 = .ok (.invokevirtual 199, 3) := by decide +kernel
theorem dX2_layPointersAside_11 : decode cX2_layPointersAside 11 = .ok (.aload_n 0, 1) := by decide +kernel
theorem dX2_layPointersAside_12 : decode cX2_layPointersAside 12 = .ok (.getfield 48, 3) := by decide +kernel
theorem dX2_layPointersAside_15 : decode cX2_layPointersAside 15 = .ok (.aload_n 0, 1) := by decide +kernel
theorem dX2_layPointersAside_16 : decode cX2_layPointersAside 16 = .ok (.getfield 22, 3) := by decide +kernel
theorem dX2_layPointersAside_19 : decode cX2_layPointersAside 19 = .ok (.invokevirtual 199, 3) := by decide +kernel
theorem dX2_layPointersAside_22 : decode cX2_layPointersAside 22 = .ok (.aload_n 0, 1) := by decide +kernel
theorem dX2_layPointersAside_23 : decode cX2_layPointersAside 23 = .ok (.getfield 51, 3) := by decide +kernel
theorem dX2_layPointersAside_26 : decode cX2_layPointersAside 26 = .ok (.aload_n 0, 1) := by decide +kernel
theorem dX2_layPointersAside_27 : decode cX2_layPointersAside 27 = .ok (.getfield 25, 3) := by decide +kernel
theorem dX2_layPointersAside_30 : decode cX2_layPointersAside 30 = .ok (.invokevirtual 199, 3) := by decide +kernel
theorem dX2_layPointersAside_33 : decode cX2_layPointersAside 33 = .ok (.return_, 1) := by decide +kernel
set_option maxRecDepth 20000 in
theorem ggX2_takePointersBack_X1_copyFrom : GoodIn wsX2_takePointersBack wsX1_copyFrom := goodIn_r _ [11, 12, 13, 14, 15, 16, 17, 18, 19, 20, 33, 34] (by decide +kernel) (by decide +kernel)
set_option maxRecDepth 20000 in
theorem gX2_takePointersBack_X1_copyFrom : GoodIn wsX2_takePointersBack (wsV RX2 199 RX1 yX1_copyFrom wsX1_copyFrom) := goodIn_app (goodIn_of _ (by decide +kernel)) ggX2_takePointersBack_X1_copyFrom
theorem dX2_takePointersBack_0 : decode cX2_takePointersBack 0 = .ok (.aload_n 0, 1) := by decide +kernel
theorem dX2_takePointersBack_1 : decode cX2_takePointersBack 1 = .ok (.getfield 18, 3) := by decide +kernel
theorem dX2_takePointersBack_4 : decode cX2_takePointersBack 4 = .ok (.aload_n 0, 1) := by decide +kernel
theorem dX2_takePointersBack_5 : decode cX2_takePointersBack 5 = .ok (.getfield 45, 3) := by decide +kernel
theorem dX2_takePointersBack_8 : decode cX2_takePointersBack 8 = .ok (.invokevirtual 199, 3) := by decide +kernel
theorem dX2_takePointersBack_11 : decode cX2_takePointersBack 11 = .ok (.aload_n 0, 1) := by decide +kernel
theorem dX2_takePointersBack_12 : decode cX2_takePointersBack 12 = .ok (.getfield 22, 3) := by decide +kernel
theorem dX2_takePointersBack_15 : decode cX2_takePointersBack 15 = .ok (.aload_n 0, 1) := by decide +kernel
theorem dX2_takePointersBack_16 : decode cX2_takePointersBack 16 = .ok (.getfield 48, 3) := by decide +kernel
theorem dX2_takePointersBack_19 : decode cX2_takePointersBack 19 = .ok (.invokevirtual 199, 3) := by decide +kernel
theorem dX2_takePointersBack_22 : decode cX2_takePointersBack 22 = .ok (.aload_n 0, 1) := by decide +kernel
theorem dX2_takePointersBack_23 : decode cX2_takePointersBack 23 = .ok (.getfield 25, 3) := by decide +kernel
theorem dX2_takePointersBack_26 : decode cX2_takePointersBack 26 = .ok (.aload_n 0, 1) := by decide +kernel
theorem dX2_takePointersBack_27 : decode cX2_takePointersBack 27 = .ok (.getfield 51, 3) := by decide +kernel
theorem dX2_takePointersBack_30 : decode cX2_takePointersBack 30 = .ok (.invokevirtual 199, 3) := by decide +kernel
theorem dX2_takePointersBack_33 : decode cX2_takePointersBack 33 = .ok (.return_, 1) := by decide +kernel
end
section
theorem dX3_init_0 : decode cX3_init 0 = .ok (.aload_n 0, 1) := by decide +kernel
theorem dX3_init_1 : decode cX3_init 1 = .ok (.invokespecial 1, 3) := by decide +kernel
theorem dX3_init_4 : decode cX3_init 4 = .ok (.aload_n 0, 1) := by decide +kernel
theorem dX3_init_5 : decode cX3_init 5 = .ok (.bipush 64, 2) := by decide +kernel
theorem dX3_init_7 : decode cX3_init 7 = .ok (.newarray .boolean, 2) := by decide +kernel
theorem dX3_init_9 : decode cX3_init 9 = .ok (.putfield 7, 3) := by decide +kernel
theorem dX3_init_12 : decode cX3_init 12 = .ok (.aload_n 0, 1) := by decide +kernel
theorem dX3_init_13 : decode cX3_init 13 = .ok (.sipush 192, 3) := by decide +kernel
theorem dX3_init_16 : decode cX3_init 16 = .ok (.newarray .int, 2) := by decide +kernel
theorem dX3_init_18 : decode cX3_init 18 = .ok (.putfield 13, 3) := by decide +kernel
theorem dX3_init_21 : decode cX3_init 21 = .ok (.aload_n 0, 1) := by decide +kernel
theorem dX3_init_22 : decode cX3_init 22 = .ok (.bipush 64, 2) := by decide +kernel
theorem dX3_init_24 : decode cX3_init 24 = .ok (.newarray .int, 2) := by decide +kernel
theorem dX3_init_26 : decode cX3_init 26 = .ok (.putfield 17, 3) := by decide +kernel
theorem dX3_init_29 : decode cX3_init 29 = .ok (.aload_n 0, 1) := by decide +kernel
theorem dX3_init_30 : decode cX3_init 30 = .ok (.sipush 384, 3) := by decide +kernel
theorem dX3_init_33 : decode cX3_init 33 = .ok (.newarray .int, 2) := by decide +kernel
theorem dX3_init_35 : decode cX3_init 35 = .ok (.putfield 20, 3) := by decide +kernel
theorem dX3_init_38 : decode cX3_init 38 = .ok (.aload_n 0, 1) := by decide +kernel
theorem dX3_init_39 : decode cX3_init 39 = .ok (.sipush 4096, 3) := by decide +kernel
theorem dX3_init_42 : decode cX3_init 42 = .ok (.newarray .int, 2) := by decide +kernel
theorem dX3_init_44 : decode cX3_init 44 = .ok (.putfield 23, 3) := by decide +kernel
theorem dX3_init_47 : decode cX3_init 47 = .ok (.aload_n 0, 1) := by decide +kernel
theorem dX3_init_48 : decode cX3_init 48 = .ok (.sipush 4096, 3) := by decide +kernel
theorem dX3_init_51 : decode cX3_init 51 = .ok (.newarray .int, 2) := by decide +kernel
theorem dX3_init_53 : decode cX3_init 53 = .ok (.putfield 26, 3) := by decide +kernel
theorem dX3_init_56 : decode cX3_init 56 = .ok (.aload_n 0, 1) := by decide +kernel
theorem dX3_init_57 : decode cX3_init 57 = .ok (.bipush 65, 2) := by decide +kernel
theorem dX3_init_59 : decode cX3_init 59 = .ok (.newarray .int, 2) := by decide +kernel
theorem dX3_init_61 : decode cX3_init 61 = .ok (.putfield 29, 3) := by decide +kernel
theorem dX3_init_64 : decode cX3_init 64 = .ok (.aload_n 0, 1) := by decide +kernel
theorem dX3_init_65 : decode cX3_init 65 = .ok (.sipush 192, 3) := by decide +kernel
theorem dX3_init_68 : decode cX3_init 68 = .ok (.newarray .int, 2) := by decide +kernel
theorem dX3_init_70 : decode cX3_init 70 = .ok (.putfield 32, 3) := by decide +kernel
theorem dX3_init_73 : decode cX3_init 73 = .ok (.aload_n 0, 1) := by decide +kernel
theorem dX3_init_74 : decode cX3_init 74 = .ok (.bipush 64, 2) := by decide +kernel
theorem dX3_init_76 : decode cX3_init 76 = .ok (.newarray .int, 2) := by decide +kernel
theorem dX3_init_78 : decode cX3_init 78 = .ok (.putfield 35, 3) := by decide +kernel
theorem dX3_init_81 : decode cX3_init 81 = .ok (.aload_n 0, 1) := by decide +kernel
theorem dX3_init_82 : decode cX3_init 82 = .ok (.sipush 384, 3) := by decide +kernel
theorem dX3_init_85 : decode cX3_init 85 = .ok (.newarray .int, 2) := by decide +kernel
theorem dX3_init_87 : decode cX3_init 87 = .ok (.putfield 38, 3) := by decide +kernel
theorem dX3_init_90 : decode cX3_init 90 = .ok (.return_, 1) := by decide +kernel
theorem dX3_thrown_0 : decode cX3_thrown 0 = .ok (.aload_n 0, 1) := by decide +kernel
theorem dX3_thrown_1 : decode cX3_thrown 1 = .ok (.getfield 41, 3) := by decide +kernel
theorem dX3_thrown_4 : decode cX3_thrown 4 = .ok (.ireturn, 1) := by decide +kernel
theorem dX3_fails_0 : decode cX3_fails 0 = .ok (.aload_n 0, 1) := by decide +kernel
theorem dX3_fails_1 : decode cX3_fails 1 = .ok (.iload_n 1, 1) := by decide +kernel
theorem dX3_fails_2 : decode cX3_fails 2 = .ok (.putfield 41, 3) := by decide +kernel
theorem dX3_fails_5 : decode cX3_fails 5 = .ok (.iconst 0, 1) := by decide +kernel
theorem dX3_fails_6 : decode cX3_fails 6 = .ok (.ireturn, 1) := by decide +kernel
theorem dX3_isId_0 : decode cX3_isId 0 = .ok (.iload_n 0, 1) := by decide +kernel
theorem dX3_isId_1 : decode cX3_isId 1 = .ok (.ifCond .lt 13, 3) := by decide +kernel
theorem dX3_isId_4 : decode cX3_isId 4 = .ok (.iload_n 0, 1) := by decide +kernel
theorem dX3_isId_5 : decode cX3_isId 5 = .ok (.bipush 64, 2) := by decide +kernel
theorem dX3_isId_7 : decode cX3_isId 7 = .ok (.if_icmp .ge 7, 3) := by decide +kernel
theorem dX3_isId_10 : decode cX3_isId 10 = .ok (.iconst 1, 1) := by decide +kernel
theorem dX3_isId_11 : decode cX3_isId 11 = .ok (.goto 4, 3) := by decide +kernel
theorem dX3_isId_14 : decode cX3_isId 14 = .ok (.iconst 0, 1) := by decide +kernel
theorem dX3_isId_15 : decode cX3_isId 15 = .ok (.ireturn, 1) := by decide +kernel
theorem dX3_up_0 : decode cX3_up 0 = .ok (.iload_n 1, 1) := by decide +kernel
theorem dX3_up_1 : decode cX3_up 1 = .ok (.iload_n 0, 1) := by decide +kernel
theorem dX3_up_2 : decode cX3_up 2 = .ok (.isub, 1) := by decide +kernel
theorem dX3_up_3 : decode cX3_up 3 = .ok (.bipush 64, 2) := by decide +kernel
theorem dX3_up_5 : decode cX3_up 5 = .ok (.iadd, 1) := by decide +kernel
theorem dX3_up_6 : decode cX3_up 6 = .ok (.bipush 64, 2) := by decide +kernel
theorem dX3_up_8 : decode cX3_up 8 = .ok (.irem, 1) := by decide +kernel
theorem dX3_up_9 : decode cX3_up 9 = .ok (.ireturn, 1) := by decide +kernel
set_option maxRecDepth 20000 in
theorem ggX3_isWithin_X3_up : GoodIn wsX3_isWithin wsX3_up := goodIn_r _ [4] (by decide +kernel) (by decide +kernel)
set_option maxRecDepth 20000 in
theorem gX3_isWithin_X3_up : GoodIn wsX3_isWithin (va_wsS RX3 45 yX3_up wsX3_up) := goodIn_app (goodIn_of _ (by decide +kernel)) ggX3_isWithin_X3_up
theorem dX3_isWithin_0 : decode cX3_isWithin 0 = .ok (.iload_n 1, 1) := by decide +kernel
theorem dX3_isWithin_1 : decode cX3_isWithin 1 = .ok (.iload_n 2, 1) := by decide +kernel
theorem dX3_isWithin_2 : decode cX3_isWithin 2 = .ok (.invokestatic 45, 3) := by decide +kernel
theorem dX3_isWithin_5 : decode cX3_isWithin 5 = .ok (.ifCond .ne 8, 3) := by decide +kernel
theorem dX3_isWithin_8 : decode cX3_isWithin 8 = .ok (.bipush 64, 2) := by decide +kernel
theorem dX3_isWithin_10 : decode cX3_isWithin 10 = .ok (.goto 8, 3) := by decide +kernel
theorem dX3_isWithin_13 : decode cX3_isWithin 13 = .ok (.iload_n 1, 1) := by decide +kernel
theorem dX3_isWithin_14 : decode cX3_isWithin 14 = .ok (.iload_n 2, 1) := by decide +kernel
theorem dX3_isWithin_15 : decode cX3_isWithin 15 = .ok (.invokestatic 45, 3) := by decide +kernel
theorem dX3_isWithin_18 : decode cX3_isWithin 18 = .ok (.istore_n 3, 1) := by decide +kernel
theorem dX3_isWithin_19 : decode cX3_isWithin 19 = .ok (.iload_n 1, 1) := by decide +kernel
theorem dX3_isWithin_20 : decode cX3_isWithin 20 = .ok (.iload_n 0, 1) := by decide +kernel
theorem dX3_isWithin_21 : decode cX3_isWithin 21 = .ok (.invokestatic 45, 3) := by decide +kernel
theorem dX3_isWithin_24 : decode cX3_isWithin 24 = .ok (.ifCond .ne 8, 3) := by decide +kernel
theorem dX3_isWithin_27 : decode cX3_isWithin 27 = .ok (.bipush 64, 2) := by decide +kernel
theorem dX3_isWithin_29 : decode cX3_isWithin 29 = .ok (.goto 8, 3) := by decide +kernel
theorem dX3_isWithin_32 : decode cX3_isWithin 32 = .ok (.iload_n 1, 1) := by decide +kernel
theorem dX3_isWithin_33 : decode cX3_isWithin 33 = .ok (.iload_n 0, 1) := by decide +kernel
theorem dX3_isWithin_34 : decode cX3_isWithin 34 = .ok (.invokestatic 45, 3) := by decide +kernel
theorem dX3_isWithin_37 : decode cX3_isWithin 37 = .ok (.istore 4, 2) := by decide +kernel
theorem dX3_isWithin_39 : decode cX3_isWithin 39 = .ok (.iload 4, 2) := by decide +kernel
theorem dX3_isWithin_41 : decode cX3_isWithin 41 = .ok (.iload_n 3, 1) := by decide +kernel
theorem dX3_isWithin_42 : decode cX3_isWithin 42 = .ok (.if_icmp .gt 7, 3) := by decide +kernel
theorem dX3_isWithin_45 : decode cX3_isWithin 45 = .ok (.iconst 1, 1) := by decide +kernel
theorem dX3_isWithin_46 : decode cX3_isWithin 46 = .ok (.goto 4, 3) := by decide +kernel
theorem dX3_isWithin_49 : decode cX3_isWithin 49 = .ok (.iconst 0, 1) := by decide +kernel
theorem dX3_isWithin_50 : decode cX3_isWithin 50 = .ok (.ireturn, 1) := by decide +kernel
set_option maxRecDepth 20000 in
theorem ggX3_isBetween_X3_isWithin : GoodIn wsX3_isBetween wsX3_isWithin := goodIn_r _ [4, 5, 6, 3, 7] (by decide +kernel) (by decide +kernel)
set_option maxRecDepth 20000 in
theorem gX3_isBetween_X3_isWithin : GoodIn wsX3_isBetween (va_wsS RX3 49 yX3_isWithin wsX3_isWithin) := goodIn_app (goodIn_of _ (by decide +kernel)) ggX3_isBetween_X3_isWithin
theorem dX3_isBetween_0 : decode cX3_isBetween 0 = .ok (.iload_n 0, 1) := by decide +kernel
theorem dX3_isBetween_1 : decode cX3_isBetween 1 = .ok (.iload_n 2, 1) := by decide +kernel
theorem dX3_isBetween_2 : decode cX3_isBetween 2 = .ok (.if_icmp .eq 16, 3) := by decide +kernel
theorem dX3_isBetween_5 : decode cX3_isBetween 5 = .ok (.iload_n 0, 1) := by decide +kernel
theorem dX3_isBetween_6 : decode cX3_isBetween 6 = .ok (.iload_n 1, 1) := by decide +kernel
theorem dX3_isBetween_7 : decode cX3_isBetween 7 = .ok (.iload_n 2, 1) := by decide +kernel
theorem dX3_isBetween_8 : decode cX3_isBetween 8 = .ok (.invokestatic 49, 3) := by decide +kernel
theorem dX3_isBetween_11 : decode cX3_isBetween 11 = .ok (.ifCond .eq 7, 3) := by decide +kernel
theorem dX3_isBetween_14 : decode cX3_isBetween 14 = .ok (.iconst 1, 1) := by decide +kernel
theorem dX3_isBetween_15 : decode cX3_isBetween 15 = .ok (.goto 4, 3) := by decide +kernel
theorem dX3_isBetween_18 : decode cX3_isBetween 18 = .ok (.iconst 0, 1) := by decide +kernel
theorem dX3_isBetween_19 : decode cX3_isBetween 19 = .ok (.ireturn, 1) := by decide +kernel
theorem dX3_countLiving_0 : decode cX3_countLiving 0 = .ok (.iconst 0, 1) := by decide +kernel
theorem dX3_countLiving_1 : decode cX3_countLiving 1 = .ok (.istore_n 1, 1) := by decide +kernel
theorem dX3_countLiving_2 : decode cX3_countLiving 2 = .ok (.iconst 0, 1) := by decide +kernel
theorem dX3_countLiving_3 : decode cX3_countLiving 3 = .ok (.istore_n 2, 1) := by decide +kernel
theorem dX3_countLiving_4 : decode cX3_countLiving 4 = .ok (.iload_n 2, 1) := by decide +kernel
theorem dX3_countLiving_5 : decode cX3_countLiving 5 = .ok (.bipush 64, 2) := by decide +kernel
theorem dX3_countLiving_7 : decode cX3_countLiving 7 = .ok (.if_icmp .ge 26, 3) := by decide +kernel
theorem dX3_countLiving_10 : decode cX3_countLiving 10 = .ok (.iload_n 1, 1) := by decide +kernel
theorem dX3_countLiving_11 : decode cX3_countLiving 11 = .ok (.aload_n 0, 1) := by decide +kernel
theorem dX3_countLiving_12 : decode cX3_countLiving 12 = .ok (.getfield 7, 3) := by decide +kernel
theorem dX3_countLiving_15 : decode cX3_countLiving 15 = .ok (.iload_n 2, 1) := by decide +kernel
theorem dX3_countLiving_16 : decode cX3_countLiving 16 = .ok (.baload, 1) := by decide +kernel
theorem dX3_countLiving_17 : decode cX3_countLiving 17 = .ok (.ifCond .eq 7, 3) := by decide +kernel
theorem dX3_countLiving_20 : decode cX3_countLiving 20 = .ok (.iconst 1, 1) := by decide +kernel
theorem dX3_countLiving_21 : decode cX3_countLiving 21 = .ok (.goto 4, 3) := by decide +kernel
theorem dX3_countLiving_24 : decode cX3_countLiving 24 = .ok (.iconst 0, 1) := by decide +kernel
theorem dX3_countLiving_25 : decode cX3_countLiving 25 = .ok (.iadd, 1) := by decide +kernel
theorem dX3_countLiving_26 : decode cX3_countLiving 26 = .ok (.istore_n 1, 1) := by decide +kernel
theorem dX3_countLiving_27 : decode cX3_countLiving 27 = .ok (.iinc 2 1, 3) := by decide +kernel
theorem dX3_countLiving_30 : decode cX3_countLiving 30 = .ok (.goto (-26), 3) := by decide +kernel
theorem dX3_countLiving_33 : decode cX3_countLiving 33 = .ok (.iload_n 1, 1) := by decide +kernel
theorem dX3_countLiving_34 : decode cX3_countLiving 34 = .ok (.ireturn, 1) := by decide +kernel
theorem dX3_liveSuccessorOf_0 : decode cX3_liveSuccessorOf 0 = .ok (.iload_n 1, 1) := by decide +kernel
theorem dX3_liveSuccessorOf_1 : decode cX3_liveSuccessorOf 1 = .ok (.istore_n 2, 1) := by decide +kernel
theorem dX3_liveSuccessorOf_2 : decode cX3_liveSuccessorOf 2 = .ok (.iconst 2, 1) := by decide +kernel
theorem dX3_liveSuccessorOf_3 : decode cX3_liveSuccessorOf 3 = .ok (.istore_n 3, 1) := by decide +kernel
theorem dX3_liveSuccessorOf_4 : decode cX3_liveSuccessorOf 4 = .ok (.iload_n 3, 1) := by decide +kernel
theorem dX3_liveSuccessorOf_5 : decode cX3_liveSuccessorOf 5 = .ok (.ifCond .lt 42, 3) := by decide +kernel
theorem dX3_liveSuccessorOf_8 : decode cX3_liveSuccessorOf 8 = .ok (.aload_n 0, 1) := by decide +kernel
theorem dX3_liveSuccessorOf_9 : decode cX3_liveSuccessorOf 9 = .ok (.getfield 7, 3) := by decide +kernel
theorem dX3_liveSuccessorOf_12 : decode cX3_liveSuccessorOf 12 = .ok (.aload_n 0, 1) := by decide +kernel
theorem dX3_liveSuccessorOf_13 : decode cX3_liveSuccessorOf 13 = .ok (.getfield 13, 3) := by decide +kernel
theorem dX3_liveSuccessorOf_16 : decode cX3_liveSuccessorOf 16 = .ok (.iconst 3, 1) := by decide +kernel
theorem dX3_liveSuccessorOf_17 : decode cX3_liveSuccessorOf 17 = .ok (.iload_n 1, 1) := by decide +kernel
theorem dX3_liveSuccessorOf_18 : decode cX3_liveSuccessorOf 18 = .ok (.imul, 1) := by decide +kernel
theorem dX3_liveSuccessorOf_19 : decode cX3_liveSuccessorOf 19 = .ok (.iload_n 3, 1) := by decide +kernel
theorem dX3_liveSuccessorOf_20 : decode cX3_liveSuccessorOf 20 = .ok (.iadd, 1) := by decide +kernel
theorem dX3_liveSuccessorOf_21 : decode cX3_liveSuccessorOf 21 = .ok (.iaload, 1) := by decide +kernel
theorem dX3_liveSuccessorOf_22 : decode cX3_liveSuccessorOf 22 = .ok (.baload, 1) := by decide +kernel
theorem dX3_liveSuccessorOf_23 : decode cX3_liveSuccessorOf 23 = .ok (.ifCond .eq 16, 3) := by decide +kernel
theorem dX3_liveSuccessorOf_26 : decode cX3_liveSuccessorOf 26 = .ok (.aload_n 0, 1) := by decide +kernel
theorem dX3_liveSuccessorOf_27 : decode cX3_liveSuccessorOf 27 = .ok (.getfield 13, 3) := by decide +kernel
theorem dX3_liveSuccessorOf_30 : decode cX3_liveSuccessorOf 30 = .ok (.iconst 3, 1) := by decide +kernel
theorem dX3_liveSuccessorOf_31 : decode cX3_liveSuccessorOf 31 = .ok (.iload_n 1, 1) := by decide +kernel
theorem dX3_liveSuccessorOf_32 : decode cX3_liveSuccessorOf 32 = .ok (.imul, 1) := by decide +kernel
theorem dX3_liveSuccessorOf_33 : decode cX3_liveSuccessorOf 33 = .ok (.iload_n 3, 1) := by decide +kernel
theorem dX3_liveSuccessorOf_34 : decode cX3_liveSuccessorOf 34 = .ok (.iadd, 1) := by decide +kernel
theorem dX3_liveSuccessorOf_35 : decode cX3_liveSuccessorOf 35 = .ok (.iaload, 1) := by decide +kernel
theorem dX3_liveSuccessorOf_36 : decode cX3_liveSuccessorOf 36 = .ok (.goto 4, 3) := by decide +kernel
theorem dX3_liveSuccessorOf_39 : decode cX3_liveSuccessorOf 39 = .ok (.iload_n 2, 1) := by decide +kernel
theorem dX3_liveSuccessorOf_40 : decode cX3_liveSuccessorOf 40 = .ok (.istore_n 2, 1) := by decide +kernel
theorem dX3_liveSuccessorOf_41 : decode cX3_liveSuccessorOf 41 = .ok (.iinc 3 (-1), 3) := by decide +kernel
theorem dX3_liveSuccessorOf_44 : decode cX3_liveSuccessorOf 44 = .ok (.goto (-40), 3) := by decide +kernel
theorem dX3_liveSuccessorOf_47 : decode cX3_liveSuccessorOf 47 = .ok (.iload_n 2, 1) := by decide +kernel
theorem dX3_liveSuccessorOf_48 : decode cX3_liveSuccessorOf 48 = .ok (.ireturn, 1) := by decide +kernel
set_option maxRecDepth 20000 in
theorem ggX3_nextHop_X3_isBetween : GoodIn wsX3_nextHop wsX3_isBetween := goodIn_r _ [6, 7, 8, 5, 9, 10, 11, 12] (by decide +kernel) (by decide +kernel)
set_option maxRecDepth 20000 in
theorem gX3_nextHop_X3_isBetween : GoodIn wsX3_nextHop (va_wsS RX3 53 yX3_isBetween wsX3_isBetween) := goodIn_app (goodIn_of _ (by decide +kernel)) ggX3_nextHop_X3_isBetween
theorem dX3_nextHop_0 : decode cX3_nextHop 0 = .ok (.iload_n 2, 1) := by decide +kernel
theorem dX3_nextHop_1 : decode cX3_nextHop 1 = .ok (.istore 4, 2) := by decide +kernel
theorem dX3_nextHop_3 : decode cX3_nextHop 3 = .ok (.iconst 0, 1) := by decide +kernel
theorem dX3_nextHop_4 : decode cX3_nextHop 4 = .ok (.istore 5, 2) := by decide +kernel
theorem dX3_nextHop_6 : decode cX3_nextHop 6 = .ok (.iload 5, 2) := by decide +kernel
theorem dX3_nextHop_8 : decode cX3_nextHop 8 = .ok (.bipush 6, 2) := by decide +kernel
theorem dX3_nextHop_10 : decode cX3_nextHop 10 = .ok (.if_icmp .ge 58, 3) := by decide +kernel
theorem dX3_nextHop_13 : decode cX3_nextHop 13 = .ok (.aload_n 0, 1) := by decide +kernel
theorem dX3_nextHop_14 : decode cX3_nextHop 14 = .ok (.getfield 20, 3) := by decide +kernel
theorem dX3_nextHop_17 : decode cX3_nextHop 17 = .ok (.bipush 6, 2) := by decide +kernel
theorem dX3_nextHop_19 : decode cX3_nextHop 19 = .ok (.iload_n 1, 1) := by decide +kernel
theorem dX3_nextHop_20 : decode cX3_nextHop 20 = .ok (.imul, 1) := by decide +kernel
theorem dX3_nextHop_21 : decode cX3_nextHop 21 = .ok (.iload 5, 2) := by decide +kernel
theorem dX3_nextHop_23 : decode cX3_nextHop 23 = .ok (.iadd, 1) := by decide +kernel
theorem dX3_nextHop_24 : decode cX3_nextHop 24 = .ok (.iaload, 1) := by decide +kernel
theorem dX3_nextHop_25 : decode cX3_nextHop 25 = .ok (.istore 6, 2) := by decide +kernel
theorem dX3_nextHop_27 : decode cX3_nextHop 27 = .ok (.iload 6, 2) := by decide +kernel
theorem dX3_nextHop_29 : decode cX3_nextHop 29 = .ok (.iconst (-1), 1) := by decide +kernel
theorem dX3_nextHop_30 : decode cX3_nextHop 30 = .ok (.if_icmp .eq 28, 3) := by decide +kernel
theorem dX3_nextHop_33 : decode cX3_nextHop 33 = .ok (.aload_n 0, 1) := by decide +kernel
theorem dX3_nextHop_34 : decode cX3_nextHop 34 = .ok (.getfield 7, 3) := by decide +kernel
theorem dX3_nextHop_37 : decode cX3_nextHop 37 = .ok (.iload 6, 2) := by decide +kernel
theorem dX3_nextHop_39 : decode cX3_nextHop 39 = .ok (.baload, 1) := by decide +kernel
theorem dX3_nextHop_40 : decode cX3_nextHop 40 = .ok (.ifCond .eq 18, 3) := by decide +kernel
theorem dX3_nextHop_43 : decode cX3_nextHop 43 = .ok (.iload 6, 2) := by decide +kernel
theorem dX3_nextHop_45 : decode cX3_nextHop 45 = .ok (.iload_n 1, 1) := by decide +kernel
theorem dX3_nextHop_46 : decode cX3_nextHop 46 = .ok (.iload_n 3, 1) := by decide +kernel
theorem dX3_nextHop_47 : decode cX3_nextHop 47 = .ok (.invokestatic 53, 3) := by decide +kernel
theorem dX3_nextHop_50 : decode cX3_nextHop 50 = .ok (.ifCond .eq 8, 3) := by decide +kernel
theorem dX3_nextHop_53 : decode cX3_nextHop 53 = .ok (.iload 6, 2) := by decide +kernel
theorem dX3_nextHop_55 : decode cX3_nextHop 55 = .ok (.goto 5, 3) := by decide +kernel
theorem dX3_nextHop_58 : decode cX3_nextHop 58 = .ok (.iload 4, 2) := by decide +kernel
theorem dX3_nextHop_60 : decode cX3_nextHop 60 = .ok (.istore 4, 2) := by decide +kernel
theorem dX3_nextHop_62 : decode cX3_nextHop 62 = .ok (.iinc 5 1, 3) := by decide +kernel
theorem dX3_nextHop_65 : decode cX3_nextHop 65 = .ok (.goto (-59), 3) := by decide +kernel
theorem dX3_nextHop_68 : decode cX3_nextHop 68 = .ok (.iload 4, 2) := by decide +kernel
theorem dX3_nextHop_70 : decode cX3_nextHop 70 = .ok (.ireturn, 1) := by decide +kernel
set_option maxRecDepth 20000 in
theorem ggX3_find_X3_liveSuccessorOf : GoodIn wsX3_find wsX3_liveSuccessorOf := goodIn_r _ [7, 8, 9, 24, 25, 26, 27, 28, 29, 30, 31, 32, 33, 34, 35, 36] (by decide +kernel) (by decide +kernel)
set_option maxRecDepth 20000 in
theorem gX3_find_X3_liveSuccessorOf : GoodIn wsX3_find (wsV RX3 56 RX3 yX3_liveSuccessorOf wsX3_liveSuccessorOf) := goodIn_app (goodIn_of _ (by decide +kernel)) ggX3_find_X3_liveSuccessorOf
set_option maxRecDepth 20000 in
theorem ggX3_find_X3_isWithin : GoodIn wsX3_find wsX3_isWithin := goodIn_r _ [12, 13, 14, 6, 15] (by decide +kernel) (by decide +kernel)
set_option maxRecDepth 20000 in
theorem gX3_find_X3_isWithin : GoodIn wsX3_find (va_wsS RX3 49 yX3_isWithin wsX3_isWithin) := goodIn_app (goodIn_of _ (by decide +kernel)) ggX3_find_X3_isWithin
set_option maxRecDepth 20000 in
theorem ggX3_find_X3_nextHop : GoodIn wsX3_find wsX3_nextHop := goodIn_r _ [19, 20, 8, 21, 22, 6, 23, 10, 11, 12, 13, 14, 15, 24, 25, 26, 27, 28, 29, 30, 31, 32, 33, 34, 35, 36] (by decide +kernel) (by decide +kernel)
set_option maxRecDepth 20000 in
theorem gX3_find_X3_nextHop : GoodIn wsX3_find (wsV RX3 63 RX3 yX3_nextHop wsX3_nextHop) := goodIn_app (goodIn_of _ (by decide +kernel)) ggX3_find_X3_nextHop
theorem dX3_find_0 : decode cX3_find 0 = .ok (.iload_n 1, 1) := by decide +kernel
theorem dX3_find_1 : decode cX3_find 1 = .ok (.istore_n 3, 1) := by decide +kernel
theorem dX3_find_2 : decode cX3_find 2 = .ok (.aload_n 0, 1) := by decide +kernel
theorem dX3_find_3 : decode cX3_find 3 = .ok (.iload_n 3, 1) := by decide +kernel
theorem dX3_find_4 : decode cX3_find 4 = .ok (.invokevirtual 56, 3) := by decide +kernel
theorem dX3_find_7 : decode cX3_find 7 = .ok (.istore 4, 2) := by decide +kernel
theorem dX3_find_9 : decode cX3_find 9 = .ok (.aload_n 0, 1) := by decide +kernel
theorem dX3_find_10 : decode cX3_find 10 = .ok (.iconst 0, 1) := by decide +kernel
theorem dX3_find_11 : decode cX3_find 11 = .ok (.putfield 60, 3) := by decide +kernel
theorem dX3_find_14 : decode cX3_find 14 = .ok (.aload_n 0, 1) := by decide +kernel
theorem dX3_find_15 : decode cX3_find 15 = .ok (.getfield 29, 3) := by decide +kernel
theorem dX3_find_18 : decode cX3_find 18 = .ok (.iconst 0, 1) := by decide +kernel
theorem dX3_find_19 : decode cX3_find 19 = .ok (.iload_n 1, 1) := by decide +kernel
theorem dX3_find_20 : decode cX3_find 20 = .ok (.iastore, 1) := by decide +kernel
theorem dX3_find_21 : decode cX3_find 21 = .ok (.iload_n 2, 1) := by decide +kernel
theorem dX3_find_22 : decode cX3_find 22 = .ok (.iload_n 3, 1) := by decide +kernel
theorem dX3_find_23 : decode cX3_find 23 = .ok (.iload 4, 2) := by decide +kernel
theorem dX3_find_25 : decode cX3_find 25 = .ok (.invokestatic 49, 3) := by decide +kernel
theorem dX3_find_28 : decode cX3_find 28 = .ok (.ifCond .ne 53, 3) := by decide +kernel
theorem dX3_find_31 : decode cX3_find 31 = .ok (.aload_n 0, 1) := by decide +kernel
theorem dX3_find_32 : decode cX3_find 32 = .ok (.getfield 60, 3) := by decide +kernel
theorem dX3_find_35 : decode cX3_find 35 = .ok (.bipush 64, 2) := by decide +kernel
theorem dX3_find_37 : decode cX3_find 37 = .ok (.if_icmp .ne 5, 3) := by decide +kernel
theorem dX3_find_40 : decode cX3_find 40 = .ok (.iconst (-1), 1) := by decide +kernel
theorem dX3_find_41 : decode cX3_find 41 = .ok (.ireturn, 1) := by decide +kernel
theorem dX3_find_42 : decode cX3_find 42 = .ok (.aload_n 0, 1) := by decide +kernel
theorem dX3_find_43 : decode cX3_find 43 = .ok (.iload_n 3, 1) := by decide +kernel
theorem dX3_find_44 : decode cX3_find 44 = .ok (.iload 4, 2) := by decide +kernel
theorem dX3_find_46 : decode cX3_find 46 = .ok (.iload_n 2, 1) := by decide +kernel
theorem dX3_find_47 : decode cX3_find 47 = .ok (.invokevirtual 63, 3) := by decide +kernel
theorem dX3_find_50 : decode cX3_find 50 = .ok (.istore_n 3, 1) := by decide +kernel
theorem dX3_find_51 : decode cX3_find 51 = .ok (.aload_n 0, 1) := by decide +kernel
theorem dX3_find_52 : decode cX3_find 52 = .ok (.iload_n 3, 1) := by decide +kernel
theorem dX3_find_53 : decode cX3_find 53 = .ok (.invokevirtual 56, 3) := by decide +kernel
theorem dX3_find_56 : decode cX3_find 56 = .ok (.istore 4, 2) := by decide +kernel
theorem dX3_find_58 : decode cX3_find 58 = .ok (.aload_n 0, 1) := by decide +kernel
theorem dX3_find_59 : decode cX3_find 59 = .ok (.dup, 1) := by decide +kernel
theorem dX3_find_60 : decode cX3_find 60 = .ok (.getfield 60, 3) := by decide +kernel
theorem dX3_find_63 : decode cX3_find 63 = .ok (.iconst 1, 1) := by decide +kernel
theorem dX3_find_64 : decode cX3_find 64 = .ok (.iadd, 1) := by decide +kernel
theorem dX3_find_65 : decode cX3_find 65 = .ok (.putfield 60, 3) := by decide +kernel
theorem dX3_find_68 : decode cX3_find 68 = .ok (.aload_n 0, 1) := by decide +kernel
theorem dX3_find_69 : decode cX3_find 69 = .ok (.getfield 29, 3) := by decide +kernel
theorem dX3_find_72 : decode cX3_find 72 = .ok (.aload_n 0, 1) := by decide +kernel
theorem dX3_find_73 : decode cX3_find 73 = .ok (.getfield 60, 3) := by decide +kernel
theorem dX3_find_76 : decode cX3_find 76 = .ok (.iload_n 3, 1) := by decide +kernel
theorem dX3_find_77 : decode cX3_find 77 = .ok (.iastore, 1) := by decide +kernel
theorem dX3_find_78 : decode cX3_find 78 = .ok (.goto (-57), 3) := by decide +kernel
theorem dX3_find_81 : decode cX3_find 81 = .ok (.iload 4, 2) := by decide +kernel
theorem dX3_find_83 : decode cX3_find 83 = .ok (.ireturn, 1) := by decide +kernel
theorem dX3_begins_0 : decode cX3_begins 0 = .ok (.aload_n 0, 1) := by decide +kernel
theorem dX3_begins_1 : decode cX3_begins 1 = .ok (.getfield 7, 3) := by decide +kernel
theorem dX3_begins_4 : decode cX3_begins 4 = .ok (.iload_n 1, 1) := by decide +kernel
theorem dX3_begins_5 : decode cX3_begins 5 = .ok (.iconst 1, 1) := by decide +kernel
theorem dX3_begins_6 : decode cX3_begins 6 = .ok (.bastore, 1) := by decide +kernel
theorem dX3_begins_7 : decode cX3_begins 7 = .ok (.aload_n 0, 1) := by decide +kernel
theorem dX3_begins_8 : decode cX3_begins 8 = .ok (.getfield 13, 3) := by decide +kernel
theorem dX3_begins_11 : decode cX3_begins 11 = .ok (.iconst 3, 1) := by decide +kernel
theorem dX3_begins_12 : decode cX3_begins 12 = .ok (.iload_n 1, 1) := by decide +kernel
theorem dX3_begins_13 : decode cX3_begins 13 = .ok (.imul, 1) := by decide +kernel
theorem dX3_begins_14 : decode cX3_begins 14 = .ok (.iload_n 2, 1) := by decide +kernel
theorem dX3_begins_15 : decode cX3_begins 15 = .ok (.iastore, 1) := by decide +kernel
theorem dX3_begins_16 : decode cX3_begins 16 = .ok (.aload_n 0, 1) := by decide +kernel
theorem dX3_begins_17 : decode cX3_begins 17 = .ok (.getfield 13, 3) := by decide +kernel
theorem dX3_begins_20 : decode cX3_begins 20 = .ok (.iconst 3, 1) := by decide +kernel
theorem dX3_begins_21 : decode cX3_begins 21 = .ok (.iload_n 1, 1) := by decide +kernel
theorem dX3_begins_22 : decode cX3_begins 22 = .ok (.imul, 1) := by decide +kernel
theorem dX3_begins_23 : decode cX3_begins 23 = .ok (.iconst 1, 1) := by decide +kernel
theorem dX3_begins_24 : decode cX3_begins 24 = .ok (.iadd, 1) := by decide +kernel
theorem dX3_begins_25 : decode cX3_begins 25 = .ok (.iload_n 3, 1) := by decide +kernel
theorem dX3_begins_26 : decode cX3_begins 26 = .ok (.iastore, 1) := by decide +kernel
theorem dX3_begins_27 : decode cX3_begins 27 = .ok (.aload_n 0, 1) := by decide +kernel
theorem dX3_begins_28 : decode cX3_begins 28 = .ok (.getfield 13, 3) := by decide +kernel
theorem dX3_begins_31 : decode cX3_begins 31 = .ok (.iconst 3, 1) := by decide +kernel
theorem dX3_begins_32 : decode cX3_begins 32 = .ok (.iload_n 1, 1) := by decide +kernel
theorem dX3_begins_33 : decode cX3_begins 33 = .ok (.imul, 1) := by decide +kernel
theorem dX3_begins_34 : decode cX3_begins 34 = .ok (.iconst 2, 1) := by decide +kernel
theorem dX3_begins_35 : decode cX3_begins 35 = .ok (.iadd, 1) := by decide +kernel
theorem dX3_begins_36 : decode cX3_begins 36 = .ok (.iload 4, 2) := by decide +kernel
theorem dX3_begins_38 : decode cX3_begins 38 = .ok (.iastore, 1) := by decide +kernel
theorem dX3_begins_39 : decode cX3_begins 39 = .ok (.aload_n 0, 1) := by decide +kernel
theorem dX3_begins_40 : decode cX3_begins 40 = .ok (.getfield 17, 3) := by decide +kernel
theorem dX3_begins_43 : decode cX3_begins 43 = .ok (.iload_n 1, 1) := by decide +kernel
theorem dX3_begins_44 : decode cX3_begins 44 = .ok (.iconst (-1), 1) := by decide +kernel
theorem dX3_begins_45 : decode cX3_begins 45 = .ok (.iastore, 1) := by decide +kernel
theorem dX3_begins_46 : decode cX3_begins 46 = .ok (.iconst 0, 1) := by decide +kernel
theorem dX3_begins_47 : decode cX3_begins 47 = .ok (.istore 5, 2) := by decide +kernel
theorem dX3_begins_49 : decode cX3_begins 49 = .ok (.iload 5, 2) := by decide +kernel
theorem dX3_begins_51 : decode cX3_begins 51 = .ok (.bipush 6, 2) := by decide +kernel
theorem dX3_begins_53 : decode cX3_begins 53 = .ok (.if_icmp .ge 22, 3) := by decide +kernel
theorem dX3_begins_56 : decode cX3_begins 56 = .ok (.aload_n 0, 1) := by decide +kernel
theorem dX3_begins_57 : decode cX3_begins 57 = .ok (.getfield 20, 3) := by decide +kernel
theorem dX3_begins_60 : decode cX3_begins 60 = .ok (.bipush 6, 2) := by decide +kernel
theorem dX3_begins_62 : decode cX3_begins 62 = .ok (.iload_n 1, 1) := by decide +kernel
theorem dX3_begins_63 : decode cX3_begins 63 = .ok (.imul, 1) := by decide +kernel
theorem dX3_begins_64 : decode cX3_begins 64 = .ok (.iload 5, 2) := by decide +kernel
theorem dX3_begins_66 : decode cX3_begins 66 = .ok (.iadd, 1) := by decide +kernel
theorem dX3_begins_67 : decode cX3_begins 67 = .ok (.iconst (-1), 1) := by decide +kernel
theorem dX3_begins_68 : decode cX3_begins 68 = .ok (.iastore, 1) := by decide +kernel
theorem dX3_begins_69 : decode cX3_begins 69 = .ok (.iinc 5 1, 3) := by decide +kernel
theorem dX3_begins_72 : decode cX3_begins 72 = .ok (.goto (-23), 3) := by decide +kernel
theorem dX3_begins_75 : decode cX3_begins 75 = .ok (.iconst 0, 1) := by decide +kernel
theorem dX3_begins_76 : decode cX3_begins 76 = .ok (.istore 5, 2) := by decide +kernel
theorem dX3_begins_78 : decode cX3_begins 78 = .ok (.iload 5, 2) := by decide +kernel
theorem dX3_begins_80 : decode cX3_begins 80 = .ok (.bipush 64, 2) := by decide +kernel
theorem dX3_begins_82 : decode cX3_begins 82 = .ok (.if_icmp .ge 22, 3) := by decide +kernel
theorem dX3_begins_85 : decode cX3_begins 85 = .ok (.aload_n 0, 1) := by decide +kernel
theorem dX3_begins_86 : decode cX3_begins 86 = .ok (.getfield 26, 3) := by decide +kernel
theorem dX3_begins_89 : decode cX3_begins 89 = .ok (.bipush 64, 2) := by decide +kernel
theorem dX3_begins_91 : decode cX3_begins 91 = .ok (.iload_n 1, 1) := by decide +kernel
theorem dX3_begins_92 : decode cX3_begins 92 = .ok (.imul, 1) := by decide +kernel
theorem dX3_begins_93 : decode cX3_begins 93 = .ok (.iload 5, 2) := by decide +kernel
theorem dX3_begins_95 : decode cX3_begins 95 = .ok (.iadd, 1) := by decide +kernel
theorem dX3_begins_96 : decode cX3_begins 96 = .ok (.iconst 0, 1) := by decide +kernel
theorem dX3_begins_97 : decode cX3_begins 97 = .ok (.iastore, 1) := by decide +kernel
theorem dX3_begins_98 : decode cX3_begins 98 = .ok (.iinc 5 1, 3) := by decide +kernel
theorem dX3_begins_101 : decode cX3_begins 101 = .ok (.goto (-23), 3) := by decide +kernel
theorem dX3_begins_104 : decode cX3_begins 104 = .ok (.return_, 1) := by decide +kernel
theorem dX3_follows_0 : decode cX3_follows 0 = .ok (.aload_n 0, 1) := by decide +kernel
theorem dX3_follows_1 : decode cX3_follows 1 = .ok (.getfield 13, 3) := by decide +kernel
theorem dX3_follows_4 : decode cX3_follows 4 = .ok (.iconst 3, 1) := by decide +kernel
theorem dX3_follows_5 : decode cX3_follows 5 = .ok (.iload_n 2, 1) := by decide +kernel
theorem dX3_follows_6 : decode cX3_follows 6 = .ok (.imul, 1) := by decide +kernel
theorem dX3_follows_7 : decode cX3_follows 7 = .ok (.iaload, 1) := by decide +kernel
theorem dX3_follows_8 : decode cX3_follows 8 = .ok (.istore_n 3, 1) := by decide +kernel
theorem dX3_follows_9 : decode cX3_follows 9 = .ok (.aload_n 0, 1) := by decide +kernel
theorem dX3_follows_10 : decode cX3_follows 10 = .ok (.getfield 13, 3) := by decide +kernel
theorem dX3_follows_13 : decode cX3_follows 13 = .ok (.iconst 3, 1) := by decide +kernel
theorem dX3_follows_14 : decode cX3_follows 14 = .ok (.iload_n 2, 1) := by decide +kernel
theorem dX3_follows_15 : decode cX3_follows 15 = .ok (.imul, 1) := by decide +kernel
theorem dX3_follows_16 : decode cX3_follows 16 = .ok (.iconst 1, 1) := by decide +kernel
theorem dX3_follows_17 : decode cX3_follows 17 = .ok (.iadd, 1) := by decide +kernel
theorem dX3_follows_18 : decode cX3_follows 18 = .ok (.iaload, 1) := by decide +kernel
theorem dX3_follows_19 : decode cX3_follows 19 = .ok (.istore 4, 2) := by decide +kernel
theorem dX3_follows_21 : decode cX3_follows 21 = .ok (.aload_n 0, 1) := by decide +kernel
theorem dX3_follows_22 : decode cX3_follows 22 = .ok (.getfield 13, 3) := by decide +kernel
theorem dX3_follows_25 : decode cX3_follows 25 = .ok (.iconst 3, 1) := by decide +kernel
theorem dX3_follows_26 : decode cX3_follows 26 = .ok (.iload_n 1, 1) := by decide +kernel
theorem dX3_follows_27 : decode cX3_follows 27 = .ok (.imul, 1) := by decide +kernel
theorem dX3_follows_28 : decode cX3_follows 28 = .ok (.iload_n 2, 1) := by decide +kernel
theorem dX3_follows_29 : decode cX3_follows 29 = .ok (.iastore, 1) := by decide +kernel
theorem dX3_follows_30 : decode cX3_follows 30 = .ok (.aload_n 0, 1) := by decide +kernel
theorem dX3_follows_31 : decode cX3_follows 31 = .ok (.getfield 13, 3) := by decide +kernel
theorem dX3_follows_34 : decode cX3_follows 34 = .ok (.iconst 3, 1) := by decide +kernel
theorem dX3_follows_35 : decode cX3_follows 35 = .ok (.iload_n 1, 1) := by decide +kernel
theorem dX3_follows_36 : decode cX3_follows 36 = .ok (.imul, 1) := by decide +kernel
theorem dX3_follows_37 : decode cX3_follows 37 = .ok (.iconst 1, 1) := by decide +kernel
theorem dX3_follows_38 : decode cX3_follows 38 = .ok (.iadd, 1) := by decide +kernel
theorem dX3_follows_39 : decode cX3_follows 39 = .ok (.iload_n 3, 1) := by decide +kernel
theorem dX3_follows_40 : decode cX3_follows 40 = .ok (.iastore, 1) := by decide +kernel
theorem dX3_follows_41 : decode cX3_follows 41 = .ok (.aload_n 0, 1) := by decide +kernel
theorem dX3_follows_42 : decode cX3_follows 42 = .ok (.getfield 13, 3) := by decide +kernel
theorem dX3_follows_45 : decode cX3_follows 45 = .ok (.iconst 3, 1) := by decide +kernel
theorem dX3_follows_46 : decode cX3_follows 46 = .ok (.iload_n 1, 1) := by decide +kernel
theorem dX3_follows_47 : decode cX3_follows 47 = .ok (.imul, 1) := by decide +kernel
theorem dX3_follows_48 : decode cX3_follows 48 = .ok (.iconst 2, 1) := by decide +kernel
theorem dX3_follows_49 : decode cX3_follows 49 = .ok (.iadd, 1) := by decide +kernel
theorem dX3_follows_50 : decode cX3_follows 50 = .ok (.iload 4, 2) := by decide +kernel
theorem dX3_follows_52 : decode cX3_follows 52 = .ok (.iastore, 1) := by decide +kernel
theorem dX3_follows_53 : decode cX3_follows 53 = .ok (.return_, 1) := by decide +kernel
set_option maxRecDepth 20000 in
theorem ggX3_create_X3_isId : GoodIn wsX3_create wsX3_isId := goodIn_r _ [5] (by decide +kernel) (by decide +kernel)
set_option maxRecDepth 20000 in
theorem gX3_create_X3_isId : GoodIn wsX3_create (va_wsS RX3 67 yX3_isId wsX3_isId) := goodIn_app (goodIn_of _ (by decide +kernel)) ggX3_create_X3_isId
set_option maxRecDepth 20000 in
theorem ggX3_create_X3_fails : GoodIn wsX3_create wsX3_fails := goodIn_r _ [9, 1, 23, 24, 25, 26, 27, 28, 29, 30, 31, 32, 33, 34, 35] (by decide +kernel) (by decide +kernel)
set_option maxRecDepth 20000 in
theorem gX3_create_X3_fails : GoodIn wsX3_create (wsV RX3 71 RX3 yX3_fails wsX3_fails) := goodIn_app (goodIn_of _ (by decide +kernel)) ggX3_create_X3_fails
set_option maxRecDepth 20000 in
theorem ggX3_create_X3_countLiving : GoodIn wsX3_create wsX3_countLiving := goodIn_r _ [13, 14, 23, 24, 25, 26, 27, 28, 29, 30, 31, 32, 33, 34, 35] (by decide +kernel) (by decide +kernel)
set_option maxRecDepth 20000 in
theorem gX3_create_X3_countLiving : GoodIn wsX3_create (wsV RX3 74 RX3 yX3_countLiving wsX3_countLiving) := goodIn_app (goodIn_of _ (by decide +kernel)) ggX3_create_X3_countLiving
set_option maxRecDepth 20000 in
theorem ggX3_create_X3_begins : GoodIn wsX3_create wsX3_begins := goodIn_r _ [18, 14, 19, 20, 21, 22, 23, 24, 25, 26, 27, 28, 29, 30, 31, 32, 33, 34, 35] (by decide +kernel) (by decide +kernel)
set_option maxRecDepth 20000 in
theorem gX3_create_X3_begins : GoodIn wsX3_create (wsV RX3 78 RX3 yX3_begins wsX3_begins) := goodIn_app (goodIn_of _ (by decide +kernel)) ggX3_create_X3_begins
theorem dX3_create_0 : decode cX3_create 0 = .ok (.aload_n 0, 1) := by decide +kernel
theorem dX3_create_1 : decode cX3_create 1 = .ok (.iconst 0, 1) := by decide +kernel
theorem dX3_create_2 : decode cX3_create 2 = .ok (.putfield 41, 3) := by decide +kernel
theorem dX3_create_5 : decode cX3_create 5 = .ok (.iload_n 1, 1) := by decide +kernel
theorem dX3_create_6 : decode cX3_create 6 = .ok (.invokestatic 67, 3) := by decide +kernel
theorem dX3_create_9 : decode cX3_create 9 = .ok (.ifCond .ne 9, 3) := by decide +kernel
theorem dX3_create_12 : decode cX3_create 12 = .ok (.aload_n 0, 1) := by decide +kernel
theorem dX3_create_13 : decode cX3_create 13 = .ok (.iconst 1, 1) := by decide +kernel
theorem dX3_create_14 : decode cX3_create 14 = .ok (.invokevirtual 71, 3) := by decide +kernel
theorem dX3_create_17 : decode cX3_create 17 = .ok (.ireturn, 1) := by decide +kernel
theorem dX3_create_18 : decode cX3_create 18 = .ok (.aload_n 0, 1) := by decide +kernel
theorem dX3_create_19 : decode cX3_create 19 = .ok (.invokevirtual 74, 3) := by decide +kernel
theorem dX3_create_22 : decode cX3_create 22 = .ok (.ifCond .le 9, 3) := by decide +kernel
theorem dX3_create_25 : decode cX3_create 25 = .ok (.aload_n 0, 1) := by decide +kernel
theorem dX3_create_26 : decode cX3_create 26 = .ok (.iconst 2, 1) := by decide +kernel
theorem dX3_create_27 : decode cX3_create 27 = .ok (.invokevirtual 71, 3) := by decide +kernel
theorem dX3_create_30 : decode cX3_create 30 = .ok (.ireturn, 1) := by decide +kernel
theorem dX3_create_31 : decode cX3_create 31 = .ok (.aload_n 0, 1) := by decide +kernel
theorem dX3_create_32 : decode cX3_create 32 = .ok (.iload_n 1, 1) := by decide +kernel
theorem dX3_create_33 : decode cX3_create 33 = .ok (.iload_n 1, 1) := by decide +kernel
theorem dX3_create_34 : decode cX3_create 34 = .ok (.iload_n 1, 1) := by decide +kernel
theorem dX3_create_35 : decode cX3_create 35 = .ok (.iload_n 1, 1) := by decide +kernel
theorem dX3_create_36 : decode cX3_create 36 = .ok (.invokevirtual 78, 3) := by decide +kernel
theorem dX3_create_39 : decode cX3_create 39 = .ok (.iconst 1, 1) := by decide +kernel
theorem dX3_create_40 : decode cX3_create 40 = .ok (.ireturn, 1) := by decide +kernel
set_option maxRecDepth 20000 in
theorem ggX3_join_X3_isId : GoodIn wsX3_join wsX3_isId := goodIn_r _ [7] (by decide +kernel) (by decide +kernel)
set_option maxRecDepth 20000 in
theorem gX3_join_X3_isId : GoodIn wsX3_join (va_wsS RX3 67 yX3_isId wsX3_isId) := goodIn_app (goodIn_of _ (by decide +kernel)) ggX3_join_X3_isId
set_option maxRecDepth 20000 in
theorem ggX3_join_X3_fails : GoodIn wsX3_join wsX3_fails := goodIn_r _ [11, 1, 42, 43, 44, 45, 46, 47, 48, 49, 50, 51, 52, 53, 54] (by decide +kernel) (by decide +kernel)
set_option maxRecDepth 20000 in
theorem gX3_join_X3_fails : GoodIn wsX3_join (wsV RX3 71 RX3 yX3_fails wsX3_fails) := goodIn_app (goodIn_of _ (by decide +kernel)) ggX3_join_X3_fails
set_option maxRecDepth 20000 in
theorem ggX3_join_X3_find : GoodIn wsX3_join wsX3_find := goodIn_r _ [15, 16, 17, 18, 19, 20, 6, 21, 2, 3, 22, 23, 24, 25, 26, 27, 28, 29, 30, 31, 32, 33, 34, 35, 42, 43, 44, 45, 46, 47, 48, 49, 50, 51, 52, 53, 54] (by decide +kernel) (by decide +kernel)
set_option maxRecDepth 20000 in
theorem gX3_join_X3_find : GoodIn wsX3_join (wsV RX3 82 RX3 yX3_find wsX3_find) := goodIn_app (goodIn_of _ (by decide +kernel)) ggX3_join_X3_find
set_option maxRecDepth 20000 in
theorem ggX3_join_X3_begins : GoodIn wsX3_join wsX3_begins := goodIn_r _ [39, 2, 3, 40, 32, 41, 42, 43, 44, 45, 46, 47, 48, 49, 50, 51, 52, 53, 54] (by decide +kernel) (by decide +kernel)
set_option maxRecDepth 20000 in
theorem gX3_join_X3_begins : GoodIn wsX3_join (wsV RX3 78 RX3 yX3_begins wsX3_begins) := goodIn_app (goodIn_of _ (by decide +kernel)) ggX3_join_X3_begins
theorem dX3_join_0 : decode cX3_join 0 = .ok (.aload_n 0, 1) := by decide +kernel
theorem dX3_join_1 : decode cX3_join 1 = .ok (.iconst 0, 1) := by decide +kernel
theorem dX3_join_2 : decode cX3_join 2 = .ok (.putfield 41, 3) := by decide +kernel
theorem dX3_join_5 : decode cX3_join 5 = .ok (.iload_n 1, 1) := by decide +kernel
theorem dX3_join_6 : decode cX3_join 6 = .ok (.invokestatic 67, 3) := by decide +kernel
theorem dX3_join_9 : decode cX3_join 9 = .ok (.ifCond .eq 10, 3) := by decide +kernel
theorem dX3_join_12 : decode cX3_join 12 = .ok (.iload_n 2, 1) := by decide +kernel
theorem dX3_join_13 : decode cX3_join 13 = .ok (.invokestatic 67, 3) := by decide +kernel
theorem dX3_join_16 : decode cX3_join 16 = .ok (.ifCond .ne 9, 3) := by decide +kernel
theorem dX3_join_19 : decode cX3_join 19 = .ok (.aload_n 0, 1) := by decide +kernel
theorem dX3_join_20 : decode cX3_join 20 = .ok (.iconst 1, 1) := by decide +kernel
theorem dX3_join_21 : decode cX3_join 21 = .ok (.invokevirtual 71, 3) := by decide +kernel
theorem dX3_join_24 : decode cX3_join 24 = .ok (.ireturn, 1) := by decide +kernel
theorem dX3_join_25 : decode cX3_join 25 = .ok (.aload_n 0, 1) := by decide +kernel
theorem dX3_join_26 : decode cX3_join 26 = .ok (.getfield 7, 3) := by decide +kernel
theorem dX3_join_29 : decode cX3_join 29 = .ok (.iload_n 1, 1) := by decide +kernel
theorem dX3_join_30 : decode cX3_join 30 = .ok (.baload, 1) := by decide +kernel
theorem dX3_join_31 : decode cX3_join 31 = .ok (.ifCond .ne 12, 3) := by decide +kernel
theorem dX3_join_34 : decode cX3_join 34 = .ok (.aload_n 0, 1) := by decide +kernel
theorem dX3_join_35 : decode cX3_join 35 = .ok (.getfield 7, 3) := by decide +kernel
theorem dX3_join_38 : decode cX3_join 38 = .ok (.iload_n 2, 1) := by decide +kernel
theorem dX3_join_39 : decode cX3_join 39 = .ok (.baload, 1) := by decide +kernel
theorem dX3_join_40 : decode cX3_join 40 = .ok (.ifCond .ne 7, 3) := by decide +kernel
theorem dX3_join_43 : decode cX3_join 43 = .ok (.iconst (-1), 1) := by decide +kernel
theorem dX3_join_44 : decode cX3_join 44 = .ok (.goto 9, 3) := by decide +kernel
theorem dX3_join_47 : decode cX3_join 47 = .ok (.aload_n 0, 1) := by decide +kernel
theorem dX3_join_48 : decode cX3_join 48 = .ok (.iload_n 2, 1) := by decide +kernel
theorem dX3_join_49 : decode cX3_join 49 = .ok (.iload_n 1, 1) := by decide +kernel
theorem dX3_join_50 : decode cX3_join 50 = .ok (.invokevirtual 82, 3) := by decide +kernel
theorem dX3_join_53 : decode cX3_join 53 = .ok (.istore_n 3, 1) := by decide +kernel
theorem dX3_join_54 : decode cX3_join 54 = .ok (.iload_n 3, 1) := by decide +kernel
theorem dX3_join_55 : decode cX3_join 55 = .ok (.iconst (-1), 1) := by decide +kernel
theorem dX3_join_56 : decode cX3_join 56 = .ok (.if_icmp .ne 9, 3) := by decide +kernel
theorem dX3_join_59 : decode cX3_join 59 = .ok (.aload_n 0, 1) := by decide +kernel
theorem dX3_join_60 : decode cX3_join 60 = .ok (.iconst 2, 1) := by decide +kernel
theorem dX3_join_61 : decode cX3_join 61 = .ok (.invokevirtual 71, 3) := by decide +kernel
theorem dX3_join_64 : decode cX3_join 64 = .ok (.ireturn, 1) := by decide +kernel
theorem dX3_join_65 : decode cX3_join 65 = .ok (.aload_n 0, 1) := by decide +kernel
theorem dX3_join_66 : decode cX3_join 66 = .ok (.iload_n 1, 1) := by decide +kernel
theorem dX3_join_67 : decode cX3_join 67 = .ok (.iload_n 3, 1) := by decide +kernel
theorem dX3_join_68 : decode cX3_join 68 = .ok (.aload_n 0, 1) := by decide +kernel
theorem dX3_join_69 : decode cX3_join 69 = .ok (.getfield 13, 3) := by decide +kernel
theorem dX3_join_72 : decode cX3_join 72 = .ok (.iconst 3, 1) := by decide +kernel
theorem dX3_join_73 : decode cX3_join 73 = .ok (.iload_n 3, 1) := by decide +kernel
theorem dX3_join_74 : decode cX3_join 74 = .ok (.imul, 1) := by decide +kernel
theorem dX3_join_75 : decode cX3_join 75 = .ok (.iaload, 1) := by decide +kernel
theorem dX3_join_76 : decode cX3_join 76 = .ok (.aload_n 0, 1) := by decide +kernel
theorem dX3_join_77 : decode cX3_join 77 = .ok (.getfield 13, 3) := by decide +kernel
theorem dX3_join_80 : decode cX3_join 80 = .ok (.iconst 3, 1) := by decide +kernel
theorem dX3_join_81 : decode cX3_join 81 = .ok (.iload_n 3, 1) := by decide +kernel
theorem dX3_join_82 : decode cX3_join 82 = .ok (.imul, 1) := by decide +kernel
theorem dX3_join_83 : decode cX3_join 83 = .ok (.iconst 1, 1) := by decide +kernel
theorem dX3_join_84 : decode cX3_join 84 = .ok (.iadd, 1) := by decide +kernel
theorem dX3_join_85 : decode cX3_join 85 = .ok (.iaload, 1) := by decide +kernel
theorem dX3_join_86 : decode cX3_join 86 = .ok (.invokevirtual 78, 3) := by decide +kernel
theorem dX3_join_89 : decode cX3_join 89 = .ok (.iload_n 3, 1) := by decide +kernel
theorem dX3_join_90 : decode cX3_join 90 = .ok (.ireturn, 1) := by decide +kernel
set_option maxRecDepth 20000 in
theorem ggX3_refuses_X3_isId : GoodIn wsX3_refuses wsX3_isId := goodIn_r _ [5] (by decide +kernel) (by decide +kernel)
set_option maxRecDepth 20000 in
theorem gX3_refuses_X3_isId : GoodIn wsX3_refuses (va_wsS RX3 67 yX3_isId wsX3_isId) := goodIn_app (goodIn_of _ (by decide +kernel)) ggX3_refuses_X3_isId
theorem dX3_refuses_0 : decode cX3_refuses 0 = .ok (.iload_n 1, 1) := by decide +kernel
theorem dX3_refuses_1 : decode cX3_refuses 1 = .ok (.invokestatic 67, 3) := by decide +kernel
theorem dX3_refuses_4 : decode cX3_refuses 4 = .ok (.ifCond .ne 7, 3) := by decide +kernel
theorem dX3_refuses_7 : decode cX3_refuses 7 = .ok (.iconst 1, 1) := by decide +kernel
theorem dX3_refuses_8 : decode cX3_refuses 8 = .ok (.goto 17, 3) := by decide +kernel
theorem dX3_refuses_11 : decode cX3_refuses 11 = .ok (.aload_n 0, 1) := by decide +kernel
theorem dX3_refuses_12 : decode cX3_refuses 12 = .ok (.getfield 7, 3) := by decide +kernel
theorem dX3_refuses_15 : decode cX3_refuses 15 = .ok (.iload_n 1, 1) := by decide +kernel
theorem dX3_refuses_16 : decode cX3_refuses 16 = .ok (.baload, 1) := by decide +kernel
theorem dX3_refuses_17 : decode cX3_refuses 17 = .ok (.ifCond .eq 7, 3) := by decide +kernel
theorem dX3_refuses_20 : decode cX3_refuses 20 = .ok (.iconst 0, 1) := by decide +kernel
theorem dX3_refuses_21 : decode cX3_refuses 21 = .ok (.goto 4, 3) := by decide +kernel
theorem dX3_refuses_24 : decode cX3_refuses 24 = .ok (.iconst 2, 1) := by decide +kernel
theorem dX3_refuses_25 : decode cX3_refuses 25 = .ok (.ireturn, 1) := by decide +kernel
set_option maxRecDepth 20000 in
theorem ggX3_fail_X3_refuses : GoodIn wsX3_fail wsX3_refuses := goodIn_r _ [7, 2, 8, 9, 6, 10, 15, 16, 17, 18, 19, 20, 21, 22, 23, 24, 25, 26, 27] (by decide +kernel) (by decide +kernel)
set_option maxRecDepth 20000 in
theorem gX3_fail_X3_refuses : GoodIn wsX3_fail (wsV RX3 85 RX3 yX3_refuses wsX3_refuses) := goodIn_app (goodIn_of _ (by decide +kernel)) ggX3_fail_X3_refuses
set_option maxRecDepth 20000 in
theorem ggX3_fail_X3_countLiving : GoodIn wsX3_fail wsX3_countLiving := goodIn_r _ [14, 2, 15, 16, 17, 18, 19, 20, 21, 22, 23, 24, 25, 26, 27] (by decide +kernel) (by decide +kernel)
set_option maxRecDepth 20000 in
theorem gX3_fail_X3_countLiving : GoodIn wsX3_fail (wsV RX3 74 RX3 yX3_countLiving wsX3_countLiving) := goodIn_app (goodIn_of _ (by decide +kernel)) ggX3_fail_X3_countLiving
theorem dX3_fail_0 : decode cX3_fail 0 = .ok (.aload_n 0, 1) := by decide +kernel
theorem dX3_fail_1 : decode cX3_fail 1 = .ok (.aload_n 0, 1) := by decide +kernel
theorem dX3_fail_2 : decode cX3_fail 2 = .ok (.iload_n 1, 1) := by decide +kernel
theorem dX3_fail_3 : decode cX3_fail 3 = .ok (.invokevirtual 85, 3) := by decide +kernel
theorem dX3_fail_6 : decode cX3_fail 6 = .ok (.putfield 41, 3) := by decide +kernel
theorem dX3_fail_9 : decode cX3_fail 9 = .ok (.aload_n 0, 1) := by decide +kernel
theorem dX3_fail_10 : decode cX3_fail 10 = .ok (.getfield 41, 3) := by decide +kernel
theorem dX3_fail_13 : decode cX3_fail 13 = .ok (.ifCond .le 5, 3) := by decide +kernel
theorem dX3_fail_16 : decode cX3_fail 16 = .ok (.iconst 0, 1) := by decide +kernel
theorem dX3_fail_17 : decode cX3_fail 17 = .ok (.ireturn, 1) := by decide +kernel
theorem dX3_fail_18 : decode cX3_fail 18 = .ok (.aload_n 0, 1) := by decide +kernel
theorem dX3_fail_19 : decode cX3_fail 19 = .ok (.getfield 7, 3) := by decide +kernel
theorem dX3_fail_22 : decode cX3_fail 22 = .ok (.iload_n 1, 1) := by decide +kernel
theorem dX3_fail_23 : decode cX3_fail 23 = .ok (.iconst 0, 1) := by decide +kernel
theorem dX3_fail_24 : decode cX3_fail 24 = .ok (.bastore, 1) := by decide +kernel
theorem dX3_fail_25 : decode cX3_fail 25 = .ok (.aload_n 0, 1) := by decide +kernel
theorem dX3_fail_26 : decode cX3_fail 26 = .ok (.invokevirtual 74, 3) := by decide +kernel
theorem dX3_fail_29 : decode cX3_fail 29 = .ok (.ireturn, 1) := by decide +kernel
theorem dX3_copy_0 : decode cX3_copy 0 = .ok (.aload_n 0, 1) := by decide +kernel
theorem dX3_copy_1 : decode cX3_copy 1 = .ok (.getfield 26, 3) := by decide +kernel
theorem dX3_copy_4 : decode cX3_copy 4 = .ok (.bipush 64, 2) := by decide +kernel
theorem dX3_copy_6 : decode cX3_copy 6 = .ok (.iload_n 3, 1) := by decide +kernel
theorem dX3_copy_7 : decode cX3_copy 7 = .ok (.imul, 1) := by decide +kernel
theorem dX3_copy_8 : decode cX3_copy 8 = .ok (.iload_n 2, 1) := by decide +kernel
theorem dX3_copy_9 : decode cX3_copy 9 = .ok (.iadd, 1) := by decide +kernel
theorem dX3_copy_10 : decode cX3_copy 10 = .ok (.iaload, 1) := by decide +kernel
theorem dX3_copy_11 : decode cX3_copy 11 = .ok (.aload_n 0, 1) := by decide +kernel
theorem dX3_copy_12 : decode cX3_copy 12 = .ok (.getfield 26, 3) := by decide +kernel
theorem dX3_copy_15 : decode cX3_copy 15 = .ok (.bipush 64, 2) := by decide +kernel
theorem dX3_copy_17 : decode cX3_copy 17 = .ok (.iload_n 1, 1) := by decide +kernel
theorem dX3_copy_18 : decode cX3_copy 18 = .ok (.imul, 1) := by decide +kernel
theorem dX3_copy_19 : decode cX3_copy 19 = .ok (.iload_n 2, 1) := by decide +kernel
theorem dX3_copy_20 : decode cX3_copy 20 = .ok (.iadd, 1) := by decide +kernel
theorem dX3_copy_21 : decode cX3_copy 21 = .ok (.iaload, 1) := by decide +kernel
theorem dX3_copy_22 : decode cX3_copy 22 = .ok (.if_icmp .lt 5, 3) := by decide +kernel
theorem dX3_copy_25 : decode cX3_copy 25 = .ok (.iconst 0, 1) := by decide +kernel
theorem dX3_copy_26 : decode cX3_copy 26 = .ok (.ireturn, 1) := by decide +kernel
theorem dX3_copy_27 : decode cX3_copy 27 = .ok (.aload_n 0, 1) := by decide +kernel
theorem dX3_copy_28 : decode cX3_copy 28 = .ok (.getfield 26, 3) := by decide +kernel
theorem dX3_copy_31 : decode cX3_copy 31 = .ok (.bipush 64, 2) := by decide +kernel
theorem dX3_copy_33 : decode cX3_copy 33 = .ok (.iload_n 3, 1) := by decide +kernel
theorem dX3_copy_34 : decode cX3_copy 34 = .ok (.imul, 1) := by decide +kernel
theorem dX3_copy_35 : decode cX3_copy 35 = .ok (.iload_n 2, 1) := by decide +kernel
theorem dX3_copy_36 : decode cX3_copy 36 = .ok (.iadd, 1) := by decide +kernel
theorem dX3_copy_37 : decode cX3_copy 37 = .ok (.aload_n 0, 1) := by decide +kernel
theorem dX3_copy_38 : decode cX3_copy 38 = .ok (.getfield 26, 3) := by decide +kernel
theorem dX3_copy_41 : decode cX3_copy 41 = .ok (.bipush 64, 2) := by decide +kernel
theorem dX3_copy_43 : decode cX3_copy 43 = .ok (.iload_n 1, 1) := by decide +kernel
theorem dX3_copy_44 : decode cX3_copy 44 = .ok (.imul, 1) := by decide +kernel
theorem dX3_copy_45 : decode cX3_copy 45 = .ok (.iload_n 2, 1) := by decide +kernel
theorem dX3_copy_46 : decode cX3_copy 46 = .ok (.iadd, 1) := by decide +kernel
theorem dX3_copy_47 : decode cX3_copy 47 = .ok (.iaload, 1) := by decide +kernel
theorem dX3_copy_48 : decode cX3_copy 48 = .ok (.iastore, 1) := by decide +kernel
theorem dX3_copy_49 : decode cX3_copy 49 = .ok (.aload_n 0, 1) := by decide +kernel
theorem dX3_copy_50 : decode cX3_copy 50 = .ok (.getfield 23, 3) := by decide +kernel
theorem dX3_copy_53 : decode cX3_copy 53 = .ok (.bipush 64, 2) := by decide +kernel
theorem dX3_copy_55 : decode cX3_copy 55 = .ok (.iload_n 3, 1) := by decide +kernel
theorem dX3_copy_56 : decode cX3_copy 56 = .ok (.imul, 1) := by decide +kernel
theorem dX3_copy_57 : decode cX3_copy 57 = .ok (.iload_n 2, 1) := by decide +kernel
theorem dX3_copy_58 : decode cX3_copy 58 = .ok (.iadd, 1) := by decide +kernel
theorem dX3_copy_59 : decode cX3_copy 59 = .ok (.aload_n 0, 1) := by decide +kernel
theorem dX3_copy_60 : decode cX3_copy 60 = .ok (.getfield 23, 3) := by decide +kernel
theorem dX3_copy_63 : decode cX3_copy 63 = .ok (.bipush 64, 2) := by decide +kernel
theorem dX3_copy_65 : decode cX3_copy 65 = .ok (.iload_n 1, 1) := by decide +kernel
theorem dX3_copy_66 : decode cX3_copy 66 = .ok (.imul, 1) := by decide +kernel
theorem dX3_copy_67 : decode cX3_copy 67 = .ok (.iload_n 2, 1) := by decide +kernel
theorem dX3_copy_68 : decode cX3_copy 68 = .ok (.iadd, 1) := by decide +kernel
theorem dX3_copy_69 : decode cX3_copy 69 = .ok (.iaload, 1) := by decide +kernel
theorem dX3_copy_70 : decode cX3_copy 70 = .ok (.iastore, 1) := by decide +kernel
theorem dX3_copy_71 : decode cX3_copy 71 = .ok (.iconst 1, 1) := by decide +kernel
theorem dX3_copy_72 : decode cX3_copy 72 = .ok (.ireturn, 1) := by decide +kernel
set_option maxRecDepth 20000 in
theorem ggX3_leave_X3_refuses : GoodIn wsX3_leave wsX3_refuses := goodIn_r _ [8, 3, 9, 10, 7, 11, 31, 32, 33, 34, 35, 36, 37, 38, 39, 40, 41, 42, 43] (by decide +kernel) (by decide +kernel)
set_option maxRecDepth 20000 in
theorem gX3_leave_X3_refuses : GoodIn wsX3_leave (wsV RX3 85 RX3 yX3_refuses wsX3_refuses) := goodIn_app (goodIn_of _ (by decide +kernel)) ggX3_leave_X3_refuses
set_option maxRecDepth 20000 in
theorem ggX3_leave_X3_liveSuccessorOf : GoodIn wsX3_leave wsX3_liveSuccessorOf := goodIn_r _ [15, 3, 16, 31, 32, 33, 34, 35, 36, 37, 38, 39, 40, 41, 42, 43] (by decide +kernel) (by decide +kernel)
set_option maxRecDepth 20000 in
theorem gX3_leave_X3_liveSuccessorOf : GoodIn wsX3_leave (wsV RX3 56 RX3 yX3_liveSuccessorOf wsX3_liveSuccessorOf) := goodIn_app (goodIn_of _ (by decide +kernel)) ggX3_leave_X3_liveSuccessorOf
set_option maxRecDepth 20000 in
theorem ggX3_leave_X3_copy : GoodIn wsX3_leave wsX3_copy := goodIn_r _ [20, 21, 22, 31, 32, 33, 34, 35, 36, 37, 38, 39, 40, 41, 42, 43] (by decide +kernel) (by decide +kernel)
set_option maxRecDepth 20000 in
theorem gX3_leave_X3_copy : GoodIn wsX3_leave (wsV RX3 88 RX3 yX3_copy wsX3_copy) := goodIn_app (goodIn_of _ (by decide +kernel)) ggX3_leave_X3_copy
set_option maxRecDepth 20000 in
theorem ggX3_leave_X3_follows : GoodIn wsX3_leave wsX3_follows := goodIn_r _ [26, 16, 31, 32, 33, 34, 35, 36, 37, 38, 39, 40, 41, 42, 43] (by decide +kernel) (by decide +kernel)
set_option maxRecDepth 20000 in
theorem gX3_leave_X3_follows : GoodIn wsX3_leave (wsV RX3 91 RX3 yX3_follows wsX3_follows) := goodIn_app (goodIn_of _ (by decide +kernel)) ggX3_leave_X3_follows
set_option maxRecDepth 20000 in
theorem ggX3_leave_X3_countLiving : GoodIn wsX3_leave wsX3_countLiving := goodIn_r _ [30, 3, 31, 32, 33, 34, 35, 36, 37, 38, 39, 40, 41, 42, 43] (by decide +kernel) (by decide +kernel)
set_option maxRecDepth 20000 in
theorem gX3_leave_X3_countLiving : GoodIn wsX3_leave (wsV RX3 74 RX3 yX3_countLiving wsX3_countLiving) := goodIn_app (goodIn_of _ (by decide +kernel)) ggX3_leave_X3_countLiving
theorem dX3_leave_0 : decode cX3_leave 0 = .ok (.aload_n 0, 1) := by decide +kernel
theorem dX3_leave_1 : decode cX3_leave 1 = .ok (.aload_n 0, 1) := by decide +kernel
theorem dX3_leave_2 : decode cX3_leave 2 = .ok (.iload_n 1, 1) := by decide +kernel
theorem dX3_leave_3 : decode cX3_leave 3 = .ok (.invokevirtual 85, 3) := by decide +kernel
theorem dX3_leave_6 : decode cX3_leave 6 = .ok (.putfield 41, 3) := by decide +kernel
theorem dX3_leave_9 : decode cX3_leave 9 = .ok (.aload_n 0, 1) := by decide +kernel
theorem dX3_leave_10 : decode cX3_leave 10 = .ok (.getfield 41, 3) := by decide +kernel
theorem dX3_leave_13 : decode cX3_leave 13 = .ok (.ifCond .le 5, 3) := by decide +kernel
theorem dX3_leave_16 : decode cX3_leave 16 = .ok (.iconst 0, 1) := by decide +kernel
theorem dX3_leave_17 : decode cX3_leave 17 = .ok (.ireturn, 1) := by decide +kernel
theorem dX3_leave_18 : decode cX3_leave 18 = .ok (.aload_n 0, 1) := by decide +kernel
theorem dX3_leave_19 : decode cX3_leave 19 = .ok (.iload_n 1, 1) := by decide +kernel
theorem dX3_leave_20 : decode cX3_leave 20 = .ok (.invokevirtual 56, 3) := by decide +kernel
theorem dX3_leave_23 : decode cX3_leave 23 = .ok (.istore_n 2, 1) := by decide +kernel
theorem dX3_leave_24 : decode cX3_leave 24 = .ok (.iload_n 2, 1) := by decide +kernel
theorem dX3_leave_25 : decode cX3_leave 25 = .ok (.iload_n 1, 1) := by decide +kernel
theorem dX3_leave_26 : decode cX3_leave 26 = .ok (.if_icmp .eq 65, 3) := by decide +kernel
theorem dX3_leave_29 : decode cX3_leave 29 = .ok (.iconst 0, 1) := by decide +kernel
theorem dX3_leave_30 : decode cX3_leave 30 = .ok (.istore_n 3, 1) := by decide +kernel
theorem dX3_leave_31 : decode cX3_leave 31 = .ok (.iload_n 3, 1) := by decide +kernel
theorem dX3_leave_32 : decode cX3_leave 32 = .ok (.bipush 64, 2) := by decide +kernel
theorem dX3_leave_34 : decode cX3_leave 34 = .ok (.if_icmp .ge 18, 3) := by decide +kernel
theorem dX3_leave_37 : decode cX3_leave 37 = .ok (.aload_n 0, 1) := by decide +kernel
theorem dX3_leave_38 : decode cX3_leave 38 = .ok (.iload_n 1, 1) := by decide +kernel
theorem dX3_leave_39 : decode cX3_leave 39 = .ok (.iload_n 3, 1) := by decide +kernel
theorem dX3_leave_40 : decode cX3_leave 40 = .ok (.iload_n 2, 1) := by decide +kernel
theorem dX3_leave_41 : decode cX3_leave 41 = .ok (.invokevirtual 88, 3) := by decide +kernel
theorem dX3_leave_44 : decode cX3_leave 44 = .ok (.istore 4, 2) := by decide +kernel
theorem dX3_leave_46 : decode cX3_leave 46 = .ok (.iinc 3 1, 3) := by decide +kernel
theorem dX3_leave_49 : decode cX3_leave 49 = .ok (.goto (-18), 3) := by decide +kernel
theorem dX3_leave_52 : decode cX3_leave 52 = .ok (.aload_n 0, 1) := by decide +kernel
theorem dX3_leave_53 : decode cX3_leave 53 = .ok (.getfield 17, 3) := by decide +kernel
theorem dX3_leave_56 : decode cX3_leave 56 = .ok (.iload_n 1, 1) := by decide +kernel
theorem dX3_leave_57 : decode cX3_leave 57 = .ok (.iaload, 1) := by decide +kernel
theorem dX3_leave_58 : decode cX3_leave 58 = .ok (.istore_n 3, 1) := by decide +kernel
theorem dX3_leave_59 : decode cX3_leave 59 = .ok (.aload_n 0, 1) := by decide +kernel
theorem dX3_leave_60 : decode cX3_leave 60 = .ok (.getfield 17, 3) := by decide +kernel
theorem dX3_leave_63 : decode cX3_leave 63 = .ok (.iload_n 2, 1) := by decide +kernel
theorem dX3_leave_64 : decode cX3_leave 64 = .ok (.iload_n 3, 1) := by decide +kernel
theorem dX3_leave_65 : decode cX3_leave 65 = .ok (.iastore, 1) := by decide +kernel
theorem dX3_leave_66 : decode cX3_leave 66 = .ok (.iload_n 3, 1) := by decide +kernel
theorem dX3_leave_67 : decode cX3_leave 67 = .ok (.iconst (-1), 1) := by decide +kernel
theorem dX3_leave_68 : decode cX3_leave 68 = .ok (.if_icmp .eq 23, 3) := by decide +kernel
theorem dX3_leave_71 : decode cX3_leave 71 = .ok (.aload_n 0, 1) := by decide +kernel
theorem dX3_leave_72 : decode cX3_leave 72 = .ok (.getfield 7, 3) := by decide +kernel
theorem dX3_leave_75 : decode cX3_leave 75 = .ok (.iload_n 3, 1) := by decide +kernel
theorem dX3_leave_76 : decode cX3_leave 76 = .ok (.baload, 1) := by decide +kernel
theorem dX3_leave_77 : decode cX3_leave 77 = .ok (.ifCond .eq 14, 3) := by decide +kernel
theorem dX3_leave_80 : decode cX3_leave 80 = .ok (.iload_n 3, 1) := by decide +kernel
theorem dX3_leave_81 : decode cX3_leave 81 = .ok (.iload_n 1, 1) := by decide +kernel
theorem dX3_leave_82 : decode cX3_leave 82 = .ok (.if_icmp .eq 9, 3) := by decide +kernel
theorem dX3_leave_85 : decode cX3_leave 85 = .ok (.aload_n 0, 1) := by decide +kernel
theorem dX3_leave_86 : decode cX3_leave 86 = .ok (.iload_n 3, 1) := by decide +kernel
theorem dX3_leave_87 : decode cX3_leave 87 = .ok (.iload_n 2, 1) := by decide +kernel
theorem dX3_leave_88 : decode cX3_leave 88 = .ok (.invokevirtual 91, 3) := by decide +kernel
theorem dX3_leave_91 : decode cX3_leave 91 = .ok (.aload_n 0, 1) := by decide +kernel
theorem dX3_leave_92 : decode cX3_leave 92 = .ok (.getfield 7, 3) := by decide +kernel
theorem dX3_leave_95 : decode cX3_leave 95 = .ok (.iload_n 1, 1) := by decide +kernel
theorem dX3_leave_96 : decode cX3_leave 96 = .ok (.iconst 0, 1) := by decide +kernel
theorem dX3_leave_97 : decode cX3_leave 97 = .ok (.bastore, 1) := by decide +kernel
theorem dX3_leave_98 : decode cX3_leave 98 = .ok (.aload_n 0, 1) := by decide +kernel
theorem dX3_leave_99 : decode cX3_leave 99 = .ok (.invokevirtual 74, 3) := by decide +kernel
theorem dX3_leave_102 : decode cX3_leave 102 = .ok (.ireturn, 1) := by decide +kernel
set_option maxRecDepth 20000 in
theorem ggX3_living_X3_countLiving : GoodIn wsX3_living wsX3_countLiving := goodIn_r _ [6, 7, 8, 9, 10, 11, 12, 13, 14, 15, 16, 17, 18, 19, 20] (by decide +kernel) (by decide +kernel)
set_option maxRecDepth 20000 in
theorem gX3_living_X3_countLiving : GoodIn wsX3_living (wsV RX3 74 RX3 yX3_countLiving wsX3_countLiving) := goodIn_app (goodIn_of _ (by decide +kernel)) ggX3_living_X3_countLiving
theorem dX3_living_0 : decode cX3_living 0 = .ok (.aload_n 0, 1) := by decide +kernel
theorem dX3_living_1 : decode cX3_living 1 = .ok (.iconst 0, 1) := by decide +kernel
theorem dX3_living_2 : decode cX3_living 2 = .ok (.putfield 41, 3) := by decide +kernel
theorem dX3_living_5 : decode cX3_living 5 = .ok (.aload_n 0, 1) := by decide +kernel
theorem dX3_living_6 : decode cX3_living 6 = .ok (.invokevirtual 74, 3) := by decide +kernel
theorem dX3_living_9 : decode cX3_living 9 = .ok (.ireturn, 1) := by decide +kernel
set_option maxRecDepth 20000 in
theorem ggX3_isLiving_X3_isId : GoodIn wsX3_isLiving wsX3_isId := goodIn_r _ [6] (by decide +kernel) (by decide +kernel)
set_option maxRecDepth 20000 in
theorem gX3_isLiving_X3_isId : GoodIn wsX3_isLiving (va_wsS RX3 67 yX3_isId wsX3_isId) := goodIn_app (goodIn_of _ (by decide +kernel)) ggX3_isLiving_X3_isId
theorem dX3_isLiving_0 : decode cX3_isLiving 0 = .ok (.aload_n 0, 1) := by decide +kernel
theorem dX3_isLiving_1 : decode cX3_isLiving 1 = .ok (.iload_n 1, 1) := by decide +kernel
theorem dX3_isLiving_2 : decode cX3_isLiving 2 = .ok (.invokestatic 67, 3) := by decide +kernel
theorem dX3_isLiving_5 : decode cX3_isLiving 5 = .ok (.ifCond .eq 7, 3) := by decide +kernel
theorem dX3_isLiving_8 : decode cX3_isLiving 8 = .ok (.iconst 0, 1) := by decide +kernel
theorem dX3_isLiving_9 : decode cX3_isLiving 9 = .ok (.goto 4, 3) := by decide +kernel
theorem dX3_isLiving_12 : decode cX3_isLiving 12 = .ok (.iconst 1, 1) := by decide +kernel
theorem dX3_isLiving_13 : decode cX3_isLiving 13 = .ok (.putfield 41, 3) := by decide +kernel
theorem dX3_isLiving_16 : decode cX3_isLiving 16 = .ok (.aload_n 0, 1) := by decide +kernel
theorem dX3_isLiving_17 : decode cX3_isLiving 17 = .ok (.getfield 41, 3) := by decide +kernel
theorem dX3_isLiving_20 : decode cX3_isLiving 20 = .ok (.ifCond .ne 16, 3) := by decide +kernel
theorem dX3_isLiving_23 : decode cX3_isLiving 23 = .ok (.aload_n 0, 1) := by decide +kernel
theorem dX3_isLiving_24 : decode cX3_isLiving 24 = .ok (.getfield 7, 3) := by decide +kernel
theorem dX3_isLiving_27 : decode cX3_isLiving 27 = .ok (.iload_n 1, 1) := by decide +kernel
theorem dX3_isLiving_28 : decode cX3_isLiving 28 = .ok (.baload, 1) := by decide +kernel
theorem dX3_isLiving_29 : decode cX3_isLiving 29 = .ok (.ifCond .eq 7, 3) := by decide +kernel
theorem dX3_isLiving_32 : decode cX3_isLiving 32 = .ok (.iconst 1, 1) := by decide +kernel
theorem dX3_isLiving_33 : decode cX3_isLiving 33 = .ok (.goto 4, 3) := by decide +kernel
theorem dX3_isLiving_36 : decode cX3_isLiving 36 = .ok (.iconst 0, 1) := by decide +kernel
theorem dX3_isLiving_37 : decode cX3_isLiving 37 = .ok (.ireturn, 1) := by decide +kernel
set_option maxRecDepth 20000 in
theorem ggX3_successor_X3_isId : GoodIn wsX3_successor wsX3_isId := goodIn_r _ [6] (by decide +kernel) (by decide +kernel)
set_option maxRecDepth 20000 in
theorem gX3_successor_X3_isId : GoodIn wsX3_successor (va_wsS RX3 67 yX3_isId wsX3_isId) := goodIn_app (goodIn_of _ (by decide +kernel)) ggX3_successor_X3_isId
set_option maxRecDepth 20000 in
theorem ggX3_successor_X3_refuses : GoodIn wsX3_successor wsX3_refuses := goodIn_r _ [10, 11, 3, 4, 5, 6, 12, 13, 14, 15, 16, 17, 18, 19, 20, 21, 22, 23, 24] (by decide +kernel) (by decide +kernel)
set_option maxRecDepth 20000 in
theorem gX3_successor_X3_refuses : GoodIn wsX3_successor (wsV RX3 85 RX3 yX3_refuses wsX3_refuses) := goodIn_app (goodIn_of _ (by decide +kernel)) ggX3_successor_X3_refuses
theorem dX3_successor_0 : decode cX3_successor 0 = .ok (.aload_n 0, 1) := by decide +kernel
theorem dX3_successor_1 : decode cX3_successor 1 = .ok (.iload_n 1, 1) := by decide +kernel
theorem dX3_successor_2 : decode cX3_successor 2 = .ok (.invokestatic 67, 3) := by decide +kernel
theorem dX3_successor_5 : decode cX3_successor 5 = .ok (.ifCond .eq 20, 3) := by decide +kernel
theorem dX3_successor_8 : decode cX3_successor 8 = .ok (.iload_n 2, 1) := by decide +kernel
theorem dX3_successor_9 : decode cX3_successor 9 = .ok (.ifCond .lt 16, 3) := by decide +kernel
theorem dX3_successor_12 : decode cX3_successor 12 = .ok (.iload_n 2, 1) := by decide +kernel
theorem dX3_successor_13 : decode cX3_successor 13 = .ok (.iconst 3, 1) := by decide +kernel
theorem dX3_successor_14 : decode cX3_successor 14 = .ok (.if_icmp .ge 11, 3) := by decide +kernel
theorem dX3_successor_17 : decode cX3_successor 17 = .ok (.aload_n 0, 1) := by decide +kernel
theorem dX3_successor_18 : decode cX3_successor 18 = .ok (.iload_n 1, 1) := by decide +kernel
theorem dX3_successor_19 : decode cX3_successor 19 = .ok (.invokevirtual 85, 3) := by decide +kernel
theorem dX3_successor_22 : decode cX3_successor 22 = .ok (.goto 4, 3) := by decide +kernel
theorem dX3_successor_25 : decode cX3_successor 25 = .ok (.iconst 1, 1) := by decide +kernel
theorem dX3_successor_26 : decode cX3_successor 26 = .ok (.putfield 41, 3) := by decide +kernel
theorem dX3_successor_29 : decode cX3_successor 29 = .ok (.aload_n 0, 1) := by decide +kernel
theorem dX3_successor_30 : decode cX3_successor 30 = .ok (.getfield 41, 3) := by decide +kernel
theorem dX3_successor_33 : decode cX3_successor 33 = .ok (.ifCond .ne 16, 3) := by decide +kernel
theorem dX3_successor_36 : decode cX3_successor 36 = .ok (.aload_n 0, 1) := by decide +kernel
theorem dX3_successor_37 : decode cX3_successor 37 = .ok (.getfield 13, 3) := by decide +kernel
theorem dX3_successor_40 : decode cX3_successor 40 = .ok (.iconst 3, 1) := by decide +kernel
theorem dX3_successor_41 : decode cX3_successor 41 = .ok (.iload_n 1, 1) := by decide +kernel
theorem dX3_successor_42 : decode cX3_successor 42 = .ok (.imul, 1) := by decide +kernel
theorem dX3_successor_43 : decode cX3_successor 43 = .ok (.iload_n 2, 1) := by decide +kernel
theorem dX3_successor_44 : decode cX3_successor 44 = .ok (.iadd, 1) := by decide +kernel
theorem dX3_successor_45 : decode cX3_successor 45 = .ok (.iaload, 1) := by decide +kernel
theorem dX3_successor_46 : decode cX3_successor 46 = .ok (.goto 4, 3) := by decide +kernel
theorem dX3_successor_49 : decode cX3_successor 49 = .ok (.iconst 0, 1) := by decide +kernel
theorem dX3_successor_50 : decode cX3_successor 50 = .ok (.ireturn, 1) := by decide +kernel
set_option maxRecDepth 20000 in
theorem ggX3_liveSuccessor_X3_refuses : GoodIn wsX3_liveSuccessor wsX3_refuses := goodIn_r _ [6, 7, 8, 9, 5, 10, 16, 17, 18, 19, 20, 21, 22, 23, 24, 25, 26, 27, 28] (by decide +kernel) (by decide +kernel)
set_option maxRecDepth 20000 in
theorem gX3_liveSuccessor_X3_refuses : GoodIn wsX3_liveSuccessor (wsV RX3 85 RX3 yX3_refuses wsX3_refuses) := goodIn_app (goodIn_of _ (by decide +kernel)) ggX3_liveSuccessor_X3_refuses
set_option maxRecDepth 20000 in
theorem ggX3_liveSuccessor_X3_liveSuccessorOf : GoodIn wsX3_liveSuccessor wsX3_liveSuccessorOf := goodIn_r _ [14, 7, 15, 16, 17, 18, 19, 20, 21, 22, 23, 24, 25, 26, 27, 28] (by decide +kernel) (by decide +kernel)
set_option maxRecDepth 20000 in
theorem gX3_liveSuccessor_X3_liveSuccessorOf : GoodIn wsX3_liveSuccessor (wsV RX3 56 RX3 yX3_liveSuccessorOf wsX3_liveSuccessorOf) := goodIn_app (goodIn_of _ (by decide +kernel)) ggX3_liveSuccessor_X3_liveSuccessorOf
theorem dX3_liveSuccessor_0 : decode cX3_liveSuccessor 0 = .ok (.aload_n 0, 1) := by decide +kernel
theorem dX3_liveSuccessor_1 : decode cX3_liveSuccessor 1 = .ok (.aload_n 0, 1) := by decide +kernel
theorem dX3_liveSuccessor_2 : decode cX3_liveSuccessor 2 = .ok (.iload_n 1, 1) := by decide +kernel
theorem dX3_liveSuccessor_3 : decode cX3_liveSuccessor 3 = .ok (.invokevirtual 85, 3) := by decide +kernel
theorem dX3_liveSuccessor_6 : decode cX3_liveSuccessor 6 = .ok (.putfield 41, 3) := by decide +kernel
theorem dX3_liveSuccessor_9 : decode cX3_liveSuccessor 9 = .ok (.aload_n 0, 1) := by decide +kernel
theorem dX3_liveSuccessor_10 : decode cX3_liveSuccessor 10 = .ok (.getfield 41, 3) := by decide +kernel
theorem dX3_liveSuccessor_13 : decode cX3_liveSuccessor 13 = .ok (.ifCond .ne 11, 3) := by decide +kernel
theorem dX3_liveSuccessor_16 : decode cX3_liveSuccessor 16 = .ok (.aload_n 0, 1) := by decide +kernel
theorem dX3_liveSuccessor_17 : decode cX3_liveSuccessor 17 = .ok (.iload_n 1, 1) := by decide +kernel
theorem dX3_liveSuccessor_18 : decode cX3_liveSuccessor 18 = .ok (.invokevirtual 56, 3) := by decide +kernel
theorem dX3_liveSuccessor_21 : decode cX3_liveSuccessor 21 = .ok (.goto 4, 3) := by decide +kernel
theorem dX3_liveSuccessor_24 : decode cX3_liveSuccessor 24 = .ok (.iconst 0, 1) := by decide +kernel
theorem dX3_liveSuccessor_25 : decode cX3_liveSuccessor 25 = .ok (.ireturn, 1) := by decide +kernel
set_option maxRecDepth 20000 in
theorem ggX3_predecessor_X3_refuses : GoodIn wsX3_predecessor wsX3_refuses := goodIn_r _ [7, 8, 9, 10, 6, 11, 12, 13, 14, 15, 16, 17, 18, 19, 20, 21, 22, 23, 24] (by decide +kernel) (by decide +kernel)
set_option maxRecDepth 20000 in
theorem gX3_predecessor_X3_refuses : GoodIn wsX3_predecessor (wsV RX3 85 RX3 yX3_refuses wsX3_refuses) := goodIn_app (goodIn_of _ (by decide +kernel)) ggX3_predecessor_X3_refuses
theorem dX3_predecessor_0 : decode cX3_predecessor 0 = .ok (.aload_n 0, 1) := by decide +kernel
theorem dX3_predecessor_1 : decode cX3_predecessor 1 = .ok (.aload_n 0, 1) := by decide +kernel
theorem dX3_predecessor_2 : decode cX3_predecessor 2 = .ok (.iload_n 1, 1) := by decide +kernel
theorem dX3_predecessor_3 : decode cX3_predecessor 3 = .ok (.invokevirtual 85, 3) := by decide +kernel
theorem dX3_predecessor_6 : decode cX3_predecessor 6 = .ok (.putfield 41, 3) := by decide +kernel
theorem dX3_predecessor_9 : decode cX3_predecessor 9 = .ok (.aload_n 0, 1) := by decide +kernel
theorem dX3_predecessor_10 : decode cX3_predecessor 10 = .ok (.getfield 41, 3) := by decide +kernel
theorem dX3_predecessor_13 : decode cX3_predecessor 13 = .ok (.ifCond .ne 12, 3) := by decide +kernel
theorem dX3_predecessor_16 : decode cX3_predecessor 16 = .ok (.aload_n 0, 1) := by decide +kernel
theorem dX3_predecessor_17 : decode cX3_predecessor 17 = .ok (.getfield 17, 3) := by decide +kernel
theorem dX3_predecessor_20 : decode cX3_predecessor 20 = .ok (.iload_n 1, 1) := by decide +kernel
theorem dX3_predecessor_21 : decode cX3_predecessor 21 = .ok (.iaload, 1) := by decide +kernel
theorem dX3_predecessor_22 : decode cX3_predecessor 22 = .ok (.goto 4, 3) := by decide +kernel
theorem dX3_predecessor_25 : decode cX3_predecessor 25 = .ok (.iconst 0, 1) := by decide +kernel
theorem dX3_predecessor_26 : decode cX3_predecessor 26 = .ok (.ireturn, 1) := by decide +kernel
set_option maxRecDepth 20000 in
theorem ggX3_finger_X3_isId : GoodIn wsX3_finger wsX3_isId := goodIn_r _ [6] (by decide +kernel) (by decide +kernel)
set_option maxRecDepth 20000 in
theorem gX3_finger_X3_isId : GoodIn wsX3_finger (va_wsS RX3 67 yX3_isId wsX3_isId) := goodIn_app (goodIn_of _ (by decide +kernel)) ggX3_finger_X3_isId
set_option maxRecDepth 20000 in
theorem ggX3_finger_X3_refuses : GoodIn wsX3_finger wsX3_refuses := goodIn_r _ [10, 11, 3, 4, 5, 6, 12, 13, 14, 15, 16, 17, 18, 19, 20, 21, 22, 23, 24] (by decide +kernel) (by decide +kernel)
set_option maxRecDepth 20000 in
theorem gX3_finger_X3_refuses : GoodIn wsX3_finger (wsV RX3 85 RX3 yX3_refuses wsX3_refuses) := goodIn_app (goodIn_of _ (by decide +kernel)) ggX3_finger_X3_refuses
theorem dX3_finger_0 : decode cX3_finger 0 = .ok (.aload_n 0, 1) := by decide +kernel
theorem dX3_finger_1 : decode cX3_finger 1 = .ok (.iload_n 1, 1) := by decide +kernel
theorem dX3_finger_2 : decode cX3_finger 2 = .ok (.invokestatic 67, 3) := by decide +kernel
theorem dX3_finger_5 : decode cX3_finger 5 = .ok (.ifCond .eq 21, 3) := by decide +kernel
theorem dX3_finger_8 : decode cX3_finger 8 = .ok (.iload_n 2, 1) := by decide +kernel
theorem dX3_finger_9 : decode cX3_finger 9 = .ok (.ifCond .lt 17, 3) := by decide +kernel
theorem dX3_finger_12 : decode cX3_finger 12 = .ok (.iload_n 2, 1) := by decide +kernel
theorem dX3_finger_13 : decode cX3_finger 13 = .ok (.bipush 6, 2) := by decide +kernel
theorem dX3_finger_15 : decode cX3_finger 15 = .ok (.if_icmp .ge 11, 3) := by decide +kernel
theorem dX3_finger_18 : decode cX3_finger 18 = .ok (.aload_n 0, 1) := by decide +kernel
theorem dX3_finger_19 : decode cX3_finger 19 = .ok (.iload_n 1, 1) := by decide +kernel
theorem dX3_finger_20 : decode cX3_finger 20 = .ok (.invokevirtual 85, 3) := by decide +kernel
theorem dX3_finger_23 : decode cX3_finger 23 = .ok (.goto 4, 3) := by decide +kernel
theorem dX3_finger_26 : decode cX3_finger 26 = .ok (.iconst 1, 1) := by decide +kernel
theorem dX3_finger_27 : decode cX3_finger 27 = .ok (.putfield 41, 3) := by decide +kernel
theorem dX3_finger_30 : decode cX3_finger 30 = .ok (.aload_n 0, 1) := by decide +kernel
theorem dX3_finger_31 : decode cX3_finger 31 = .ok (.getfield 41, 3) := by decide +kernel
theorem dX3_finger_34 : decode cX3_finger 34 = .ok (.ifCond .ne 17, 3) := by decide +kernel
theorem dX3_finger_37 : decode cX3_finger 37 = .ok (.aload_n 0, 1) := by decide +kernel
theorem dX3_finger_38 : decode cX3_finger 38 = .ok (.getfield 20, 3) := by decide +kernel
theorem dX3_finger_41 : decode cX3_finger 41 = .ok (.bipush 6, 2) := by decide +kernel
theorem dX3_finger_43 : decode cX3_finger 43 = .ok (.iload_n 1, 1) := by decide +kernel
theorem dX3_finger_44 : decode cX3_finger 44 = .ok (.imul, 1) := by decide +kernel
theorem dX3_finger_45 : decode cX3_finger 45 = .ok (.iload_n 2, 1) := by decide +kernel
theorem dX3_finger_46 : decode cX3_finger 46 = .ok (.iadd, 1) := by decide +kernel
theorem dX3_finger_47 : decode cX3_finger 47 = .ok (.iaload, 1) := by decide +kernel
theorem dX3_finger_48 : decode cX3_finger 48 = .ok (.goto 4, 3) := by decide +kernel
theorem dX3_finger_51 : decode cX3_finger 51 = .ok (.iconst 0, 1) := by decide +kernel
theorem dX3_finger_52 : decode cX3_finger 52 = .ok (.ireturn, 1) := by decide +kernel
theorem dX3_checks_0 : decode cX3_checks 0 = .ok (.aload_n 0, 1) := by decide +kernel
theorem dX3_checks_1 : decode cX3_checks 1 = .ok (.getfield 17, 3) := by decide +kernel
theorem dX3_checks_4 : decode cX3_checks 4 = .ok (.iload_n 1, 1) := by decide +kernel
theorem dX3_checks_5 : decode cX3_checks 5 = .ok (.aload_n 0, 1) := by decide +kernel
theorem dX3_checks_6 : decode cX3_checks 6 = .ok (.getfield 17, 3) := by decide +kernel
theorem dX3_checks_9 : decode cX3_checks 9 = .ok (.iload_n 1, 1) := by decide +kernel
theorem dX3_checks_10 : decode cX3_checks 10 = .ok (.iaload, 1) := by decide +kernel
theorem dX3_checks_11 : decode cX3_checks 11 = .ok (.iconst (-1), 1) := by decide +kernel
theorem dX3_checks_12 : decode cX3_checks 12 = .ok (.if_icmp .eq 26, 3) := by decide +kernel
theorem dX3_checks_15 : decode cX3_checks 15 = .ok (.aload_n 0, 1) := by decide +kernel
theorem dX3_checks_16 : decode cX3_checks 16 = .ok (.getfield 7, 3) := by decide +kernel
theorem dX3_checks_19 : decode cX3_checks 19 = .ok (.aload_n 0, 1) := by decide +kernel
theorem dX3_checks_20 : decode cX3_checks 20 = .ok (.getfield 17, 3) := by decide +kernel
theorem dX3_checks_23 : decode cX3_checks 23 = .ok (.iload_n 1, 1) := by decide +kernel
theorem dX3_checks_24 : decode cX3_checks 24 = .ok (.iaload, 1) := by decide +kernel
theorem dX3_checks_25 : decode cX3_checks 25 = .ok (.baload, 1) := by decide +kernel
theorem dX3_checks_26 : decode cX3_checks 26 = .ok (.ifCond .eq 12, 3) := by decide +kernel
theorem dX3_checks_29 : decode cX3_checks 29 = .ok (.aload_n 0, 1) := by decide +kernel
theorem dX3_checks_30 : decode cX3_checks 30 = .ok (.getfield 17, 3) := by decide +kernel
theorem dX3_checks_33 : decode cX3_checks 33 = .ok (.iload_n 1, 1) := by decide +kernel
theorem dX3_checks_34 : decode cX3_checks 34 = .ok (.iaload, 1) := by decide +kernel
theorem dX3_checks_35 : decode cX3_checks 35 = .ok (.goto 4, 3) := by decide +kernel
theorem dX3_checks_38 : decode cX3_checks 38 = .ok (.iconst (-1), 1) := by decide +kernel
theorem dX3_checks_39 : decode cX3_checks 39 = .ok (.iastore, 1) := by decide +kernel
theorem dX3_checks_40 : decode cX3_checks 40 = .ok (.return_, 1) := by decide +kernel
set_option maxRecDepth 20000 in
theorem ggX3_stabilizes_X3_liveSuccessorOf : GoodIn wsX3_stabilizes wsX3_liveSuccessorOf := goodIn_r _ [7, 2, 8, 22, 23, 24, 25, 26, 27, 28, 29, 30, 31, 32, 33, 34] (by decide +kernel) (by decide +kernel)
set_option maxRecDepth 20000 in
theorem gX3_stabilizes_X3_liveSuccessorOf : GoodIn wsX3_stabilizes (wsV RX3 56 RX3 yX3_liveSuccessorOf wsX3_liveSuccessorOf) := goodIn_app (goodIn_of _ (by decide +kernel)) ggX3_stabilizes_X3_liveSuccessorOf
set_option maxRecDepth 20000 in
theorem ggX3_stabilizes_X3_isBetween : GoodIn wsX3_stabilizes wsX3_isBetween := goodIn_r _ [11, 12, 13, 6, 14, 15, 16, 17] (by decide +kernel) (by decide +kernel)
set_option maxRecDepth 20000 in
theorem gX3_stabilizes_X3_isBetween : GoodIn wsX3_stabilizes (va_wsS RX3 53 yX3_isBetween wsX3_isBetween) := goodIn_app (goodIn_of _ (by decide +kernel)) ggX3_stabilizes_X3_isBetween
set_option maxRecDepth 20000 in
theorem ggX3_stabilizes_X3_follows : GoodIn wsX3_stabilizes wsX3_follows := goodIn_r _ [21, 8, 22, 23, 24, 25, 26, 27, 28, 29, 30, 31, 32, 33, 34] (by decide +kernel) (by decide +kernel)
set_option maxRecDepth 20000 in
theorem gX3_stabilizes_X3_follows : GoodIn wsX3_stabilizes (wsV RX3 91 RX3 yX3_follows wsX3_follows) := goodIn_app (goodIn_of _ (by decide +kernel)) ggX3_stabilizes_X3_follows
theorem dX3_stabilizes_0 : decode cX3_stabilizes 0 = .ok (.aload_n 0, 1) := by decide +kernel
theorem dX3_stabilizes_1 : decode cX3_stabilizes 1 = .ok (.iload_n 1, 1) := by decide +kernel
theorem dX3_stabilizes_2 : decode cX3_stabilizes 2 = .ok (.invokevirtual 56, 3) := by decide +kernel
theorem dX3_stabilizes_5 : decode cX3_stabilizes 5 = .ok (.istore_n 2, 1) := by decide +kernel
theorem dX3_stabilizes_6 : decode cX3_stabilizes 6 = .ok (.aload_n 0, 1) := by decide +kernel
theorem dX3_stabilizes_7 : decode cX3_stabilizes 7 = .ok (.getfield 17, 3) := by decide +kernel
theorem dX3_stabilizes_10 : decode cX3_stabilizes 10 = .ok (.iload_n 2, 1) := by decide +kernel
theorem dX3_stabilizes_11 : decode cX3_stabilizes 11 = .ok (.iaload, 1) := by decide +kernel
theorem dX3_stabilizes_12 : decode cX3_stabilizes 12 = .ok (.istore_n 3, 1) := by decide +kernel
theorem dX3_stabilizes_13 : decode cX3_stabilizes 13 = .ok (.iload_n 3, 1) := by decide +kernel
theorem dX3_stabilizes_14 : decode cX3_stabilizes 14 = .ok (.iconst (-1), 1) := by decide +kernel
theorem dX3_stabilizes_15 : decode cX3_stabilizes 15 = .ok (.if_icmp .eq 25, 3) := by decide +kernel
theorem dX3_stabilizes_18 : decode cX3_stabilizes 18 = .ok (.aload_n 0, 1) := by decide +kernel
theorem dX3_stabilizes_19 : decode cX3_stabilizes 19 = .ok (.getfield 7, 3) := by decide +kernel
theorem dX3_stabilizes_22 : decode cX3_stabilizes 22 = .ok (.iload_n 3, 1) := by decide +kernel
theorem dX3_stabilizes_23 : decode cX3_stabilizes 23 = .ok (.baload, 1) := by decide +kernel
theorem dX3_stabilizes_24 : decode cX3_stabilizes 24 = .ok (.ifCond .eq 16, 3) := by decide +kernel
theorem dX3_stabilizes_27 : decode cX3_stabilizes 27 = .ok (.iload_n 3, 1) := by decide +kernel
theorem dX3_stabilizes_28 : decode cX3_stabilizes 28 = .ok (.iload_n 1, 1) := by decide +kernel
theorem dX3_stabilizes_29 : decode cX3_stabilizes 29 = .ok (.iload_n 2, 1) := by decide +kernel
theorem dX3_stabilizes_30 : decode cX3_stabilizes 30 = .ok (.invokestatic 53, 3) := by decide +kernel
theorem dX3_stabilizes_33 : decode cX3_stabilizes 33 = .ok (.ifCond .eq 7, 3) := by decide +kernel
theorem dX3_stabilizes_36 : decode cX3_stabilizes 36 = .ok (.iload_n 3, 1) := by decide +kernel
theorem dX3_stabilizes_37 : decode cX3_stabilizes 37 = .ok (.goto 4, 3) := by decide +kernel
theorem dX3_stabilizes_40 : decode cX3_stabilizes 40 = .ok (.iload_n 2, 1) := by decide +kernel
theorem dX3_stabilizes_41 : decode cX3_stabilizes 41 = .ok (.istore_n 2, 1) := by decide +kernel
theorem dX3_stabilizes_42 : decode cX3_stabilizes 42 = .ok (.aload_n 0, 1) := by decide +kernel
theorem dX3_stabilizes_43 : decode cX3_stabilizes 43 = .ok (.iload_n 1, 1) := by decide +kernel
theorem dX3_stabilizes_44 : decode cX3_stabilizes 44 = .ok (.iload_n 2, 1) := by decide +kernel
theorem dX3_stabilizes_45 : decode cX3_stabilizes 45 = .ok (.invokevirtual 91, 3) := by decide +kernel
theorem dX3_stabilizes_48 : decode cX3_stabilizes 48 = .ok (.aload_n 0, 1) := by decide +kernel
theorem dX3_stabilizes_49 : decode cX3_stabilizes 49 = .ok (.getfield 17, 3) := by decide +kernel
theorem dX3_stabilizes_52 : decode cX3_stabilizes 52 = .ok (.iload_n 2, 1) := by decide +kernel
theorem dX3_stabilizes_53 : decode cX3_stabilizes 53 = .ok (.iaload, 1) := by decide +kernel
theorem dX3_stabilizes_54 : decode cX3_stabilizes 54 = .ok (.istore 4, 2) := by decide +kernel
theorem dX3_stabilizes_56 : decode cX3_stabilizes 56 = .ok (.aload_n 0, 1) := by decide +kernel
theorem dX3_stabilizes_57 : decode cX3_stabilizes 57 = .ok (.getfield 17, 3) := by decide +kernel
theorem dX3_stabilizes_60 : decode cX3_stabilizes 60 = .ok (.iload_n 2, 1) := by decide +kernel
theorem dX3_stabilizes_61 : decode cX3_stabilizes 61 = .ok (.iload 4, 2) := by decide +kernel
theorem dX3_stabilizes_63 : decode cX3_stabilizes 63 = .ok (.iconst (-1), 1) := by decide +kernel
theorem dX3_stabilizes_64 : decode cX3_stabilizes 64 = .ok (.if_icmp .eq 23, 3) := by decide +kernel
theorem dX3_stabilizes_67 : decode cX3_stabilizes 67 = .ok (.aload_n 0, 1) := by decide +kernel
theorem dX3_stabilizes_68 : decode cX3_stabilizes 68 = .ok (.getfield 7, 3) := by decide +kernel
theorem dX3_stabilizes_71 : decode cX3_stabilizes 71 = .ok (.iload 4, 2) := by decide +kernel
theorem dX3_stabilizes_73 : decode cX3_stabilizes 73 = .ok (.baload, 1) := by decide +kernel
theorem dX3_stabilizes_74 : decode cX3_stabilizes 74 = .ok (.ifCond .eq 13, 3) := by decide +kernel
theorem dX3_stabilizes_77 : decode cX3_stabilizes 77 = .ok (.iload_n 1, 1) := by decide +kernel
theorem dX3_stabilizes_78 : decode cX3_stabilizes 78 = .ok (.iload 4, 2) := by decide +kernel
theorem dX3_stabilizes_80 : decode cX3_stabilizes 80 = .ok (.iload_n 2, 1) := by decide +kernel
theorem dX3_stabilizes_81 : decode cX3_stabilizes 81 = .ok (.invokestatic 53, 3) := by decide +kernel
theorem dX3_stabilizes_84 : decode cX3_stabilizes 84 = .ok (.ifCond .eq 7, 3) := by decide +kernel
theorem dX3_stabilizes_87 : decode cX3_stabilizes 87 = .ok (.iload_n 1, 1) := by decide +kernel
theorem dX3_stabilizes_88 : decode cX3_stabilizes 88 = .ok (.goto 5, 3) := by decide +kernel
theorem dX3_stabilizes_91 : decode cX3_stabilizes 91 = .ok (.iload 4, 2) := by decide +kernel
theorem dX3_stabilizes_93 : decode cX3_stabilizes 93 = .ok (.iastore, 1) := by decide +kernel
theorem dX3_stabilizes_94 : decode cX3_stabilizes 94 = .ok (.return_, 1) := by decide +kernel
set_option maxRecDepth 20000 in
theorem ggX3_fixes_X3_find : GoodIn wsX3_fixes wsX3_find := goodIn_r _ [6, 7, 8, 9, 10, 11, 5, 12, 13, 14, 15, 16, 17, 18, 19, 20, 21, 22, 23, 24, 1, 25, 26, 27, 28, 29, 30, 31, 32, 33, 34, 35, 36, 37, 38, 39, 40] (by decide +kernel) (by decide +kernel)
set_option maxRecDepth 20000 in
theorem gX3_fixes_X3_find : GoodIn wsX3_fixes (wsV RX3 82 RX3 yX3_find wsX3_find) := goodIn_app (goodIn_of _ (by decide +kernel)) ggX3_fixes_X3_find
theorem dX3_fixes_0 : decode cX3_fixes 0 = .ok (.iconst 0, 1) := by decide +kernel
theorem dX3_fixes_1 : decode cX3_fixes 1 = .ok (.istore_n 2, 1) := by decide +kernel
theorem dX3_fixes_2 : decode cX3_fixes 2 = .ok (.iconst 0, 1) := by decide +kernel
theorem dX3_fixes_3 : decode cX3_fixes 3 = .ok (.istore_n 3, 1) := by decide +kernel
theorem dX3_fixes_4 : decode cX3_fixes 4 = .ok (.iload_n 3, 1) := by decide +kernel
theorem dX3_fixes_5 : decode cX3_fixes 5 = .ok (.bipush 6, 2) := by decide +kernel
theorem dX3_fixes_7 : decode cX3_fixes 7 = .ok (.if_icmp .ge 61, 3) := by decide +kernel
theorem dX3_fixes_10 : decode cX3_fixes 10 = .ok (.aload_n 0, 1) := by decide +kernel
theorem dX3_fixes_11 : decode cX3_fixes 11 = .ok (.iload_n 1, 1) := by decide +kernel
theorem dX3_fixes_12 : decode cX3_fixes 12 = .ok (.iload_n 1, 1) := by decide +kernel
theorem dX3_fixes_13 : decode cX3_fixes 13 = .ok (.iconst 1, 1) := by decide +kernel
theorem dX3_fixes_14 : decode cX3_fixes 14 = .ok (.iload_n 3, 1) := by decide +kernel
theorem dX3_fixes_15 : decode cX3_fixes 15 = .ok (.ishl, 1) := by decide +kernel
theorem dX3_fixes_16 : decode cX3_fixes 16 = .ok (.iadd, 1) := by decide +kernel
theorem dX3_fixes_17 : decode cX3_fixes 17 = .ok (.bipush 64, 2) := by decide +kernel
theorem dX3_fixes_19 : decode cX3_fixes 19 = .ok (.irem, 1) := by decide +kernel
theorem dX3_fixes_20 : decode cX3_fixes 20 = .ok (.invokevirtual 82, 3) := by decide +kernel
theorem dX3_fixes_23 : decode cX3_fixes 23 = .ok (.istore 4, 2) := by decide +kernel
theorem dX3_fixes_25 : decode cX3_fixes 25 = .ok (.iload_n 2, 1) := by decide +kernel
theorem dX3_fixes_26 : decode cX3_fixes 26 = .ok (.aload_n 0, 1) := by decide +kernel
theorem dX3_fixes_27 : decode cX3_fixes 27 = .ok (.getfield 20, 3) := by decide +kernel
theorem dX3_fixes_30 : decode cX3_fixes 30 = .ok (.bipush 6, 2) := by decide +kernel
theorem dX3_fixes_32 : decode cX3_fixes 32 = .ok (.iload_n 1, 1) := by decide +kernel
theorem dX3_fixes_33 : decode cX3_fixes 33 = .ok (.imul, 1) := by decide +kernel
theorem dX3_fixes_34 : decode cX3_fixes 34 = .ok (.iload_n 3, 1) := by decide +kernel
theorem dX3_fixes_35 : decode cX3_fixes 35 = .ok (.iadd, 1) := by decide +kernel
theorem dX3_fixes_36 : decode cX3_fixes 36 = .ok (.iaload, 1) := by decide +kernel
theorem dX3_fixes_37 : decode cX3_fixes 37 = .ok (.iload 4, 2) := by decide +kernel
theorem dX3_fixes_39 : decode cX3_fixes 39 = .ok (.if_icmp .eq 7, 3) := by decide +kernel
theorem dX3_fixes_42 : decode cX3_fixes 42 = .ok (.iconst 1, 1) := by decide +kernel
theorem dX3_fixes_43 : decode cX3_fixes 43 = .ok (.goto 4, 3) := by decide +kernel
theorem dX3_fixes_46 : decode cX3_fixes 46 = .ok (.iconst 0, 1) := by decide +kernel
theorem dX3_fixes_47 : decode cX3_fixes 47 = .ok (.iadd, 1) := by decide +kernel
theorem dX3_fixes_48 : decode cX3_fixes 48 = .ok (.istore_n 2, 1) := by decide +kernel
theorem dX3_fixes_49 : decode cX3_fixes 49 = .ok (.aload_n 0, 1) := by decide +kernel
theorem dX3_fixes_50 : decode cX3_fixes 50 = .ok (.getfield 20, 3) := by decide +kernel
theorem dX3_fixes_53 : decode cX3_fixes 53 = .ok (.bipush 6, 2) := by decide +kernel
theorem dX3_fixes_55 : decode cX3_fixes 55 = .ok (.iload_n 1, 1) := by decide +kernel
theorem dX3_fixes_56 : decode cX3_fixes 56 = .ok (.imul, 1) := by decide +kernel
theorem dX3_fixes_57 : decode cX3_fixes 57 = .ok (.iload_n 3, 1) := by decide +kernel
theorem dX3_fixes_58 : decode cX3_fixes 58 = .ok (.iadd, 1) := by decide +kernel
theorem dX3_fixes_59 : decode cX3_fixes 59 = .ok (.iload 4, 2) := by decide +kernel
theorem dX3_fixes_61 : decode cX3_fixes 61 = .ok (.iastore, 1) := by decide +kernel
theorem dX3_fixes_62 : decode cX3_fixes 62 = .ok (.iinc 3 1, 3) := by decide +kernel
theorem dX3_fixes_65 : decode cX3_fixes 65 = .ok (.goto (-61), 3) := by decide +kernel
theorem dX3_fixes_68 : decode cX3_fixes 68 = .ok (.iload_n 2, 1) := by decide +kernel
theorem dX3_fixes_69 : decode cX3_fixes 69 = .ok (.ireturn, 1) := by decide +kernel
set_option maxRecDepth 20000 in
theorem ggX3_spreads_X3_copy : GoodIn wsX3_spreads wsX3_copy := goodIn_r _ [7, 8, 9, 10, 11, 12, 13, 14, 15, 16, 17, 18, 19, 20, 21, 22] (by decide +kernel) (by decide +kernel)
set_option maxRecDepth 20000 in
theorem gX3_spreads_X3_copy : GoodIn wsX3_spreads (wsV RX3 88 RX3 yX3_copy wsX3_copy) := goodIn_app (goodIn_of _ (by decide +kernel)) ggX3_spreads_X3_copy
theorem dX3_spreads_0 : decode cX3_spreads 0 = .ok (.iconst (-1), 1) := by decide +kernel
theorem dX3_spreads_1 : decode cX3_spreads 1 = .ok (.istore_n 3, 1) := by decide +kernel
theorem dX3_spreads_2 : decode cX3_spreads 2 = .ok (.iconst 0, 1) := by decide +kernel
theorem dX3_spreads_3 : decode cX3_spreads 3 = .ok (.istore 4, 2) := by decide +kernel
theorem dX3_spreads_5 : decode cX3_spreads 5 = .ok (.iconst 0, 1) := by decide +kernel
theorem dX3_spreads_6 : decode cX3_spreads 6 = .ok (.istore 5, 2) := by decide +kernel
theorem dX3_spreads_8 : decode cX3_spreads 8 = .ok (.iconst 0, 1) := by decide +kernel
theorem dX3_spreads_9 : decode cX3_spreads 9 = .ok (.istore 6, 2) := by decide +kernel
theorem dX3_spreads_11 : decode cX3_spreads 11 = .ok (.iload 6, 2) := by decide +kernel
theorem dX3_spreads_13 : decode cX3_spreads 13 = .ok (.iconst 3, 1) := by decide +kernel
theorem dX3_spreads_14 : decode cX3_spreads 14 = .ok (.if_icmp .ge 69, 3) := by decide +kernel
theorem dX3_spreads_17 : decode cX3_spreads 17 = .ok (.aload_n 0, 1) := by decide +kernel
theorem dX3_spreads_18 : decode cX3_spreads 18 = .ok (.getfield 13, 3) := by decide +kernel
theorem dX3_spreads_21 : decode cX3_spreads 21 = .ok (.iconst 3, 1) := by decide +kernel
theorem dX3_spreads_22 : decode cX3_spreads 22 = .ok (.iload_n 1, 1) := by decide +kernel
theorem dX3_spreads_23 : decode cX3_spreads 23 = .ok (.imul, 1) := by decide +kernel
theorem dX3_spreads_24 : decode cX3_spreads 24 = .ok (.iload 6, 2) := by decide +kernel
theorem dX3_spreads_26 : decode cX3_spreads 26 = .ok (.iadd, 1) := by decide +kernel
theorem dX3_spreads_27 : decode cX3_spreads 27 = .ok (.iaload, 1) := by decide +kernel
theorem dX3_spreads_28 : decode cX3_spreads 28 = .ok (.istore 7, 2) := by decide +kernel
theorem dX3_spreads_30 : decode cX3_spreads 30 = .ok (.aload_n 0, 1) := by decide +kernel
theorem dX3_spreads_31 : decode cX3_spreads 31 = .ok (.getfield 7, 3) := by decide +kernel
theorem dX3_spreads_34 : decode cX3_spreads 34 = .ok (.iload 7, 2) := by decide +kernel
theorem dX3_spreads_36 : decode cX3_spreads 36 = .ok (.baload, 1) := by decide +kernel
theorem dX3_spreads_37 : decode cX3_spreads 37 = .ok (.ifCond .eq 40, 3) := by decide +kernel
theorem dX3_spreads_40 : decode cX3_spreads 40 = .ok (.iload 7, 2) := by decide +kernel
theorem dX3_spreads_42 : decode cX3_spreads 42 = .ok (.iload_n 1, 1) := by decide +kernel
theorem dX3_spreads_43 : decode cX3_spreads 43 = .ok (.if_icmp .eq 34, 3) := by decide +kernel
theorem dX3_spreads_46 : decode cX3_spreads 46 = .ok (.iload 7, 2) := by decide +kernel
theorem dX3_spreads_48 : decode cX3_spreads 48 = .ok (.iload_n 3, 1) := by decide +kernel
theorem dX3_spreads_49 : decode cX3_spreads 49 = .ok (.if_icmp .eq 28, 3) := by decide +kernel
theorem dX3_spreads_52 : decode cX3_spreads 52 = .ok (.iload 5, 2) := by decide +kernel
theorem dX3_spreads_54 : decode cX3_spreads 54 = .ok (.iconst 2, 1) := by decide +kernel
theorem dX3_spreads_55 : decode cX3_spreads 55 = .ok (.if_icmp .ge 22, 3) := by decide +kernel
theorem dX3_spreads_58 : decode cX3_spreads 58 = .ok (.iload 4, 2) := by decide +kernel
theorem dX3_spreads_60 : decode cX3_spreads 60 = .ok (.aload_n 0, 1) := by decide +kernel
theorem dX3_spreads_61 : decode cX3_spreads 61 = .ok (.iload_n 1, 1) := by decide +kernel
theorem dX3_spreads_62 : decode cX3_spreads 62 = .ok (.iload_n 2, 1) := by decide +kernel
theorem dX3_spreads_63 : decode cX3_spreads 63 = .ok (.iload 7, 2) := by decide +kernel
theorem dX3_spreads_65 : decode cX3_spreads 65 = .ok (.invokevirtual 88, 3) := by decide +kernel
theorem dX3_spreads_68 : decode cX3_spreads 68 = .ok (.iadd, 1) := by decide +kernel
theorem dX3_spreads_69 : decode cX3_spreads 69 = .ok (.istore 4, 2) := by decide +kernel
theorem dX3_spreads_71 : decode cX3_spreads 71 = .ok (.iload 7, 2) := by decide +kernel
theorem dX3_spreads_73 : decode cX3_spreads 73 = .ok (.istore_n 3, 1) := by decide +kernel
theorem dX3_spreads_74 : decode cX3_spreads 74 = .ok (.iinc 5 1, 3) := by decide +kernel
theorem dX3_spreads_77 : decode cX3_spreads 77 = .ok (.iinc 6 1, 3) := by decide +kernel
theorem dX3_spreads_80 : decode cX3_spreads 80 = .ok (.goto (-69), 3) := by decide +kernel
theorem dX3_spreads_83 : decode cX3_spreads 83 = .ok (.iload 4, 2) := by decide +kernel
theorem dX3_spreads_85 : decode cX3_spreads 85 = .ok (.ireturn, 1) := by decide +kernel
set_option maxRecDepth 20000 in
theorem ggX3_replicates_X3_isWithin : GoodIn wsX3_replicates wsX3_isWithin := goodIn_r _ [6, 7, 8, 5, 9] (by decide +kernel) (by decide +kernel)
set_option maxRecDepth 20000 in
theorem gX3_replicates_X3_isWithin : GoodIn wsX3_replicates (va_wsS RX3 49 yX3_isWithin wsX3_isWithin) := goodIn_app (goodIn_of _ (by decide +kernel)) ggX3_replicates_X3_isWithin
set_option maxRecDepth 20000 in
theorem ggX3_replicates_X3_find : GoodIn wsX3_replicates wsX3_find := goodIn_r _ [13, 14, 15, 16, 17, 18, 5, 19, 20, 21, 3, 4, 6, 7, 8, 9, 22, 23, 24, 25, 26, 27, 28, 29, 39, 40, 41, 42, 43, 44, 45, 46, 47, 48, 49, 50, 51] (by decide +kernel) (by decide +kernel)
set_option maxRecDepth 20000 in
theorem gX3_replicates_X3_find : GoodIn wsX3_replicates (wsV RX3 82 RX3 yX3_find wsX3_find) := goodIn_app (goodIn_of _ (by decide +kernel)) ggX3_replicates_X3_find
set_option maxRecDepth 20000 in
theorem ggX3_replicates_X3_spreads : GoodIn wsX3_replicates wsX3_spreads := goodIn_r _ [33, 21, 20, 34, 35, 36, 5, 37, 1, 38, 39, 40, 41, 42, 43, 44, 45, 46, 47, 48, 49, 50, 51] (by decide +kernel) (by decide +kernel)
set_option maxRecDepth 20000 in
theorem gX3_replicates_X3_spreads : GoodIn wsX3_replicates (wsV RX3 95 RX3 yX3_spreads wsX3_spreads) := goodIn_app (goodIn_of _ (by decide +kernel)) ggX3_replicates_X3_spreads
set_option maxRecDepth 20000 in
theorem ggX3_replicates_X3_copy : GoodIn wsX3_replicates wsX3_copy := goodIn_r _ [37, 1, 38, 39, 40, 41, 42, 43, 44, 45, 46, 47, 48, 49, 50, 51] (by decide +kernel) (by decide +kernel)
set_option maxRecDepth 20000 in
theorem gX3_replicates_X3_copy : GoodIn wsX3_replicates (wsV RX3 88 RX3 yX3_copy wsX3_copy) := goodIn_app (goodIn_of _ (by decide +kernel)) ggX3_replicates_X3_copy
theorem dX3_replicates_0 : decode cX3_replicates 0 = .ok (.iconst 0, 1) := by decide +kernel
theorem dX3_replicates_1 : decode cX3_replicates 1 = .ok (.istore_n 2, 1) := by decide +kernel
theorem dX3_replicates_2 : decode cX3_replicates 2 = .ok (.iconst 0, 1) := by decide +kernel
theorem dX3_replicates_3 : decode cX3_replicates 3 = .ok (.istore_n 3, 1) := by decide +kernel
theorem dX3_replicates_4 : decode cX3_replicates 4 = .ok (.iload_n 3, 1) := by decide +kernel
theorem dX3_replicates_5 : decode cX3_replicates 5 = .ok (.bipush 64, 2) := by decide +kernel
theorem dX3_replicates_7 : decode cX3_replicates 7 = .ok (.if_icmp .ge 106, 3) := by decide +kernel
theorem dX3_replicates_10 : decode cX3_replicates 10 = .ok (.aload_n 0, 1) := by decide +kernel
theorem dX3_replicates_11 : decode cX3_replicates 11 = .ok (.getfield 26, 3) := by decide +kernel
theorem dX3_replicates_14 : decode cX3_replicates 14 = .ok (.bipush 64, 2) := by decide +kernel
theorem dX3_replicates_16 : decode cX3_replicates 16 = .ok (.iload_n 1, 1) := by decide +kernel
theorem dX3_replicates_17 : decode cX3_replicates 17 = .ok (.imul, 1) := by decide +kernel
theorem dX3_replicates_18 : decode cX3_replicates 18 = .ok (.iload_n 3, 1) := by decide +kernel
theorem dX3_replicates_19 : decode cX3_replicates 19 = .ok (.iadd, 1) := by decide +kernel
theorem dX3_replicates_20 : decode cX3_replicates 20 = .ok (.iaload, 1) := by decide +kernel
theorem dX3_replicates_21 : decode cX3_replicates 21 = .ok (.ifCond .le 86, 3) := by decide +kernel
theorem dX3_replicates_24 : decode cX3_replicates 24 = .ok (.aload_n 0, 1) := by decide +kernel
theorem dX3_replicates_25 : decode cX3_replicates 25 = .ok (.getfield 17, 3) := by decide +kernel
theorem dX3_replicates_28 : decode cX3_replicates 28 = .ok (.iload_n 1, 1) := by decide +kernel
theorem dX3_replicates_29 : decode cX3_replicates 29 = .ok (.iaload, 1) := by decide +kernel
theorem dX3_replicates_30 : decode cX3_replicates 30 = .ok (.iconst (-1), 1) := by decide +kernel
theorem dX3_replicates_31 : decode cX3_replicates 31 = .ok (.if_icmp .eq 17, 3) := by decide +kernel
theorem dX3_replicates_34 : decode cX3_replicates 34 = .ok (.iload_n 3, 1) := by decide +kernel
theorem dX3_replicates_35 : decode cX3_replicates 35 = .ok (.aload_n 0, 1) := by decide +kernel
theorem dX3_replicates_36 : decode cX3_replicates 36 = .ok (.getfield 17, 3) := by decide +kernel
theorem dX3_replicates_39 : decode cX3_replicates 39 = .ok (.iload_n 1, 1) := by decide +kernel
theorem dX3_replicates_40 : decode cX3_replicates 40 = .ok (.iaload, 1) := by decide +kernel
theorem dX3_replicates_41 : decode cX3_replicates 41 = .ok (.iload_n 1, 1) := by decide +kernel
theorem dX3_replicates_42 : decode cX3_replicates 42 = .ok (.invokestatic 49, 3) := by decide +kernel
theorem dX3_replicates_45 : decode cX3_replicates 45 = .ok (.ifCond .eq 7, 3) := by decide +kernel
theorem dX3_replicates_48 : decode cX3_replicates 48 = .ok (.iconst 1, 1) := by decide +kernel
theorem dX3_replicates_49 : decode cX3_replicates 49 = .ok (.goto 4, 3) := by decide +kernel
theorem dX3_replicates_52 : decode cX3_replicates 52 = .ok (.iconst 0, 1) := by decide +kernel
theorem dX3_replicates_53 : decode cX3_replicates 53 = .ok (.istore 4, 2) := by decide +kernel
theorem dX3_replicates_55 : decode cX3_replicates 55 = .ok (.iload 4, 2) := by decide +kernel
theorem dX3_replicates_57 : decode cX3_replicates 57 = .ok (.ifCond .eq 7, 3) := by decide +kernel
theorem dX3_replicates_60 : decode cX3_replicates 60 = .ok (.iconst (-1), 1) := by decide +kernel
theorem dX3_replicates_61 : decode cX3_replicates 61 = .ok (.goto 9, 3) := by decide +kernel
theorem dX3_replicates_64 : decode cX3_replicates 64 = .ok (.aload_n 0, 1) := by decide +kernel
theorem dX3_replicates_65 : decode cX3_replicates 65 = .ok (.iload_n 1, 1) := by decide +kernel
theorem dX3_replicates_66 : decode cX3_replicates 66 = .ok (.iload_n 3, 1) := by decide +kernel
theorem dX3_replicates_67 : decode cX3_replicates 67 = .ok (.invokevirtual 82, 3) := by decide +kernel
theorem dX3_replicates_70 : decode cX3_replicates 70 = .ok (.istore 5, 2) := by decide +kernel
theorem dX3_replicates_72 : decode cX3_replicates 72 = .ok (.iload_n 2, 1) := by decide +kernel
theorem dX3_replicates_73 : decode cX3_replicates 73 = .ok (.iload 4, 2) := by decide +kernel
theorem dX3_replicates_75 : decode cX3_replicates 75 = .ok (.ifCond .eq 12, 3) := by decide +kernel
theorem dX3_replicates_78 : decode cX3_replicates 78 = .ok (.aload_n 0, 1) := by decide +kernel
theorem dX3_replicates_79 : decode cX3_replicates 79 = .ok (.iload_n 1, 1) := by decide +kernel
theorem dX3_replicates_80 : decode cX3_replicates 80 = .ok (.iload_n 3, 1) := by decide +kernel
theorem dX3_replicates_81 : decode cX3_replicates 81 = .ok (.invokevirtual 95, 3) := by decide +kernel
theorem dX3_replicates_84 : decode cX3_replicates 84 = .ok (.goto 21, 3) := by decide +kernel
theorem dX3_replicates_87 : decode cX3_replicates 87 = .ok (.iload 5, 2) := by decide +kernel
theorem dX3_replicates_89 : decode cX3_replicates 89 = .ok (.iconst (-1), 1) := by decide +kernel
theorem dX3_replicates_90 : decode cX3_replicates 90 = .ok (.if_icmp .ne 7, 3) := by decide +kernel
theorem dX3_replicates_93 : decode cX3_replicates 93 = .ok (.iconst 0, 1) := by decide +kernel
theorem dX3_replicates_94 : decode cX3_replicates 94 = .ok (.goto 11, 3) := by decide +kernel
theorem dX3_replicates_97 : decode cX3_replicates 97 = .ok (.aload_n 0, 1) := by decide +kernel
theorem dX3_replicates_98 : decode cX3_replicates 98 = .ok (.iload_n 1, 1) := by decide +kernel
theorem dX3_replicates_99 : decode cX3_replicates 99 = .ok (.iload_n 3, 1) := by decide +kernel
theorem dX3_replicates_100 : decode cX3_replicates 100 = .ok (.iload 5, 2) := by decide +kernel
theorem dX3_replicates_102 : decode cX3_replicates 102 = .ok (.invokevirtual 88, 3) := by decide +kernel
theorem dX3_replicates_105 : decode cX3_replicates 105 = .ok (.iadd, 1) := by decide +kernel
theorem dX3_replicates_106 : decode cX3_replicates 106 = .ok (.istore_n 2, 1) := by decide +kernel
theorem dX3_replicates_107 : decode cX3_replicates 107 = .ok (.iinc 3 1, 3) := by decide +kernel
theorem dX3_replicates_110 : decode cX3_replicates 110 = .ok (.goto (-106), 3) := by decide +kernel
theorem dX3_replicates_113 : decode cX3_replicates 113 = .ok (.iload_n 2, 1) := by decide +kernel
theorem dX3_replicates_114 : decode cX3_replicates 114 = .ok (.ireturn, 1) := by decide +kernel
set_option maxRecDepth 20000 in
theorem ggX3_check_X3_refuses : GoodIn wsX3_check wsX3_refuses := goodIn_r _ [7, 8, 9, 10, 6, 11, 16, 17, 18, 19, 20, 21, 22, 23, 24, 25, 26, 27, 28] (by decide +kernel) (by decide +kernel)
set_option maxRecDepth 20000 in
theorem gX3_check_X3_refuses : GoodIn wsX3_check (wsV RX3 85 RX3 yX3_refuses wsX3_refuses) := goodIn_app (goodIn_of _ (by decide +kernel)) ggX3_check_X3_refuses
set_option maxRecDepth 20000 in
theorem ggX3_check_X3_checks : GoodIn wsX3_check wsX3_checks := goodIn_r _ [15, 2, 8, 16, 17, 18, 19, 20, 21, 22, 23, 24, 25, 26, 27, 28] (by decide +kernel) (by decide +kernel)
set_option maxRecDepth 20000 in
theorem gX3_check_X3_checks : GoodIn wsX3_check (wsV RX3 98 RX3 yX3_checks wsX3_checks) := goodIn_app (goodIn_of _ (by decide +kernel)) ggX3_check_X3_checks
theorem dX3_check_0 : decode cX3_check 0 = .ok (.aload_n 0, 1) := by decide +kernel
theorem dX3_check_1 : decode cX3_check 1 = .ok (.aload_n 0, 1) := by decide +kernel
theorem dX3_check_2 : decode cX3_check 2 = .ok (.iload_n 1, 1) := by decide +kernel
theorem dX3_check_3 : decode cX3_check 3 = .ok (.invokevirtual 85, 3) := by decide +kernel
theorem dX3_check_6 : decode cX3_check 6 = .ok (.putfield 41, 3) := by decide +kernel
theorem dX3_check_9 : decode cX3_check 9 = .ok (.aload_n 0, 1) := by decide +kernel
theorem dX3_check_10 : decode cX3_check 10 = .ok (.getfield 41, 3) := by decide +kernel
theorem dX3_check_13 : decode cX3_check 13 = .ok (.ifCond .ne 8, 3) := by decide +kernel
theorem dX3_check_16 : decode cX3_check 16 = .ok (.aload_n 0, 1) := by decide +kernel
theorem dX3_check_17 : decode cX3_check 17 = .ok (.iload_n 1, 1) := by decide +kernel
theorem dX3_check_18 : decode cX3_check 18 = .ok (.invokevirtual 98, 3) := by decide +kernel
theorem dX3_check_21 : decode cX3_check 21 = .ok (.aload_n 0, 1) := by decide +kernel
theorem dX3_check_22 : decode cX3_check 22 = .ok (.getfield 41, 3) := by decide +kernel
theorem dX3_check_25 : decode cX3_check 25 = .ok (.ifCond .ne 17, 3) := by decide +kernel
theorem dX3_check_28 : decode cX3_check 28 = .ok (.aload_n 0, 1) := by decide +kernel
theorem dX3_check_29 : decode cX3_check 29 = .ok (.getfield 17, 3) := by decide +kernel
theorem dX3_check_32 : decode cX3_check 32 = .ok (.iload_n 1, 1) := by decide +kernel
theorem dX3_check_33 : decode cX3_check 33 = .ok (.iaload, 1) := by decide +kernel
theorem dX3_check_34 : decode cX3_check 34 = .ok (.iconst (-1), 1) := by decide +kernel
theorem dX3_check_35 : decode cX3_check 35 = .ok (.if_icmp .eq 7, 3) := by decide +kernel
theorem dX3_check_38 : decode cX3_check 38 = .ok (.iconst 1, 1) := by decide +kernel
theorem dX3_check_39 : decode cX3_check 39 = .ok (.goto 4, 3) := by decide +kernel
theorem dX3_check_42 : decode cX3_check 42 = .ok (.iconst 0, 1) := by decide +kernel
theorem dX3_check_43 : decode cX3_check 43 = .ok (.ireturn, 1) := by decide +kernel
set_option maxRecDepth 20000 in
theorem ggX3_stabilize_X3_refuses : GoodIn wsX3_stabilize wsX3_refuses := goodIn_r _ [7, 8, 9, 10, 6, 11, 34, 35, 36, 37, 38, 39, 40, 41, 42, 43, 44, 45, 46] (by decide +kernel) (by decide +kernel)
set_option maxRecDepth 20000 in
theorem gX3_stabilize_X3_refuses : GoodIn wsX3_stabilize (wsV RX3 85 RX3 yX3_refuses wsX3_refuses) := goodIn_app (goodIn_of _ (by decide +kernel)) ggX3_stabilize_X3_refuses
set_option maxRecDepth 20000 in
theorem ggX3_stabilize_X3_stabilizes : GoodIn wsX3_stabilize wsX3_stabilizes := goodIn_r _ [15, 16, 8, 17, 18, 19, 6, 20, 2, 21, 22, 23, 24, 25, 26, 27, 28, 29, 30, 31, 32, 33, 34, 35, 36, 37, 38, 39, 40, 41, 42, 43, 44, 45, 46] (by decide +kernel) (by decide +kernel)
set_option maxRecDepth 20000 in
theorem gX3_stabilize_X3_stabilizes : GoodIn wsX3_stabilize (wsV RX3 102 RX3 yX3_stabilizes wsX3_stabilizes) := goodIn_app (goodIn_of _ (by decide +kernel)) ggX3_stabilize_X3_stabilizes
theorem dX3_stabilize_0 : decode cX3_stabilize 0 = .ok (.aload_n 0, 1) := by decide +kernel
theorem dX3_stabilize_1 : decode cX3_stabilize 1 = .ok (.aload_n 0, 1) := by decide +kernel
theorem dX3_stabilize_2 : decode cX3_stabilize 2 = .ok (.iload_n 1, 1) := by decide +kernel
theorem dX3_stabilize_3 : decode cX3_stabilize 3 = .ok (.invokevirtual 85, 3) := by decide +kernel
theorem dX3_stabilize_6 : decode cX3_stabilize 6 = .ok (.putfield 41, 3) := by decide +kernel
theorem dX3_stabilize_9 : decode cX3_stabilize 9 = .ok (.aload_n 0, 1) := by decide +kernel
theorem dX3_stabilize_10 : decode cX3_stabilize 10 = .ok (.getfield 41, 3) := by decide +kernel
theorem dX3_stabilize_13 : decode cX3_stabilize 13 = .ok (.ifCond .le 5, 3) := by decide +kernel
theorem dX3_stabilize_16 : decode cX3_stabilize 16 = .ok (.iconst 0, 1) := by decide +kernel
theorem dX3_stabilize_17 : decode cX3_stabilize 17 = .ok (.ireturn, 1) := by decide +kernel
theorem dX3_stabilize_18 : decode cX3_stabilize 18 = .ok (.aload_n 0, 1) := by decide +kernel
theorem dX3_stabilize_19 : decode cX3_stabilize 19 = .ok (.iload_n 1, 1) := by decide +kernel
theorem dX3_stabilize_20 : decode cX3_stabilize 20 = .ok (.invokevirtual 102, 3) := by decide +kernel
theorem dX3_stabilize_23 : decode cX3_stabilize 23 = .ok (.aload_n 0, 1) := by decide +kernel
theorem dX3_stabilize_24 : decode cX3_stabilize 24 = .ok (.getfield 13, 3) := by decide +kernel
theorem dX3_stabilize_27 : decode cX3_stabilize 27 = .ok (.iconst 3, 1) := by decide +kernel
theorem dX3_stabilize_28 : decode cX3_stabilize 28 = .ok (.iload_n 1, 1) := by decide +kernel
theorem dX3_stabilize_29 : decode cX3_stabilize 29 = .ok (.imul, 1) := by decide +kernel
theorem dX3_stabilize_30 : decode cX3_stabilize 30 = .ok (.iaload, 1) := by decide +kernel
theorem dX3_stabilize_31 : decode cX3_stabilize 31 = .ok (.ireturn, 1) := by decide +kernel
set_option maxRecDepth 20000 in
theorem ggX3_fix_X3_refuses : GoodIn wsX3_fix wsX3_refuses := goodIn_r _ [6, 7, 8, 9, 5, 10, 40, 41, 42, 43, 44, 45, 46, 47, 48, 49, 50, 51, 52] (by decide +kernel) (by decide +kernel)
set_option maxRecDepth 20000 in
theorem gX3_fix_X3_refuses : GoodIn wsX3_fix (wsV RX3 85 RX3 yX3_refuses wsX3_refuses) := goodIn_app (goodIn_of _ (by decide +kernel)) ggX3_fix_X3_refuses
set_option maxRecDepth 20000 in
theorem ggX3_fix_X3_fixes : GoodIn wsX3_fix wsX3_fixes := goodIn_r _ [14, 15, 16, 17, 18, 5, 19, 20, 21, 22, 23, 24, 25, 7, 26, 27, 28, 29, 30, 31, 32, 33, 34, 35, 36, 37, 38, 39, 40, 41, 42, 43, 44, 45, 46, 47, 48, 49, 50, 51, 52] (by decide +kernel) (by decide +kernel)
set_option maxRecDepth 20000 in
theorem gX3_fix_X3_fixes : GoodIn wsX3_fix (wsV RX3 105 RX3 yX3_fixes wsX3_fixes) := goodIn_app (goodIn_of _ (by decide +kernel)) ggX3_fix_X3_fixes
theorem dX3_fix_0 : decode cX3_fix 0 = .ok (.aload_n 0, 1) := by decide +kernel
theorem dX3_fix_1 : decode cX3_fix 1 = .ok (.aload_n 0, 1) := by decide +kernel
theorem dX3_fix_2 : decode cX3_fix 2 = .ok (.iload_n 1, 1) := by decide +kernel
theorem dX3_fix_3 : decode cX3_fix 3 = .ok (.invokevirtual 85, 3) := by decide +kernel
theorem dX3_fix_6 : decode cX3_fix 6 = .ok (.putfield 41, 3) := by decide +kernel
theorem dX3_fix_9 : decode cX3_fix 9 = .ok (.aload_n 0, 1) := by decide +kernel
theorem dX3_fix_10 : decode cX3_fix 10 = .ok (.getfield 41, 3) := by decide +kernel
theorem dX3_fix_13 : decode cX3_fix 13 = .ok (.ifCond .ne 11, 3) := by decide +kernel
theorem dX3_fix_16 : decode cX3_fix 16 = .ok (.aload_n 0, 1) := by decide +kernel
theorem dX3_fix_17 : decode cX3_fix 17 = .ok (.iload_n 1, 1) := by decide +kernel
theorem dX3_fix_18 : decode cX3_fix 18 = .ok (.invokevirtual 105, 3) := by decide +kernel
theorem dX3_fix_21 : decode cX3_fix 21 = .ok (.goto 4, 3) := by decide +kernel
theorem dX3_fix_24 : decode cX3_fix 24 = .ok (.iconst 0, 1) := by decide +kernel
theorem dX3_fix_25 : decode cX3_fix 25 = .ok (.ireturn, 1) := by decide +kernel
set_option maxRecDepth 20000 in
theorem ggX3_replicate_X3_refuses : GoodIn wsX3_replicate wsX3_refuses := goodIn_r _ [6, 7, 8, 9, 5, 10, 51, 52, 53, 54, 55, 56, 57, 58, 59, 60, 61, 62, 63] (by decide +kernel) (by decide +kernel)
set_option maxRecDepth 20000 in
theorem gX3_replicate_X3_refuses : GoodIn wsX3_replicate (wsV RX3 85 RX3 yX3_refuses wsX3_refuses) := goodIn_app (goodIn_of _ (by decide +kernel)) ggX3_replicate_X3_refuses
set_option maxRecDepth 20000 in
theorem ggX3_replicate_X3_replicates : GoodIn wsX3_replicate wsX3_replicates := goodIn_r _ [14, 15, 16, 17, 18, 5, 19, 20, 21, 22, 23, 24, 25, 26, 27, 28, 29, 30, 31, 32, 7, 33, 34, 35, 36, 37, 38, 39, 40, 41, 42, 43, 44, 45, 46, 47, 48, 49, 50, 51, 52, 53, 54, 55, 56, 57, 58, 59, 60, 61, 62, 63] (by decide +kernel) (by decide +kernel)
set_option maxRecDepth 20000 in
theorem gX3_replicate_X3_replicates : GoodIn wsX3_replicate (wsV RX3 108 RX3 yX3_replicates wsX3_replicates) := goodIn_app (goodIn_of _ (by decide +kernel)) ggX3_replicate_X3_replicates
theorem dX3_replicate_0 : decode cX3_replicate 0 = .ok (.aload_n 0, 1) := by decide +kernel
theorem dX3_replicate_1 : decode cX3_replicate 1 = .ok (.aload_n 0, 1) := by decide +kernel
theorem dX3_replicate_2 : decode cX3_replicate 2 = .ok (.iload_n 1, 1) := by decide +kernel
theorem dX3_replicate_3 : decode cX3_replicate 3 = .ok (.invokevirtual 85, 3) := by decide +kernel
theorem dX3_replicate_6 : decode cX3_replicate 6 = .ok (.putfield 41, 3) := by decide +kernel
theorem dX3_replicate_9 : decode cX3_replicate 9 = .ok (.aload_n 0, 1) := by decide +kernel
theorem dX3_replicate_10 : decode cX3_replicate 10 = .ok (.getfield 41, 3) := by decide +kernel
theorem dX3_replicate_13 : decode cX3_replicate 13 = .ok (.ifCond .ne 11, 3) := by decide +kernel
theorem dX3_replicate_16 : decode cX3_replicate 16 = .ok (.aload_n 0, 1) := by decide +kernel
theorem dX3_replicate_17 : decode cX3_replicate 17 = .ok (.iload_n 1, 1) := by decide +kernel
theorem dX3_replicate_18 : decode cX3_replicate 18 = .ok (.invokevirtual 108, 3) := by decide +kernel
theorem dX3_replicate_21 : decode cX3_replicate 21 = .ok (.goto 4, 3) := by decide +kernel
theorem dX3_replicate_24 : decode cX3_replicate 24 = .ok (.iconst 0, 1) := by decide +kernel
theorem dX3_replicate_25 : decode cX3_replicate 25 = .ok (.ireturn, 1) := by decide +kernel
set_option maxRecDepth 20000 in
theorem ggX3_round_X3_checks : GoodIn wsX3_round wsX3_checks := goodIn_r _ [6, 7, 1, 59, 60, 61, 62, 63, 64, 65, 66, 67, 68, 69, 70, 71] (by decide +kernel) (by decide +kernel)
set_option maxRecDepth 20000 in
theorem gX3_round_X3_checks : GoodIn wsX3_round (wsV RX3 98 RX3 yX3_checks wsX3_checks) := goodIn_app (goodIn_of _ (by decide +kernel)) ggX3_round_X3_checks
set_option maxRecDepth 20000 in
theorem ggX3_round_X3_stabilizes : GoodIn wsX3_round wsX3_stabilizes := goodIn_r _ [11, 7, 1, 12, 13, 14, 5, 15, 16, 17, 18, 19, 20, 21, 22, 23, 24, 25, 26, 27, 28, 29, 59, 60, 61, 62, 63, 64, 65, 66, 67, 68, 69, 70, 71] (by decide +kernel) (by decide +kernel)
set_option maxRecDepth 20000 in
theorem gX3_round_X3_stabilizes : GoodIn wsX3_round (wsV RX3 102 RX3 yX3_stabilizes wsX3_stabilizes) := goodIn_app (goodIn_of _ (by decide +kernel)) ggX3_round_X3_stabilizes
set_option maxRecDepth 20000 in
theorem ggX3_round_X3_fixes : GoodIn wsX3_round wsX3_fixes := goodIn_r _ [33, 34, 35, 36, 37, 5, 38, 39, 40, 12, 13, 14, 15, 1, 16, 20, 21, 22, 23, 24, 25, 41, 42, 43, 44, 17, 18, 19, 59, 60, 61, 62, 63, 64, 65, 66, 67, 68, 69, 70, 71] (by decide +kernel) (by decide +kernel)
set_option maxRecDepth 20000 in
theorem gX3_round_X3_fixes : GoodIn wsX3_round (wsV RX3 105 RX3 yX3_fixes wsX3_fixes) := goodIn_app (goodIn_of _ (by decide +kernel)) ggX3_round_X3_fixes
set_option maxRecDepth 20000 in
theorem ggX3_round_X3_replicates : GoodIn wsX3_round wsX3_replicates := goodIn_r _ [48, 49, 7, 20, 21, 5, 22, 23, 24, 25, 35, 36, 37, 38, 39, 40, 12, 13, 14, 15, 1, 16, 41, 42, 43, 44, 34, 17, 18, 19, 50, 51, 52, 53, 54, 55, 56, 57, 58, 59, 60, 61, 62, 63, 64, 65, 66, 67, 68, 69, 70, 71] (by decide +kernel) (by decide +kernel)
set_option maxRecDepth 20000 in
theorem gX3_round_X3_replicates : GoodIn wsX3_round (wsV RX3 108 RX3 yX3_replicates wsX3_replicates) := goodIn_app (goodIn_of _ (by decide +kernel)) ggX3_round_X3_replicates
theorem dX3_round_0 : decode cX3_round 0 = .ok (.iconst 0, 1) := by decide +kernel
theorem dX3_round_1 : decode cX3_round 1 = .ok (.istore_n 2, 1) := by decide +kernel
theorem dX3_round_2 : decode cX3_round 2 = .ok (.iload_n 2, 1) := by decide +kernel
theorem dX3_round_3 : decode cX3_round 3 = .ok (.bipush 64, 2) := by decide +kernel
theorem dX3_round_5 : decode cX3_round 5 = .ok (.if_icmp .ge 49, 3) := by decide +kernel
theorem dX3_round_8 : decode cX3_round 8 = .ok (.aload_n 0, 1) := by decide +kernel
theorem dX3_round_9 : decode cX3_round 9 = .ok (.getfield 7, 3) := by decide +kernel
theorem dX3_round_12 : decode cX3_round 12 = .ok (.iload_n 2, 1) := by decide +kernel
theorem dX3_round_13 : decode cX3_round 13 = .ok (.baload, 1) := by decide +kernel
theorem dX3_round_14 : decode cX3_round 14 = .ok (.ifCond .eq 34, 3) := by decide +kernel
theorem dX3_round_17 : decode cX3_round 17 = .ok (.aload_n 0, 1) := by decide +kernel
theorem dX3_round_18 : decode cX3_round 18 = .ok (.iload_n 2, 1) := by decide +kernel
theorem dX3_round_19 : decode cX3_round 19 = .ok (.invokevirtual 98, 3) := by decide +kernel
theorem dX3_round_22 : decode cX3_round 22 = .ok (.aload_n 0, 1) := by decide +kernel
theorem dX3_round_23 : decode cX3_round 23 = .ok (.iload_n 2, 1) := by decide +kernel
theorem dX3_round_24 : decode cX3_round 24 = .ok (.invokevirtual 102, 3) := by decide +kernel
theorem dX3_round_27 : decode cX3_round 27 = .ok (.aload_n 0, 1) := by decide +kernel
theorem dX3_round_28 : decode cX3_round 28 = .ok (.iload_n 2, 1) := by decide +kernel
theorem dX3_round_29 : decode cX3_round 29 = .ok (.invokevirtual 105, 3) := by decide +kernel
theorem dX3_round_32 : decode cX3_round 32 = .ok (.istore_n 3, 1) := by decide +kernel
theorem dX3_round_33 : decode cX3_round 33 = .ok (.iload_n 1, 1) := by decide +kernel
theorem dX3_round_34 : decode cX3_round 34 = .ok (.ifCond .eq 11, 3) := by decide +kernel
theorem dX3_round_37 : decode cX3_round 37 = .ok (.aload_n 0, 1) := by decide +kernel
theorem dX3_round_38 : decode cX3_round 38 = .ok (.iload_n 2, 1) := by decide +kernel
theorem dX3_round_39 : decode cX3_round 39 = .ok (.invokevirtual 108, 3) := by decide +kernel
theorem dX3_round_42 : decode cX3_round 42 = .ok (.goto 4, 3) := by decide +kernel
theorem dX3_round_45 : decode cX3_round 45 = .ok (.iconst 0, 1) := by decide +kernel
theorem dX3_round_46 : decode cX3_round 46 = .ok (.istore 4, 2) := by decide +kernel
theorem dX3_round_48 : decode cX3_round 48 = .ok (.iinc 2 1, 3) := by decide +kernel
theorem dX3_round_51 : decode cX3_round 51 = .ok (.goto (-49), 3) := by decide +kernel
theorem dX3_round_54 : decode cX3_round 54 = .ok (.return_, 1) := by decide +kernel
set_option maxRecDepth 20000 in
theorem ggX3_goRounds_X3_fails : GoodIn wsX3_goRounds wsX3_fails := goodIn_r _ [6, 1, 84, 85, 86, 87, 88, 89, 90, 91, 92, 93, 94, 95, 96] (by decide +kernel) (by decide +kernel)
set_option maxRecDepth 20000 in
theorem gX3_goRounds_X3_fails : GoodIn wsX3_goRounds (wsV RX3 71 RX3 yX3_fails wsX3_fails) := goodIn_app (goodIn_of _ (by decide +kernel)) ggX3_goRounds_X3_fails
set_option maxRecDepth 20000 in
theorem ggX3_goRounds_X3_round : GoodIn wsX3_goRounds wsX3_round := goodIn_r _ [10, 11, 12, 13, 14, 5, 15, 16, 17, 18, 19, 20, 21, 22, 23, 24, 25, 26, 27, 28, 29, 30, 31, 32, 33, 34, 35, 36, 37, 38, 39, 40, 41, 42, 43, 44, 45, 46, 47, 48, 49, 50, 51, 52, 53, 54, 55, 56, 57, 58, 59, 60, 61, 62, 63, 64, 65, 66, 67, 84, 85, 86, 87, 88, 89, 90, 91, 92, 93, 94, 95, 96] (by decide +kernel) (by decide +kernel)
set_option maxRecDepth 20000 in
theorem gX3_goRounds_X3_round : GoodIn wsX3_goRounds (wsV RX3 111 RX3 yX3_round wsX3_round) := goodIn_app (goodIn_of _ (by decide +kernel)) ggX3_goRounds_X3_round
set_option maxRecDepth 20000 in
theorem ggX3_goRounds_X3_countWrong : GoodIn wsX3_goRounds wsX3_countWrong := goodIn_r _ [71, 11, 72, 73, 74, 5, 75, 16, 43, 21, 22, 23, 24, 25, 76, 77, 78, 79, 80, 81, 82, 83, 84, 85, 86, 87, 88, 89, 90, 91, 92, 93, 94, 95, 96] (by decide +kernel) (by decide +kernel)
set_option maxRecDepth 20000 in
theorem gX3_goRounds_X3_countWrong : GoodIn wsX3_goRounds (wsV RX3 115 RX3 yX3_countWrong wsX3_countWrong) := goodIn_app (goodIn_of _ (by decide +kernel)) ggX3_goRounds_X3_countWrong
theorem dX3_goRounds_0 : decode cX3_goRounds 0 = .ok (.aload_n 0, 1) := by decide +kernel
theorem dX3_goRounds_1 : decode cX3_goRounds 1 = .ok (.iconst 0, 1) := by decide +kernel
theorem dX3_goRounds_2 : decode cX3_goRounds 2 = .ok (.putfield 41, 3) := by decide +kernel
theorem dX3_goRounds_5 : decode cX3_goRounds 5 = .ok (.iload_n 1, 1) := by decide +kernel
theorem dX3_goRounds_6 : decode cX3_goRounds 6 = .ok (.iconst 1, 1) := by decide +kernel
theorem dX3_goRounds_7 : decode cX3_goRounds 7 = .ok (.if_icmp .lt 9, 3) := by decide +kernel
theorem dX3_goRounds_10 : decode cX3_goRounds 10 = .ok (.iload_n 1, 1) := by decide +kernel
theorem dX3_goRounds_11 : decode cX3_goRounds 11 = .ok (.bipush 20, 2) := by decide +kernel
theorem dX3_goRounds_13 : decode cX3_goRounds 13 = .ok (.if_icmp .le 9, 3) := by decide +kernel
theorem dX3_goRounds_16 : decode cX3_goRounds 16 = .ok (.aload_n 0, 1) := by decide +kernel
theorem dX3_goRounds_17 : decode cX3_goRounds 17 = .ok (.iconst 1, 1) := by decide +kernel
theorem dX3_goRounds_18 : decode cX3_goRounds 18 = .ok (.invokevirtual 71, 3) := by decide +kernel
theorem dX3_goRounds_21 : decode cX3_goRounds 21 = .ok (.ireturn, 1) := by decide +kernel
theorem dX3_goRounds_22 : decode cX3_goRounds 22 = .ok (.iconst 0, 1) := by decide +kernel
theorem dX3_goRounds_23 : decode cX3_goRounds 23 = .ok (.istore_n 2, 1) := by decide +kernel
theorem dX3_goRounds_24 : decode cX3_goRounds 24 = .ok (.iload_n 2, 1) := by decide +kernel
theorem dX3_goRounds_25 : decode cX3_goRounds 25 = .ok (.iload_n 1, 1) := by decide +kernel
theorem dX3_goRounds_26 : decode cX3_goRounds 26 = .ok (.if_icmp .ge 14, 3) := by decide +kernel
theorem dX3_goRounds_29 : decode cX3_goRounds 29 = .ok (.aload_n 0, 1) := by decide +kernel
theorem dX3_goRounds_30 : decode cX3_goRounds 30 = .ok (.iconst 1, 1) := by decide +kernel
theorem dX3_goRounds_31 : decode cX3_goRounds 31 = .ok (.invokevirtual 111, 3) := by decide +kernel
theorem dX3_goRounds_34 : decode cX3_goRounds 34 = .ok (.iinc 2 1, 3) := by decide +kernel
theorem dX3_goRounds_37 : decode cX3_goRounds 37 = .ok (.goto (-13), 3) := by decide +kernel
theorem dX3_goRounds_40 : decode cX3_goRounds 40 = .ok (.aload_n 0, 1) := by decide +kernel
theorem dX3_goRounds_41 : decode cX3_goRounds 41 = .ok (.invokevirtual 115, 3) := by decide +kernel
theorem dX3_goRounds_44 : decode cX3_goRounds 44 = .ok (.ireturn, 1) := by decide +kernel
set_option maxRecDepth 20000 in
theorem ggX3_refusesLookup_X3_isId : GoodIn wsX3_refusesLookup wsX3_isId := goodIn_r _ [4] (by decide +kernel) (by decide +kernel)
set_option maxRecDepth 20000 in
theorem gX3_refusesLookup_X3_isId : GoodIn wsX3_refusesLookup (va_wsS RX3 67 yX3_isId wsX3_isId) := goodIn_app (goodIn_of _ (by decide +kernel)) ggX3_refusesLookup_X3_isId
set_option maxRecDepth 20000 in
theorem ggX3_refusesLookup_X3_refuses : GoodIn wsX3_refusesLookup wsX3_refuses := goodIn_r _ [8, 9, 1, 2, 3, 4, 10, 11, 12, 13, 14, 15, 16, 17, 18, 19, 20, 21, 22] (by decide +kernel) (by decide +kernel)
set_option maxRecDepth 20000 in
theorem gX3_refusesLookup_X3_refuses : GoodIn wsX3_refusesLookup (wsV RX3 85 RX3 yX3_refuses wsX3_refuses) := goodIn_app (goodIn_of _ (by decide +kernel)) ggX3_refusesLookup_X3_refuses
theorem dX3_refusesLookup_0 : decode cX3_refusesLookup 0 = .ok (.iload_n 1, 1) := by decide +kernel
theorem dX3_refusesLookup_1 : decode cX3_refusesLookup 1 = .ok (.invokestatic 67, 3) := by decide +kernel
theorem dX3_refusesLookup_4 : decode cX3_refusesLookup 4 = .ok (.ifCond .eq 18, 3) := by decide +kernel
theorem dX3_refusesLookup_7 : decode cX3_refusesLookup 7 = .ok (.iload_n 2, 1) := by decide +kernel
theorem dX3_refusesLookup_8 : decode cX3_refusesLookup 8 = .ok (.invokestatic 67, 3) := by decide +kernel
theorem dX3_refusesLookup_11 : decode cX3_refusesLookup 11 = .ok (.ifCond .eq 11, 3) := by decide +kernel
theorem dX3_refusesLookup_14 : decode cX3_refusesLookup 14 = .ok (.aload_n 0, 1) := by decide +kernel
theorem dX3_refusesLookup_15 : decode cX3_refusesLookup 15 = .ok (.iload_n 1, 1) := by decide +kernel
theorem dX3_refusesLookup_16 : decode cX3_refusesLookup 16 = .ok (.invokevirtual 85, 3) := by decide +kernel
theorem dX3_refusesLookup_19 : decode cX3_refusesLookup 19 = .ok (.goto 4, 3) := by decide +kernel
theorem dX3_refusesLookup_22 : decode cX3_refusesLookup 22 = .ok (.iconst 1, 1) := by decide +kernel
theorem dX3_refusesLookup_23 : decode cX3_refusesLookup 23 = .ok (.ireturn, 1) := by decide +kernel
set_option maxRecDepth 20000 in
theorem ggX3_lookup_X3_refusesLookup : GoodIn wsX3_lookup wsX3_refusesLookup := goodIn_r _ [6, 7, 8, 5, 9, 10, 11, 12, 13, 14, 40, 41, 42, 43, 44, 45, 46, 47, 48, 49, 50, 51, 52] (by decide +kernel) (by decide +kernel)
set_option maxRecDepth 20000 in
theorem gX3_lookup_X3_refusesLookup : GoodIn wsX3_lookup (wsV RX3 118 RX3 yX3_refusesLookup wsX3_refusesLookup) := goodIn_app (goodIn_of _ (by decide +kernel)) ggX3_lookup_X3_refusesLookup
set_option maxRecDepth 20000 in
theorem ggX3_lookup_X3_find : GoodIn wsX3_lookup wsX3_find := goodIn_r _ [18, 19, 20, 21, 22, 23, 5, 24, 14, 25, 26, 27, 28, 29, 30, 31, 32, 33, 34, 35, 36, 37, 38, 39, 40, 41, 42, 43, 44, 45, 46, 47, 48, 49, 50, 51, 52] (by decide +kernel) (by decide +kernel)
set_option maxRecDepth 20000 in
theorem gX3_lookup_X3_find : GoodIn wsX3_lookup (wsV RX3 82 RX3 yX3_find wsX3_find) := goodIn_app (goodIn_of _ (by decide +kernel)) ggX3_lookup_X3_find
theorem dX3_lookup_0 : decode cX3_lookup 0 = .ok (.aload_n 0, 1) := by decide +kernel
theorem dX3_lookup_1 : decode cX3_lookup 1 = .ok (.aload_n 0, 1) := by decide +kernel
theorem dX3_lookup_2 : decode cX3_lookup 2 = .ok (.iload_n 1, 1) := by decide +kernel
theorem dX3_lookup_3 : decode cX3_lookup 3 = .ok (.iload_n 2, 1) := by decide +kernel
theorem dX3_lookup_4 : decode cX3_lookup 4 = .ok (.invokevirtual 118, 3) := by decide +kernel
theorem dX3_lookup_7 : decode cX3_lookup 7 = .ok (.putfield 41, 3) := by decide +kernel
theorem dX3_lookup_10 : decode cX3_lookup 10 = .ok (.aload_n 0, 1) := by decide +kernel
theorem dX3_lookup_11 : decode cX3_lookup 11 = .ok (.getfield 41, 3) := by decide +kernel
theorem dX3_lookup_14 : decode cX3_lookup 14 = .ok (.ifCond .ne 12, 3) := by decide +kernel
theorem dX3_lookup_17 : decode cX3_lookup 17 = .ok (.aload_n 0, 1) := by decide +kernel
theorem dX3_lookup_18 : decode cX3_lookup 18 = .ok (.iload_n 1, 1) := by decide +kernel
theorem dX3_lookup_19 : decode cX3_lookup 19 = .ok (.iload_n 2, 1) := by decide +kernel
theorem dX3_lookup_20 : decode cX3_lookup 20 = .ok (.invokevirtual 82, 3) := by decide +kernel
theorem dX3_lookup_23 : decode cX3_lookup 23 = .ok (.goto 4, 3) := by decide +kernel
theorem dX3_lookup_26 : decode cX3_lookup 26 = .ok (.iconst 0, 1) := by decide +kernel
theorem dX3_lookup_27 : decode cX3_lookup 27 = .ok (.ireturn, 1) := by decide +kernel
set_option maxRecDepth 20000 in
theorem ggX3_hops_X3_refusesLookup : GoodIn wsX3_hops wsX3_refusesLookup := goodIn_r _ [7, 8, 9, 6, 10, 11, 12, 13, 14, 15, 40, 41, 42, 43, 44, 45, 46, 47, 48, 49, 50, 51, 52] (by decide +kernel) (by decide +kernel)
set_option maxRecDepth 20000 in
theorem gX3_hops_X3_refusesLookup : GoodIn wsX3_hops (wsV RX3 118 RX3 yX3_refusesLookup wsX3_refusesLookup) := goodIn_app (goodIn_of _ (by decide +kernel)) ggX3_hops_X3_refusesLookup
set_option maxRecDepth 20000 in
theorem ggX3_hops_X3_find : GoodIn wsX3_hops wsX3_find := goodIn_r _ [19, 2, 20, 21, 22, 23, 6, 24, 15, 25, 26, 27, 28, 29, 30, 31, 32, 33, 34, 35, 36, 37, 38, 39, 40, 41, 42, 43, 44, 45, 46, 47, 48, 49, 50, 51, 52] (by decide +kernel) (by decide +kernel)
set_option maxRecDepth 20000 in
theorem gX3_hops_X3_find : GoodIn wsX3_hops (wsV RX3 82 RX3 yX3_find wsX3_find) := goodIn_app (goodIn_of _ (by decide +kernel)) ggX3_hops_X3_find
theorem dX3_hops_0 : decode cX3_hops 0 = .ok (.aload_n 0, 1) := by decide +kernel
theorem dX3_hops_1 : decode cX3_hops 1 = .ok (.aload_n 0, 1) := by decide +kernel
theorem dX3_hops_2 : decode cX3_hops 2 = .ok (.iload_n 1, 1) := by decide +kernel
theorem dX3_hops_3 : decode cX3_hops 3 = .ok (.iload_n 2, 1) := by decide +kernel
theorem dX3_hops_4 : decode cX3_hops 4 = .ok (.invokevirtual 118, 3) := by decide +kernel
theorem dX3_hops_7 : decode cX3_hops 7 = .ok (.putfield 41, 3) := by decide +kernel
theorem dX3_hops_10 : decode cX3_hops 10 = .ok (.aload_n 0, 1) := by decide +kernel
theorem dX3_hops_11 : decode cX3_hops 11 = .ok (.getfield 41, 3) := by decide +kernel
theorem dX3_hops_14 : decode cX3_hops 14 = .ok (.ifCond .le 5, 3) := by decide +kernel
theorem dX3_hops_17 : decode cX3_hops 17 = .ok (.iconst 0, 1) := by decide +kernel
theorem dX3_hops_18 : decode cX3_hops 18 = .ok (.ireturn, 1) := by decide +kernel
theorem dX3_hops_19 : decode cX3_hops 19 = .ok (.aload_n 0, 1) := by decide +kernel
theorem dX3_hops_20 : decode cX3_hops 20 = .ok (.iload_n 1, 1) := by decide +kernel
theorem dX3_hops_21 : decode cX3_hops 21 = .ok (.iload_n 2, 1) := by decide +kernel
theorem dX3_hops_22 : decode cX3_hops 22 = .ok (.invokevirtual 82, 3) := by decide +kernel
theorem dX3_hops_25 : decode cX3_hops 25 = .ok (.istore_n 3, 1) := by decide +kernel
theorem dX3_hops_26 : decode cX3_hops 26 = .ok (.aload_n 0, 1) := by decide +kernel
theorem dX3_hops_27 : decode cX3_hops 27 = .ok (.getfield 60, 3) := by decide +kernel
theorem dX3_hops_30 : decode cX3_hops 30 = .ok (.ireturn, 1) := by decide +kernel
set_option maxRecDepth 20000 in
theorem ggX3_hopAt_X3_refusesLookup : GoodIn wsX3_hopAt wsX3_refusesLookup := goodIn_r _ [8, 9, 10, 7, 11, 12, 13, 14, 15, 16, 44, 45, 46, 47, 48, 49, 50, 51, 52, 53, 54, 55, 56] (by decide +kernel) (by decide +kernel)
set_option maxRecDepth 20000 in
theorem gX3_hopAt_X3_refusesLookup : GoodIn wsX3_hopAt (wsV RX3 118 RX3 yX3_refusesLookup wsX3_refusesLookup) := goodIn_app (goodIn_of _ (by decide +kernel)) ggX3_hopAt_X3_refusesLookup
set_option maxRecDepth 20000 in
theorem ggX3_hopAt_X3_find : GoodIn wsX3_hopAt wsX3_find := goodIn_r _ [20, 2, 3, 21, 22, 23, 7, 24, 16, 25, 26, 27, 28, 29, 30, 31, 32, 33, 34, 35, 36, 37, 38, 39, 44, 45, 46, 47, 48, 49, 50, 51, 52, 53, 54, 55, 56] (by decide +kernel) (by decide +kernel)
set_option maxRecDepth 20000 in
theorem gX3_hopAt_X3_find : GoodIn wsX3_hopAt (wsV RX3 82 RX3 yX3_find wsX3_find) := goodIn_app (goodIn_of _ (by decide +kernel)) ggX3_hopAt_X3_find
set_option maxRecDepth 20000 in
theorem ggX3_hopAt_X3_fails : GoodIn wsX3_hopAt wsX3_fails := goodIn_r _ [43, 1, 44, 45, 46, 47, 48, 49, 50, 51, 52, 53, 54, 55, 56] (by decide +kernel) (by decide +kernel)
set_option maxRecDepth 20000 in
theorem gX3_hopAt_X3_fails : GoodIn wsX3_hopAt (wsV RX3 71 RX3 yX3_fails wsX3_fails) := goodIn_app (goodIn_of _ (by decide +kernel)) ggX3_hopAt_X3_fails
theorem dX3_hopAt_0 : decode cX3_hopAt 0 = .ok (.aload_n 0, 1) := by decide +kernel
theorem dX3_hopAt_1 : decode cX3_hopAt 1 = .ok (.aload_n 0, 1) := by decide +kernel
theorem dX3_hopAt_2 : decode cX3_hopAt 2 = .ok (.iload_n 1, 1) := by decide +kernel
theorem dX3_hopAt_3 : decode cX3_hopAt 3 = .ok (.iload_n 2, 1) := by decide +kernel
theorem dX3_hopAt_4 : decode cX3_hopAt 4 = .ok (.invokevirtual 118, 3) := by decide +kernel
theorem dX3_hopAt_7 : decode cX3_hopAt 7 = .ok (.putfield 41, 3) := by decide +kernel
theorem dX3_hopAt_10 : decode cX3_hopAt 10 = .ok (.aload_n 0, 1) := by decide +kernel
theorem dX3_hopAt_11 : decode cX3_hopAt 11 = .ok (.getfield 41, 3) := by decide +kernel
theorem dX3_hopAt_14 : decode cX3_hopAt 14 = .ok (.ifCond .le 5, 3) := by decide +kernel
theorem dX3_hopAt_17 : decode cX3_hopAt 17 = .ok (.iconst 0, 1) := by decide +kernel
theorem dX3_hopAt_18 : decode cX3_hopAt 18 = .ok (.ireturn, 1) := by decide +kernel
theorem dX3_hopAt_19 : decode cX3_hopAt 19 = .ok (.aload_n 0, 1) := by decide +kernel
theorem dX3_hopAt_20 : decode cX3_hopAt 20 = .ok (.iload_n 1, 1) := by decide +kernel
theorem dX3_hopAt_21 : decode cX3_hopAt 21 = .ok (.iload_n 2, 1) := by decide +kernel
theorem dX3_hopAt_22 : decode cX3_hopAt 22 = .ok (.invokevirtual 82, 3) := by decide +kernel
theorem dX3_hopAt_25 : decode cX3_hopAt 25 = .ok (.istore 4, 2) := by decide +kernel
theorem dX3_hopAt_27 : decode cX3_hopAt 27 = .ok (.iload_n 3, 1) := by decide +kernel
theorem dX3_hopAt_28 : decode cX3_hopAt 28 = .ok (.ifCond .lt 20, 3) := by decide +kernel
theorem dX3_hopAt_31 : decode cX3_hopAt 31 = .ok (.iload_n 3, 1) := by decide +kernel
theorem dX3_hopAt_32 : decode cX3_hopAt 32 = .ok (.aload_n 0, 1) := by decide +kernel
theorem dX3_hopAt_33 : decode cX3_hopAt 33 = .ok (.getfield 60, 3) := by decide +kernel
theorem dX3_hopAt_36 : decode cX3_hopAt 36 = .ok (.if_icmp .gt 12, 3) := by decide +kernel
theorem dX3_hopAt_39 : decode cX3_hopAt 39 = .ok (.aload_n 0, 1) := by decide +kernel
theorem dX3_hopAt_40 : decode cX3_hopAt 40 = .ok (.getfield 29, 3) := by decide +kernel
theorem dX3_hopAt_43 : decode cX3_hopAt 43 = .ok (.iload_n 3, 1) := by decide +kernel
theorem dX3_hopAt_44 : decode cX3_hopAt 44 = .ok (.iaload, 1) := by decide +kernel
theorem dX3_hopAt_45 : decode cX3_hopAt 45 = .ok (.goto 8, 3) := by decide +kernel
theorem dX3_hopAt_48 : decode cX3_hopAt 48 = .ok (.aload_n 0, 1) := by decide +kernel
theorem dX3_hopAt_49 : decode cX3_hopAt 49 = .ok (.iconst 3, 1) := by decide +kernel
theorem dX3_hopAt_50 : decode cX3_hopAt 50 = .ok (.invokevirtual 71, 3) := by decide +kernel
theorem dX3_hopAt_53 : decode cX3_hopAt 53 = .ok (.ireturn, 1) := by decide +kernel
set_option maxRecDepth 20000 in
theorem ggX3_put_X3_refusesLookup : GoodIn wsX3_put wsX3_refusesLookup := goodIn_r _ [9, 10, 11, 8, 12, 13, 14, 15, 16, 17, 51, 52, 53, 54, 55, 56, 57, 58, 59, 60, 61, 62, 63] (by decide +kernel) (by decide +kernel)
set_option maxRecDepth 20000 in
theorem gX3_put_X3_refusesLookup : GoodIn wsX3_put (wsV RX3 118 RX3 yX3_refusesLookup wsX3_refusesLookup) := goodIn_app (goodIn_of _ (by decide +kernel)) ggX3_put_X3_refusesLookup
set_option maxRecDepth 20000 in
theorem ggX3_put_X3_find : GoodIn wsX3_put wsX3_find := goodIn_r _ [21, 22, 23, 24, 25, 26, 8, 27, 17, 28, 29, 30, 31, 32, 33, 34, 35, 36, 37, 38, 39, 40, 41, 42, 51, 52, 53, 54, 55, 56, 57, 58, 59, 60, 61, 62, 63] (by decide +kernel) (by decide +kernel)
set_option maxRecDepth 20000 in
theorem gX3_put_X3_find : GoodIn wsX3_put (wsV RX3 82 RX3 yX3_find wsX3_find) := goodIn_app (goodIn_of _ (by decide +kernel)) ggX3_put_X3_find
set_option maxRecDepth 20000 in
theorem ggX3_put_X3_spreads : GoodIn wsX3_put wsX3_spreads := goodIn_r _ [46, 28, 17, 47, 48, 49, 8, 50, 3, 4, 51, 52, 53, 54, 55, 56, 57, 58, 59, 60, 61, 62, 63] (by decide +kernel) (by decide +kernel)
set_option maxRecDepth 20000 in
theorem gX3_put_X3_spreads : GoodIn wsX3_put (wsV RX3 95 RX3 yX3_spreads wsX3_spreads) := goodIn_app (goodIn_of _ (by decide +kernel)) ggX3_put_X3_spreads
theorem dX3_put_0 : decode cX3_put 0 = .ok (.aload_n 0, 1) := by decide +kernel
theorem dX3_put_1 : decode cX3_put 1 = .ok (.iload_n 3, 1) := by decide +kernel
theorem dX3_put_2 : decode cX3_put 2 = .ok (.ifCond .lt 19, 3) := by decide +kernel
theorem dX3_put_5 : decode cX3_put 5 = .ok (.iload_n 3, 1) := by decide +kernel
theorem dX3_put_6 : decode cX3_put 6 = .ok (.sipush 999, 3) := by decide +kernel
theorem dX3_put_9 : decode cX3_put 9 = .ok (.if_icmp .gt 12, 3) := by decide +kernel
theorem dX3_put_12 : decode cX3_put 12 = .ok (.aload_n 0, 1) := by decide +kernel
theorem dX3_put_13 : decode cX3_put 13 = .ok (.iload_n 1, 1) := by decide +kernel
theorem dX3_put_14 : decode cX3_put 14 = .ok (.iload_n 2, 1) := by decide +kernel
theorem dX3_put_15 : decode cX3_put 15 = .ok (.invokevirtual 118, 3) := by decide +kernel
theorem dX3_put_18 : decode cX3_put 18 = .ok (.goto 4, 3) := by decide +kernel
theorem dX3_put_21 : decode cX3_put 21 = .ok (.iconst 1, 1) := by decide +kernel
theorem dX3_put_22 : decode cX3_put 22 = .ok (.putfield 41, 3) := by decide +kernel
theorem dX3_put_25 : decode cX3_put 25 = .ok (.aload_n 0, 1) := by decide +kernel
theorem dX3_put_26 : decode cX3_put 26 = .ok (.getfield 41, 3) := by decide +kernel
theorem dX3_put_29 : decode cX3_put 29 = .ok (.ifCond .ne 12, 3) := by decide +kernel
theorem dX3_put_32 : decode cX3_put 32 = .ok (.aload_n 0, 1) := by decide +kernel
theorem dX3_put_33 : decode cX3_put 33 = .ok (.iload_n 1, 1) := by decide +kernel
theorem dX3_put_34 : decode cX3_put 34 = .ok (.iload_n 2, 1) := by decide +kernel
theorem dX3_put_35 : decode cX3_put 35 = .ok (.invokevirtual 82, 3) := by decide +kernel
theorem dX3_put_38 : decode cX3_put 38 = .ok (.goto 4, 3) := by decide +kernel
theorem dX3_put_41 : decode cX3_put 41 = .ok (.iconst 0, 1) := by decide +kernel
theorem dX3_put_42 : decode cX3_put 42 = .ok (.istore 4, 2) := by decide +kernel
theorem dX3_put_44 : decode cX3_put 44 = .ok (.aload_n 0, 1) := by decide +kernel
theorem dX3_put_45 : decode cX3_put 45 = .ok (.iload 4, 2) := by decide +kernel
theorem dX3_put_47 : decode cX3_put 47 = .ok (.iconst (-1), 1) := by decide +kernel
theorem dX3_put_48 : decode cX3_put 48 = .ok (.if_icmp .ne 7, 3) := by decide +kernel
theorem dX3_put_51 : decode cX3_put 51 = .ok (.iconst 2, 1) := by decide +kernel
theorem dX3_put_52 : decode cX3_put 52 = .ok (.goto 7, 3) := by decide +kernel
theorem dX3_put_55 : decode cX3_put 55 = .ok (.aload_n 0, 1) := by decide +kernel
theorem dX3_put_56 : decode cX3_put 56 = .ok (.getfield 41, 3) := by decide +kernel
theorem dX3_put_59 : decode cX3_put 59 = .ok (.putfield 41, 3) := by decide +kernel
theorem dX3_put_62 : decode cX3_put 62 = .ok (.aload_n 0, 1) := by decide +kernel
theorem dX3_put_63 : decode cX3_put 63 = .ok (.getfield 41, 3) := by decide +kernel
theorem dX3_put_66 : decode cX3_put 66 = .ok (.ifCond .le 5, 3) := by decide +kernel
theorem dX3_put_69 : decode cX3_put 69 = .ok (.iconst 0, 1) := by decide +kernel
theorem dX3_put_70 : decode cX3_put 70 = .ok (.ireturn, 1) := by decide +kernel
theorem dX3_put_71 : decode cX3_put 71 = .ok (.aload_n 0, 1) := by decide +kernel
theorem dX3_put_72 : decode cX3_put 72 = .ok (.dup, 1) := by decide +kernel
theorem dX3_put_73 : decode cX3_put 73 = .ok (.getfield 121, 3) := by decide +kernel
theorem dX3_put_76 : decode cX3_put 76 = .ok (.iconst 1, 1) := by decide +kernel
theorem dX3_put_77 : decode cX3_put 77 = .ok (.iadd, 1) := by decide +kernel
theorem dX3_put_78 : decode cX3_put 78 = .ok (.putfield 121, 3) := by decide +kernel
theorem dX3_put_81 : decode cX3_put 81 = .ok (.aload_n 0, 1) := by decide +kernel
theorem dX3_put_82 : decode cX3_put 82 = .ok (.getfield 26, 3) := by decide +kernel
theorem dX3_put_85 : decode cX3_put 85 = .ok (.bipush 64, 2) := by decide +kernel
theorem dX3_put_87 : decode cX3_put 87 = .ok (.iload 4, 2) := by decide +kernel
theorem dX3_put_89 : decode cX3_put 89 = .ok (.imul, 1) := by decide +kernel
theorem dX3_put_90 : decode cX3_put 90 = .ok (.iload_n 2, 1) := by decide +kernel
theorem dX3_put_91 : decode cX3_put 91 = .ok (.iadd, 1) := by decide +kernel
theorem dX3_put_92 : decode cX3_put 92 = .ok (.aload_n 0, 1) := by decide +kernel
theorem dX3_put_93 : decode cX3_put 93 = .ok (.getfield 121, 3) := by decide +kernel
theorem dX3_put_96 : decode cX3_put 96 = .ok (.iastore, 1) := by decide +kernel
theorem dX3_put_97 : decode cX3_put 97 = .ok (.aload_n 0, 1) := by decide +kernel
theorem dX3_put_98 : decode cX3_put 98 = .ok (.getfield 23, 3) := by decide +kernel
theorem dX3_put_101 : decode cX3_put 101 = .ok (.bipush 64, 2) := by decide +kernel
theorem dX3_put_103 : decode cX3_put 103 = .ok (.iload 4, 2) := by decide +kernel
theorem dX3_put_105 : decode cX3_put 105 = .ok (.imul, 1) := by decide +kernel
theorem dX3_put_106 : decode cX3_put 106 = .ok (.iload_n 2, 1) := by decide +kernel
theorem dX3_put_107 : decode cX3_put 107 = .ok (.iadd, 1) := by decide +kernel
theorem dX3_put_108 : decode cX3_put 108 = .ok (.iload_n 3, 1) := by decide +kernel
theorem dX3_put_109 : decode cX3_put 109 = .ok (.iastore, 1) := by decide +kernel
theorem dX3_put_110 : decode cX3_put 110 = .ok (.aload_n 0, 1) := by decide +kernel
theorem dX3_put_111 : decode cX3_put 111 = .ok (.iload 4, 2) := by decide +kernel
theorem dX3_put_113 : decode cX3_put 113 = .ok (.iload_n 2, 1) := by decide +kernel
theorem dX3_put_114 : decode cX3_put 114 = .ok (.invokevirtual 95, 3) := by decide +kernel
theorem dX3_put_117 : decode cX3_put 117 = .ok (.istore 5, 2) := by decide +kernel
theorem dX3_put_119 : decode cX3_put 119 = .ok (.iload 4, 2) := by decide +kernel
theorem dX3_put_121 : decode cX3_put 121 = .ok (.ireturn, 1) := by decide +kernel
theorem dX3_keptAt_0 : decode cX3_keptAt 0 = .ok (.aload_n 0, 1) := by decide +kernel
theorem dX3_keptAt_1 : decode cX3_keptAt 1 = .ok (.getfield 26, 3) := by decide +kernel
theorem dX3_keptAt_4 : decode cX3_keptAt 4 = .ok (.bipush 64, 2) := by decide +kernel
theorem dX3_keptAt_6 : decode cX3_keptAt 6 = .ok (.iload_n 1, 1) := by decide +kernel
theorem dX3_keptAt_7 : decode cX3_keptAt 7 = .ok (.imul, 1) := by decide +kernel
theorem dX3_keptAt_8 : decode cX3_keptAt 8 = .ok (.iload_n 2, 1) := by decide +kernel
theorem dX3_keptAt_9 : decode cX3_keptAt 9 = .ok (.iadd, 1) := by decide +kernel
theorem dX3_keptAt_10 : decode cX3_keptAt 10 = .ok (.iaload, 1) := by decide +kernel
theorem dX3_keptAt_11 : decode cX3_keptAt 11 = .ok (.ifCond .le 17, 3) := by decide +kernel
theorem dX3_keptAt_14 : decode cX3_keptAt 14 = .ok (.aload_n 0, 1) := by decide +kernel
theorem dX3_keptAt_15 : decode cX3_keptAt 15 = .ok (.getfield 23, 3) := by decide +kernel
theorem dX3_keptAt_18 : decode cX3_keptAt 18 = .ok (.bipush 64, 2) := by decide +kernel
theorem dX3_keptAt_20 : decode cX3_keptAt 20 = .ok (.iload_n 1, 1) := by decide +kernel
theorem dX3_keptAt_21 : decode cX3_keptAt 21 = .ok (.imul, 1) := by decide +kernel
theorem dX3_keptAt_22 : decode cX3_keptAt 22 = .ok (.iload_n 2, 1) := by decide +kernel
theorem dX3_keptAt_23 : decode cX3_keptAt 23 = .ok (.iadd, 1) := by decide +kernel
theorem dX3_keptAt_24 : decode cX3_keptAt 24 = .ok (.iaload, 1) := by decide +kernel
theorem dX3_keptAt_25 : decode cX3_keptAt 25 = .ok (.goto 4, 3) := by decide +kernel
theorem dX3_keptAt_28 : decode cX3_keptAt 28 = .ok (.iconst (-1), 1) := by decide +kernel
theorem dX3_keptAt_29 : decode cX3_keptAt 29 = .ok (.ireturn, 1) := by decide +kernel
set_option maxRecDepth 20000 in
theorem ggX3_get_X3_refusesLookup : GoodIn wsX3_get wsX3_refusesLookup := goodIn_r _ [6, 7, 8, 5, 9, 10, 11, 12, 13, 14, 46, 47, 48, 49, 50, 51, 52, 53, 54, 55, 56, 57, 58] (by decide +kernel) (by decide +kernel)
set_option maxRecDepth 20000 in
theorem gX3_get_X3_refusesLookup : GoodIn wsX3_get (wsV RX3 118 RX3 yX3_refusesLookup wsX3_refusesLookup) := goodIn_app (goodIn_of _ (by decide +kernel)) ggX3_get_X3_refusesLookup
set_option maxRecDepth 20000 in
theorem ggX3_get_X3_find : GoodIn wsX3_get wsX3_find := goodIn_r _ [18, 19, 20, 21, 22, 23, 5, 24, 14, 25, 26, 27, 28, 29, 30, 31, 32, 33, 34, 35, 36, 37, 38, 39, 46, 47, 48, 49, 50, 51, 52, 53, 54, 55, 56, 57, 58] (by decide +kernel) (by decide +kernel)
set_option maxRecDepth 20000 in
theorem gX3_get_X3_find : GoodIn wsX3_get (wsV RX3 82 RX3 yX3_find wsX3_find) := goodIn_app (goodIn_of _ (by decide +kernel)) ggX3_get_X3_find
set_option maxRecDepth 20000 in
theorem ggX3_get_X3_keptAt : GoodIn wsX3_get wsX3_keptAt := goodIn_r _ [43, 44, 45, 46, 47, 48, 49, 50, 51, 52, 53, 54, 55, 56, 57, 58] (by decide +kernel) (by decide +kernel)
set_option maxRecDepth 20000 in
theorem gX3_get_X3_keptAt : GoodIn wsX3_get (wsV RX3 124 RX3 yX3_keptAt wsX3_keptAt) := goodIn_app (goodIn_of _ (by decide +kernel)) ggX3_get_X3_keptAt
theorem dX3_get_0 : decode cX3_get 0 = .ok (.aload_n 0, 1) := by decide +kernel
theorem dX3_get_1 : decode cX3_get 1 = .ok (.aload_n 0, 1) := by decide +kernel
theorem dX3_get_2 : decode cX3_get 2 = .ok (.iload_n 1, 1) := by decide +kernel
theorem dX3_get_3 : decode cX3_get 3 = .ok (.iload_n 2, 1) := by decide +kernel
theorem dX3_get_4 : decode cX3_get 4 = .ok (.invokevirtual 118, 3) := by decide +kernel
theorem dX3_get_7 : decode cX3_get 7 = .ok (.putfield 41, 3) := by decide +kernel
theorem dX3_get_10 : decode cX3_get 10 = .ok (.aload_n 0, 1) := by decide +kernel
theorem dX3_get_11 : decode cX3_get 11 = .ok (.getfield 41, 3) := by decide +kernel
theorem dX3_get_14 : decode cX3_get 14 = .ok (.ifCond .le 5, 3) := by decide +kernel
theorem dX3_get_17 : decode cX3_get 17 = .ok (.iconst 0, 1) := by decide +kernel
theorem dX3_get_18 : decode cX3_get 18 = .ok (.ireturn, 1) := by decide +kernel
theorem dX3_get_19 : decode cX3_get 19 = .ok (.aload_n 0, 1) := by decide +kernel
theorem dX3_get_20 : decode cX3_get 20 = .ok (.iload_n 1, 1) := by decide +kernel
theorem dX3_get_21 : decode cX3_get 21 = .ok (.iload_n 2, 1) := by decide +kernel
theorem dX3_get_22 : decode cX3_get 22 = .ok (.invokevirtual 82, 3) := by decide +kernel
theorem dX3_get_25 : decode cX3_get 25 = .ok (.istore_n 3, 1) := by decide +kernel
theorem dX3_get_26 : decode cX3_get 26 = .ok (.iload_n 3, 1) := by decide +kernel
theorem dX3_get_27 : decode cX3_get 27 = .ok (.iconst (-1), 1) := by decide +kernel
theorem dX3_get_28 : decode cX3_get 28 = .ok (.if_icmp .ne 7, 3) := by decide +kernel
theorem dX3_get_31 : decode cX3_get 31 = .ok (.iconst (-1), 1) := by decide +kernel
theorem dX3_get_32 : decode cX3_get 32 = .ok (.goto 9, 3) := by decide +kernel
theorem dX3_get_35 : decode cX3_get 35 = .ok (.aload_n 0, 1) := by decide +kernel
theorem dX3_get_36 : decode cX3_get 36 = .ok (.iload_n 3, 1) := by decide +kernel
theorem dX3_get_37 : decode cX3_get 37 = .ok (.iload_n 2, 1) := by decide +kernel
theorem dX3_get_38 : decode cX3_get 38 = .ok (.invokevirtual 124, 3) := by decide +kernel
theorem dX3_get_41 : decode cX3_get 41 = .ok (.ireturn, 1) := by decide +kernel
set_option maxRecDepth 20000 in
theorem ggX3_kept_X3_refusesLookup : GoodIn wsX3_kept wsX3_refusesLookup := goodIn_r _ [6, 7, 8, 5, 9, 10, 11, 12, 13, 14, 21, 22, 23, 24, 25, 26, 27, 28, 29, 30, 31, 32, 33] (by decide +kernel) (by decide +kernel)
set_option maxRecDepth 20000 in
theorem gX3_kept_X3_refusesLookup : GoodIn wsX3_kept (wsV RX3 118 RX3 yX3_refusesLookup wsX3_refusesLookup) := goodIn_app (goodIn_of _ (by decide +kernel)) ggX3_kept_X3_refusesLookup
set_option maxRecDepth 20000 in
theorem ggX3_kept_X3_keptAt : GoodIn wsX3_kept wsX3_keptAt := goodIn_r _ [18, 19, 20, 21, 22, 23, 24, 25, 26, 27, 28, 29, 30, 31, 32, 33] (by decide +kernel) (by decide +kernel)
set_option maxRecDepth 20000 in
theorem gX3_kept_X3_keptAt : GoodIn wsX3_kept (wsV RX3 124 RX3 yX3_keptAt wsX3_keptAt) := goodIn_app (goodIn_of _ (by decide +kernel)) ggX3_kept_X3_keptAt
theorem dX3_kept_0 : decode cX3_kept 0 = .ok (.aload_n 0, 1) := by decide +kernel
theorem dX3_kept_1 : decode cX3_kept 1 = .ok (.aload_n 0, 1) := by decide +kernel
theorem dX3_kept_2 : decode cX3_kept 2 = .ok (.iload_n 1, 1) := by decide +kernel
theorem dX3_kept_3 : decode cX3_kept 3 = .ok (.iload_n 2, 1) := by decide +kernel
theorem dX3_kept_4 : decode cX3_kept 4 = .ok (.invokevirtual 118, 3) := by decide +kernel
theorem dX3_kept_7 : decode cX3_kept 7 = .ok (.putfield 41, 3) := by decide +kernel
theorem dX3_kept_10 : decode cX3_kept 10 = .ok (.aload_n 0, 1) := by decide +kernel
theorem dX3_kept_11 : decode cX3_kept 11 = .ok (.getfield 41, 3) := by decide +kernel
theorem dX3_kept_14 : decode cX3_kept 14 = .ok (.ifCond .ne 12, 3) := by decide +kernel
theorem dX3_kept_17 : decode cX3_kept 17 = .ok (.aload_n 0, 1) := by decide +kernel
theorem dX3_kept_18 : decode cX3_kept 18 = .ok (.iload_n 1, 1) := by decide +kernel
theorem dX3_kept_19 : decode cX3_kept 19 = .ok (.iload_n 2, 1) := by decide +kernel
theorem dX3_kept_20 : decode cX3_kept 20 = .ok (.invokevirtual 124, 3) := by decide +kernel
theorem dX3_kept_23 : decode cX3_kept 23 = .ok (.goto 4, 3) := by decide +kernel
theorem dX3_kept_26 : decode cX3_kept 26 = .ok (.iconst 0, 1) := by decide +kernel
theorem dX3_kept_27 : decode cX3_kept 27 = .ok (.ireturn, 1) := by decide +kernel
set_option maxRecDepth 20000 in
theorem ggX3_keepers_X3_isId : GoodIn wsX3_keepers wsX3_isId := goodIn_r _ [7] (by decide +kernel) (by decide +kernel)
set_option maxRecDepth 20000 in
theorem gX3_keepers_X3_isId : GoodIn wsX3_keepers (va_wsS RX3 67 yX3_isId wsX3_isId) := goodIn_app (goodIn_of _ (by decide +kernel)) ggX3_keepers_X3_isId
set_option maxRecDepth 20000 in
theorem ggX3_keepers_X3_fails : GoodIn wsX3_keepers wsX3_fails := goodIn_r _ [11, 1, 12, 13, 14, 15, 16, 17, 18, 19, 20, 21, 22, 23, 24] (by decide +kernel) (by decide +kernel)
set_option maxRecDepth 20000 in
theorem gX3_keepers_X3_fails : GoodIn wsX3_keepers (wsV RX3 71 RX3 yX3_fails wsX3_fails) := goodIn_app (goodIn_of _ (by decide +kernel)) ggX3_keepers_X3_fails
theorem dX3_keepers_0 : decode cX3_keepers 0 = .ok (.aload_n 0, 1) := by decide +kernel
theorem dX3_keepers_1 : decode cX3_keepers 1 = .ok (.iconst 0, 1) := by decide +kernel
theorem dX3_keepers_2 : decode cX3_keepers 2 = .ok (.putfield 41, 3) := by decide +kernel
theorem dX3_keepers_5 : decode cX3_keepers 5 = .ok (.iload_n 1, 1) := by decide +kernel
theorem dX3_keepers_6 : decode cX3_keepers 6 = .ok (.invokestatic 67, 3) := by decide +kernel
theorem dX3_keepers_9 : decode cX3_keepers 9 = .ok (.ifCond .ne 9, 3) := by decide +kernel
theorem dX3_keepers_12 : decode cX3_keepers 12 = .ok (.aload_n 0, 1) := by decide +kernel
theorem dX3_keepers_13 : decode cX3_keepers 13 = .ok (.iconst 1, 1) := by decide +kernel
theorem dX3_keepers_14 : decode cX3_keepers 14 = .ok (.invokevirtual 71, 3) := by decide +kernel
theorem dX3_keepers_17 : decode cX3_keepers 17 = .ok (.ireturn, 1) := by decide +kernel
theorem dX3_keepers_18 : decode cX3_keepers 18 = .ok (.iconst 0, 1) := by decide +kernel
theorem dX3_keepers_19 : decode cX3_keepers 19 = .ok (.istore_n 2, 1) := by decide +kernel
theorem dX3_keepers_20 : decode cX3_keepers 20 = .ok (.iconst 0, 1) := by decide +kernel
theorem dX3_keepers_21 : decode cX3_keepers 21 = .ok (.istore_n 3, 1) := by decide +kernel
theorem dX3_keepers_22 : decode cX3_keepers 22 = .ok (.iload_n 3, 1) := by decide +kernel
theorem dX3_keepers_23 : decode cX3_keepers 23 = .ok (.bipush 64, 2) := by decide +kernel
theorem dX3_keepers_25 : decode cX3_keepers 25 = .ok (.if_icmp .ge 40, 3) := by decide +kernel
theorem dX3_keepers_28 : decode cX3_keepers 28 = .ok (.iload_n 2, 1) := by decide +kernel
theorem dX3_keepers_29 : decode cX3_keepers 29 = .ok (.aload_n 0, 1) := by decide +kernel
theorem dX3_keepers_30 : decode cX3_keepers 30 = .ok (.getfield 7, 3) := by decide +kernel
theorem dX3_keepers_33 : decode cX3_keepers 33 = .ok (.iload_n 3, 1) := by decide +kernel
theorem dX3_keepers_34 : decode cX3_keepers 34 = .ok (.baload, 1) := by decide +kernel
theorem dX3_keepers_35 : decode cX3_keepers 35 = .ok (.ifCond .eq 21, 3) := by decide +kernel
theorem dX3_keepers_38 : decode cX3_keepers 38 = .ok (.aload_n 0, 1) := by decide +kernel
theorem dX3_keepers_39 : decode cX3_keepers 39 = .ok (.getfield 26, 3) := by decide +kernel
theorem dX3_keepers_42 : decode cX3_keepers 42 = .ok (.bipush 64, 2) := by decide +kernel
theorem dX3_keepers_44 : decode cX3_keepers 44 = .ok (.iload_n 3, 1) := by decide +kernel
theorem dX3_keepers_45 : decode cX3_keepers 45 = .ok (.imul, 1) := by decide +kernel
theorem dX3_keepers_46 : decode cX3_keepers 46 = .ok (.iload_n 1, 1) := by decide +kernel
theorem dX3_keepers_47 : decode cX3_keepers 47 = .ok (.iadd, 1) := by decide +kernel
theorem dX3_keepers_48 : decode cX3_keepers 48 = .ok (.iaload, 1) := by decide +kernel
theorem dX3_keepers_49 : decode cX3_keepers 49 = .ok (.ifCond .le 7, 3) := by decide +kernel
theorem dX3_keepers_52 : decode cX3_keepers 52 = .ok (.iconst 1, 1) := by decide +kernel
theorem dX3_keepers_53 : decode cX3_keepers 53 = .ok (.goto 4, 3) := by decide +kernel
theorem dX3_keepers_56 : decode cX3_keepers 56 = .ok (.iconst 0, 1) := by decide +kernel
theorem dX3_keepers_57 : decode cX3_keepers 57 = .ok (.iadd, 1) := by decide +kernel
theorem dX3_keepers_58 : decode cX3_keepers 58 = .ok (.istore_n 2, 1) := by decide +kernel
theorem dX3_keepers_59 : decode cX3_keepers 59 = .ok (.iinc 3 1, 3) := by decide +kernel
theorem dX3_keepers_62 : decode cX3_keepers 62 = .ok (.goto (-40), 3) := by decide +kernel
theorem dX3_keepers_65 : decode cX3_keepers 65 = .ok (.iload_n 2, 1) := by decide +kernel
theorem dX3_keepers_66 : decode cX3_keepers 66 = .ok (.ireturn, 1) := by decide +kernel
theorem dX3_ownerOf_0 : decode cX3_ownerOf 0 = .ok (.iconst (-1), 1) := by decide +kernel
theorem dX3_ownerOf_1 : decode cX3_ownerOf 1 = .ok (.istore_n 2, 1) := by decide +kernel
theorem dX3_ownerOf_2 : decode cX3_ownerOf 2 = .ok (.bipush 63, 2) := by decide +kernel
theorem dX3_ownerOf_4 : decode cX3_ownerOf 4 = .ok (.istore_n 3, 1) := by decide +kernel
theorem dX3_ownerOf_5 : decode cX3_ownerOf 5 = .ok (.iload_n 3, 1) := by decide +kernel
theorem dX3_ownerOf_6 : decode cX3_ownerOf 6 = .ok (.ifCond .lt 34, 3) := by decide +kernel
theorem dX3_ownerOf_9 : decode cX3_ownerOf 9 = .ok (.aload_n 0, 1) := by decide +kernel
theorem dX3_ownerOf_10 : decode cX3_ownerOf 10 = .ok (.getfield 7, 3) := by decide +kernel
theorem dX3_ownerOf_13 : decode cX3_ownerOf 13 = .ok (.iload_n 1, 1) := by decide +kernel
theorem dX3_ownerOf_14 : decode cX3_ownerOf 14 = .ok (.iload_n 3, 1) := by decide +kernel
theorem dX3_ownerOf_15 : decode cX3_ownerOf 15 = .ok (.iadd, 1) := by decide +kernel
theorem dX3_ownerOf_16 : decode cX3_ownerOf 16 = .ok (.bipush 64, 2) := by decide +kernel
theorem dX3_ownerOf_18 : decode cX3_ownerOf 18 = .ok (.irem, 1) := by decide +kernel
theorem dX3_ownerOf_19 : decode cX3_ownerOf 19 = .ok (.baload, 1) := by decide +kernel
theorem dX3_ownerOf_20 : decode cX3_ownerOf 20 = .ok (.ifCond .eq 12, 3) := by decide +kernel
theorem dX3_ownerOf_23 : decode cX3_ownerOf 23 = .ok (.iload_n 1, 1) := by decide +kernel
theorem dX3_ownerOf_24 : decode cX3_ownerOf 24 = .ok (.iload_n 3, 1) := by decide +kernel
theorem dX3_ownerOf_25 : decode cX3_ownerOf 25 = .ok (.iadd, 1) := by decide +kernel
theorem dX3_ownerOf_26 : decode cX3_ownerOf 26 = .ok (.bipush 64, 2) := by decide +kernel
theorem dX3_ownerOf_28 : decode cX3_ownerOf 28 = .ok (.irem, 1) := by decide +kernel
theorem dX3_ownerOf_29 : decode cX3_ownerOf 29 = .ok (.goto 4, 3) := by decide +kernel
theorem dX3_ownerOf_32 : decode cX3_ownerOf 32 = .ok (.iload_n 2, 1) := by decide +kernel
theorem dX3_ownerOf_33 : decode cX3_ownerOf 33 = .ok (.istore_n 2, 1) := by decide +kernel
theorem dX3_ownerOf_34 : decode cX3_ownerOf 34 = .ok (.iinc 3 (-1), 3) := by decide +kernel
theorem dX3_ownerOf_37 : decode cX3_ownerOf 37 = .ok (.goto (-32), 3) := by decide +kernel
theorem dX3_ownerOf_40 : decode cX3_ownerOf 40 = .ok (.iload_n 2, 1) := by decide +kernel
theorem dX3_ownerOf_41 : decode cX3_ownerOf 41 = .ok (.ireturn, 1) := by decide +kernel
theorem dX3_before_0 : decode cX3_before 0 = .ok (.iload_n 1, 1) := by decide +kernel
theorem dX3_before_1 : decode cX3_before 1 = .ok (.istore_n 2, 1) := by decide +kernel
theorem dX3_before_2 : decode cX3_before 2 = .ok (.bipush 64, 2) := by decide +kernel
theorem dX3_before_4 : decode cX3_before 4 = .ok (.istore_n 3, 1) := by decide +kernel
theorem dX3_before_5 : decode cX3_before 5 = .ok (.iload_n 3, 1) := by decide +kernel
theorem dX3_before_6 : decode cX3_before 6 = .ok (.ifCond .le 40, 3) := by decide +kernel
theorem dX3_before_9 : decode cX3_before 9 = .ok (.aload_n 0, 1) := by decide +kernel
theorem dX3_before_10 : decode cX3_before 10 = .ok (.getfield 7, 3) := by decide +kernel
theorem dX3_before_13 : decode cX3_before 13 = .ok (.iload_n 1, 1) := by decide +kernel
theorem dX3_before_14 : decode cX3_before 14 = .ok (.bipush 64, 2) := by decide +kernel
theorem dX3_before_16 : decode cX3_before 16 = .ok (.iadd, 1) := by decide +kernel
theorem dX3_before_17 : decode cX3_before 17 = .ok (.iload_n 3, 1) := by decide +kernel
theorem dX3_before_18 : decode cX3_before 18 = .ok (.isub, 1) := by decide +kernel
theorem dX3_before_19 : decode cX3_before 19 = .ok (.bipush 64, 2) := by decide +kernel
theorem dX3_before_21 : decode cX3_before 21 = .ok (.irem, 1) := by decide +kernel
theorem dX3_before_22 : decode cX3_before 22 = .ok (.baload, 1) := by decide +kernel
theorem dX3_before_23 : decode cX3_before 23 = .ok (.ifCond .eq 15, 3) := by decide +kernel
theorem dX3_before_26 : decode cX3_before 26 = .ok (.iload_n 1, 1) := by decide +kernel
theorem dX3_before_27 : decode cX3_before 27 = .ok (.bipush 64, 2) := by decide +kernel
theorem dX3_before_29 : decode cX3_before 29 = .ok (.iadd, 1) := by decide +kernel
theorem dX3_before_30 : decode cX3_before 30 = .ok (.iload_n 3, 1) := by decide +kernel
theorem dX3_before_31 : decode cX3_before 31 = .ok (.isub, 1) := by decide +kernel
theorem dX3_before_32 : decode cX3_before 32 = .ok (.bipush 64, 2) := by decide +kernel
theorem dX3_before_34 : decode cX3_before 34 = .ok (.irem, 1) := by decide +kernel
theorem dX3_before_35 : decode cX3_before 35 = .ok (.goto 4, 3) := by decide +kernel
theorem dX3_before_38 : decode cX3_before 38 = .ok (.iload_n 2, 1) := by decide +kernel
theorem dX3_before_39 : decode cX3_before 39 = .ok (.istore_n 2, 1) := by decide +kernel
theorem dX3_before_40 : decode cX3_before 40 = .ok (.iinc 3 (-1), 3) := by decide +kernel
theorem dX3_before_43 : decode cX3_before 43 = .ok (.goto (-38), 3) := by decide +kernel
theorem dX3_before_46 : decode cX3_before 46 = .ok (.iload_n 2, 1) := by decide +kernel
theorem dX3_before_47 : decode cX3_before 47 = .ok (.ireturn, 1) := by decide +kernel
set_option maxRecDepth 20000 in
theorem ggX3_wrongOf_X3_liveSuccessorOf : GoodIn wsX3_wrongOf wsX3_liveSuccessorOf := goodIn_r _ [7, 8, 9, 18, 19, 20, 21, 22, 23, 24, 25, 26, 27, 28, 29, 30] (by decide +kernel) (by decide +kernel)
set_option maxRecDepth 20000 in
theorem gX3_wrongOf_X3_liveSuccessorOf : GoodIn wsX3_wrongOf (wsV RX3 56 RX3 yX3_liveSuccessorOf wsX3_liveSuccessorOf) := goodIn_app (goodIn_of _ (by decide +kernel)) ggX3_wrongOf_X3_liveSuccessorOf
set_option maxRecDepth 20000 in
theorem ggX3_wrongOf_X3_ownerOf : GoodIn wsX3_wrongOf wsX3_ownerOf := goodIn_r _ [13, 8, 18, 19, 20, 21, 22, 23, 24, 25, 26, 27, 28, 29, 30] (by decide +kernel) (by decide +kernel)
set_option maxRecDepth 20000 in
theorem gX3_wrongOf_X3_ownerOf : GoodIn wsX3_wrongOf (wsV RX3 127 RX3 yX3_ownerOf wsX3_ownerOf) := goodIn_app (goodIn_of _ (by decide +kernel)) ggX3_wrongOf_X3_ownerOf
set_option maxRecDepth 20000 in
theorem ggX3_wrongOf_X3_before : GoodIn wsX3_wrongOf wsX3_before := goodIn_r _ [17, 8, 18, 19, 20, 21, 22, 23, 24, 25, 26, 27, 28, 29, 30] (by decide +kernel) (by decide +kernel)
set_option maxRecDepth 20000 in
theorem gX3_wrongOf_X3_before : GoodIn wsX3_wrongOf (wsV RX3 130 RX3 yX3_before wsX3_before) := goodIn_app (goodIn_of _ (by decide +kernel)) ggX3_wrongOf_X3_before
theorem dX3_wrongOf_0 : decode cX3_wrongOf 0 = .ok (.aload_n 0, 1) := by decide +kernel
theorem dX3_wrongOf_1 : decode cX3_wrongOf 1 = .ok (.iload_n 1, 1) := by decide +kernel
theorem dX3_wrongOf_2 : decode cX3_wrongOf 2 = .ok (.invokevirtual 56, 3) := by decide +kernel
theorem dX3_wrongOf_5 : decode cX3_wrongOf 5 = .ok (.aload_n 0, 1) := by decide +kernel
theorem dX3_wrongOf_6 : decode cX3_wrongOf 6 = .ok (.iload_n 1, 1) := by decide +kernel
theorem dX3_wrongOf_7 : decode cX3_wrongOf 7 = .ok (.iconst 1, 1) := by decide +kernel
theorem dX3_wrongOf_8 : decode cX3_wrongOf 8 = .ok (.iadd, 1) := by decide +kernel
theorem dX3_wrongOf_9 : decode cX3_wrongOf 9 = .ok (.bipush 64, 2) := by decide +kernel
theorem dX3_wrongOf_11 : decode cX3_wrongOf 11 = .ok (.irem, 1) := by decide +kernel
theorem dX3_wrongOf_12 : decode cX3_wrongOf 12 = .ok (.invokevirtual 127, 3) := by decide +kernel
theorem dX3_wrongOf_15 : decode cX3_wrongOf 15 = .ok (.if_icmp .ne 7, 3) := by decide +kernel
theorem dX3_wrongOf_18 : decode cX3_wrongOf 18 = .ok (.iconst 0, 1) := by decide +kernel
theorem dX3_wrongOf_19 : decode cX3_wrongOf 19 = .ok (.goto 4, 3) := by decide +kernel
theorem dX3_wrongOf_22 : decode cX3_wrongOf 22 = .ok (.iconst 1, 1) := by decide +kernel
theorem dX3_wrongOf_23 : decode cX3_wrongOf 23 = .ok (.istore_n 2, 1) := by decide +kernel
theorem dX3_wrongOf_24 : decode cX3_wrongOf 24 = .ok (.iload_n 2, 1) := by decide +kernel
theorem dX3_wrongOf_25 : decode cX3_wrongOf 25 = .ok (.aload_n 0, 1) := by decide +kernel
theorem dX3_wrongOf_26 : decode cX3_wrongOf 26 = .ok (.getfield 17, 3) := by decide +kernel
theorem dX3_wrongOf_29 : decode cX3_wrongOf 29 = .ok (.iload_n 1, 1) := by decide +kernel
theorem dX3_wrongOf_30 : decode cX3_wrongOf 30 = .ok (.iaload, 1) := by decide +kernel
theorem dX3_wrongOf_31 : decode cX3_wrongOf 31 = .ok (.aload_n 0, 1) := by decide +kernel
theorem dX3_wrongOf_32 : decode cX3_wrongOf 32 = .ok (.iload_n 1, 1) := by decide +kernel
theorem dX3_wrongOf_33 : decode cX3_wrongOf 33 = .ok (.invokevirtual 130, 3) := by decide +kernel
theorem dX3_wrongOf_36 : decode cX3_wrongOf 36 = .ok (.if_icmp .ne 7, 3) := by decide +kernel
theorem dX3_wrongOf_39 : decode cX3_wrongOf 39 = .ok (.iconst 0, 1) := by decide +kernel
theorem dX3_wrongOf_40 : decode cX3_wrongOf 40 = .ok (.goto 4, 3) := by decide +kernel
theorem dX3_wrongOf_43 : decode cX3_wrongOf 43 = .ok (.iconst 1, 1) := by decide +kernel
theorem dX3_wrongOf_44 : decode cX3_wrongOf 44 = .ok (.iadd, 1) := by decide +kernel
theorem dX3_wrongOf_45 : decode cX3_wrongOf 45 = .ok (.istore_n 2, 1) := by decide +kernel
theorem dX3_wrongOf_46 : decode cX3_wrongOf 46 = .ok (.iconst 0, 1) := by decide +kernel
theorem dX3_wrongOf_47 : decode cX3_wrongOf 47 = .ok (.istore_n 3, 1) := by decide +kernel
theorem dX3_wrongOf_48 : decode cX3_wrongOf 48 = .ok (.iload_n 3, 1) := by decide +kernel
theorem dX3_wrongOf_49 : decode cX3_wrongOf 49 = .ok (.bipush 6, 2) := by decide +kernel
theorem dX3_wrongOf_51 : decode cX3_wrongOf 51 = .ok (.if_icmp .ge 43, 3) := by decide +kernel
theorem dX3_wrongOf_54 : decode cX3_wrongOf 54 = .ok (.iload_n 2, 1) := by decide +kernel
theorem dX3_wrongOf_55 : decode cX3_wrongOf 55 = .ok (.aload_n 0, 1) := by decide +kernel
theorem dX3_wrongOf_56 : decode cX3_wrongOf 56 = .ok (.getfield 20, 3) := by decide +kernel
theorem dX3_wrongOf_59 : decode cX3_wrongOf 59 = .ok (.bipush 6, 2) := by decide +kernel
theorem dX3_wrongOf_61 : decode cX3_wrongOf 61 = .ok (.iload_n 1, 1) := by decide +kernel
theorem dX3_wrongOf_62 : decode cX3_wrongOf 62 = .ok (.imul, 1) := by decide +kernel
theorem dX3_wrongOf_63 : decode cX3_wrongOf 63 = .ok (.iload_n 3, 1) := by decide +kernel
theorem dX3_wrongOf_64 : decode cX3_wrongOf 64 = .ok (.iadd, 1) := by decide +kernel
theorem dX3_wrongOf_65 : decode cX3_wrongOf 65 = .ok (.iaload, 1) := by decide +kernel
theorem dX3_wrongOf_66 : decode cX3_wrongOf 66 = .ok (.aload_n 0, 1) := by decide +kernel
theorem dX3_wrongOf_67 : decode cX3_wrongOf 67 = .ok (.iload_n 1, 1) := by decide +kernel
theorem dX3_wrongOf_68 : decode cX3_wrongOf 68 = .ok (.iconst 1, 1) := by decide +kernel
theorem dX3_wrongOf_69 : decode cX3_wrongOf 69 = .ok (.iload_n 3, 1) := by decide +kernel
theorem dX3_wrongOf_70 : decode cX3_wrongOf 70 = .ok (.ishl, 1) := by decide +kernel
theorem dX3_wrongOf_71 : decode cX3_wrongOf 71 = .ok (.iadd, 1) := by decide +kernel
theorem dX3_wrongOf_72 : decode cX3_wrongOf 72 = .ok (.bipush 64, 2) := by decide +kernel
theorem dX3_wrongOf_74 : decode cX3_wrongOf 74 = .ok (.irem, 1) := by decide +kernel
theorem dX3_wrongOf_75 : decode cX3_wrongOf 75 = .ok (.invokevirtual 127, 3) := by decide +kernel
theorem dX3_wrongOf_78 : decode cX3_wrongOf 78 = .ok (.if_icmp .ne 7, 3) := by decide +kernel
theorem dX3_wrongOf_81 : decode cX3_wrongOf 81 = .ok (.iconst 0, 1) := by decide +kernel
theorem dX3_wrongOf_82 : decode cX3_wrongOf 82 = .ok (.goto 4, 3) := by decide +kernel
theorem dX3_wrongOf_85 : decode cX3_wrongOf 85 = .ok (.iconst 1, 1) := by decide +kernel
theorem dX3_wrongOf_86 : decode cX3_wrongOf 86 = .ok (.iadd, 1) := by decide +kernel
theorem dX3_wrongOf_87 : decode cX3_wrongOf 87 = .ok (.istore_n 2, 1) := by decide +kernel
theorem dX3_wrongOf_88 : decode cX3_wrongOf 88 = .ok (.iinc 3 1, 3) := by decide +kernel
theorem dX3_wrongOf_91 : decode cX3_wrongOf 91 = .ok (.goto (-43), 3) := by decide +kernel
theorem dX3_wrongOf_94 : decode cX3_wrongOf 94 = .ok (.iload_n 2, 1) := by decide +kernel
theorem dX3_wrongOf_95 : decode cX3_wrongOf 95 = .ok (.ireturn, 1) := by decide +kernel
set_option maxRecDepth 20000 in
theorem ggX3_countWrong_X3_wrongOf : GoodIn wsX3_countWrong wsX3_wrongOf := goodIn_r _ [6, 7, 8, 9, 10, 11, 5, 12, 1, 13, 14, 15, 16, 17, 18, 19, 20, 21, 22, 23, 24, 25, 26, 27, 28, 29, 30, 31, 32, 33, 34] (by decide +kernel) (by decide +kernel)
set_option maxRecDepth 20000 in
theorem gX3_countWrong_X3_wrongOf : GoodIn wsX3_countWrong (wsV RX3 133 RX3 yX3_wrongOf wsX3_wrongOf) := goodIn_app (goodIn_of _ (by decide +kernel)) ggX3_countWrong_X3_wrongOf
theorem dX3_countWrong_0 : decode cX3_countWrong 0 = .ok (.iconst 0, 1) := by decide +kernel
theorem dX3_countWrong_1 : decode cX3_countWrong 1 = .ok (.istore_n 1, 1) := by decide +kernel
theorem dX3_countWrong_2 : decode cX3_countWrong 2 = .ok (.iconst 0, 1) := by decide +kernel
theorem dX3_countWrong_3 : decode cX3_countWrong 3 = .ok (.istore_n 2, 1) := by decide +kernel
theorem dX3_countWrong_4 : decode cX3_countWrong 4 = .ok (.iload_n 2, 1) := by decide +kernel
theorem dX3_countWrong_5 : decode cX3_countWrong 5 = .ok (.bipush 64, 2) := by decide +kernel
theorem dX3_countWrong_7 : decode cX3_countWrong 7 = .ok (.if_icmp .ge 30, 3) := by decide +kernel
theorem dX3_countWrong_10 : decode cX3_countWrong 10 = .ok (.iload_n 1, 1) := by decide +kernel
theorem dX3_countWrong_11 : decode cX3_countWrong 11 = .ok (.aload_n 0, 1) := by decide +kernel
theorem dX3_countWrong_12 : decode cX3_countWrong 12 = .ok (.getfield 7, 3) := by decide +kernel
theorem dX3_countWrong_15 : decode cX3_countWrong 15 = .ok (.iload_n 2, 1) := by decide +kernel
theorem dX3_countWrong_16 : decode cX3_countWrong 16 = .ok (.baload, 1) := by decide +kernel
theorem dX3_countWrong_17 : decode cX3_countWrong 17 = .ok (.ifCond .eq 11, 3) := by decide +kernel
theorem dX3_countWrong_20 : decode cX3_countWrong 20 = .ok (.aload_n 0, 1) := by decide +kernel
theorem dX3_countWrong_21 : decode cX3_countWrong 21 = .ok (.iload_n 2, 1) := by decide +kernel
theorem dX3_countWrong_22 : decode cX3_countWrong 22 = .ok (.invokevirtual 133, 3) := by decide +kernel
theorem dX3_countWrong_25 : decode cX3_countWrong 25 = .ok (.goto 4, 3) := by decide +kernel
theorem dX3_countWrong_28 : decode cX3_countWrong 28 = .ok (.iconst 0, 1) := by decide +kernel
theorem dX3_countWrong_29 : decode cX3_countWrong 29 = .ok (.iadd, 1) := by decide +kernel
theorem dX3_countWrong_30 : decode cX3_countWrong 30 = .ok (.istore_n 1, 1) := by decide +kernel
theorem dX3_countWrong_31 : decode cX3_countWrong 31 = .ok (.iinc 2 1, 3) := by decide +kernel
theorem dX3_countWrong_34 : decode cX3_countWrong 34 = .ok (.goto (-30), 3) := by decide +kernel
theorem dX3_countWrong_37 : decode cX3_countWrong 37 = .ok (.iload_n 1, 1) := by decide +kernel
theorem dX3_countWrong_38 : decode cX3_countWrong 38 = .ok (.ireturn, 1) := by decide +kernel
set_option maxRecDepth 20000 in
theorem ggX3_owner_X3_isId : GoodIn wsX3_owner wsX3_isId := goodIn_r _ [5] (by decide +kernel) (by decide +kernel)
set_option maxRecDepth 20000 in
theorem gX3_owner_X3_isId : GoodIn wsX3_owner (va_wsS RX3 67 yX3_isId wsX3_isId) := goodIn_app (goodIn_of _ (by decide +kernel)) ggX3_owner_X3_isId
set_option maxRecDepth 20000 in
theorem ggX3_owner_X3_ownerOf : GoodIn wsX3_owner wsX3_ownerOf := goodIn_r _ [9, 10, 15, 16, 17, 18, 19, 20, 21, 22, 23, 24, 25, 26, 27] (by decide +kernel) (by decide +kernel)
set_option maxRecDepth 20000 in
theorem gX3_owner_X3_ownerOf : GoodIn wsX3_owner (wsV RX3 127 RX3 yX3_ownerOf wsX3_ownerOf) := goodIn_app (goodIn_of _ (by decide +kernel)) ggX3_owner_X3_ownerOf
set_option maxRecDepth 20000 in
theorem ggX3_owner_X3_fails : GoodIn wsX3_owner wsX3_fails := goodIn_r _ [14, 1, 15, 16, 17, 18, 19, 20, 21, 22, 23, 24, 25, 26, 27] (by decide +kernel) (by decide +kernel)
set_option maxRecDepth 20000 in
theorem gX3_owner_X3_fails : GoodIn wsX3_owner (wsV RX3 71 RX3 yX3_fails wsX3_fails) := goodIn_app (goodIn_of _ (by decide +kernel)) ggX3_owner_X3_fails
theorem dX3_owner_0 : decode cX3_owner 0 = .ok (.aload_n 0, 1) := by decide +kernel
theorem dX3_owner_1 : decode cX3_owner 1 = .ok (.iconst 0, 1) := by decide +kernel
theorem dX3_owner_2 : decode cX3_owner 2 = .ok (.putfield 41, 3) := by decide +kernel
theorem dX3_owner_5 : decode cX3_owner 5 = .ok (.iload_n 1, 1) := by decide +kernel
theorem dX3_owner_6 : decode cX3_owner 6 = .ok (.invokestatic 67, 3) := by decide +kernel
theorem dX3_owner_9 : decode cX3_owner 9 = .ok (.ifCond .eq 11, 3) := by decide +kernel
theorem dX3_owner_12 : decode cX3_owner 12 = .ok (.aload_n 0, 1) := by decide +kernel
theorem dX3_owner_13 : decode cX3_owner 13 = .ok (.iload_n 1, 1) := by decide +kernel
theorem dX3_owner_14 : decode cX3_owner 14 = .ok (.invokevirtual 127, 3) := by decide +kernel
theorem dX3_owner_17 : decode cX3_owner 17 = .ok (.goto 8, 3) := by decide +kernel
theorem dX3_owner_20 : decode cX3_owner 20 = .ok (.aload_n 0, 1) := by decide +kernel
theorem dX3_owner_21 : decode cX3_owner 21 = .ok (.iconst 1, 1) := by decide +kernel
theorem dX3_owner_22 : decode cX3_owner 22 = .ok (.invokevirtual 71, 3) := by decide +kernel
theorem dX3_owner_25 : decode cX3_owner 25 = .ok (.ireturn, 1) := by decide +kernel
set_option maxRecDepth 20000 in
theorem ggX3_wrongPointers_X3_countWrong : GoodIn wsX3_wrongPointers wsX3_countWrong := goodIn_r _ [6, 7, 8, 9, 10, 5, 11, 12, 13, 14, 15, 16, 17, 18, 19, 20, 21, 22, 23, 24, 25, 26, 27, 28, 29, 30, 31, 32, 33, 34, 35, 36, 37, 38, 39] (by decide +kernel) (by decide +kernel)
set_option maxRecDepth 20000 in
theorem gX3_wrongPointers_X3_countWrong : GoodIn wsX3_wrongPointers (wsV RX3 115 RX3 yX3_countWrong wsX3_countWrong) := goodIn_app (goodIn_of _ (by decide +kernel)) ggX3_wrongPointers_X3_countWrong
theorem dX3_wrongPointers_0 : decode cX3_wrongPointers 0 = .ok (.aload_n 0, 1) := by decide +kernel
theorem dX3_wrongPointers_1 : decode cX3_wrongPointers 1 = .ok (.iconst 0, 1) := by decide +kernel
theorem dX3_wrongPointers_2 : decode cX3_wrongPointers 2 = .ok (.putfield 41, 3) := by decide +kernel
theorem dX3_wrongPointers_5 : decode cX3_wrongPointers 5 = .ok (.aload_n 0, 1) := by decide +kernel
theorem dX3_wrongPointers_6 : decode cX3_wrongPointers 6 = .ok (.invokevirtual 115, 3) := by decide +kernel
theorem dX3_wrongPointers_9 : decode cX3_wrongPointers 9 = .ok (.ireturn, 1) := by decide +kernel
theorem dX3_move_0 : decode cX3_move 0 = .ok (.iconst 0, 1) := by decide +kernel
theorem dX3_move_1 : decode cX3_move 1 = .ok (.istore_n 2, 1) := by decide +kernel
theorem dX3_move_2 : decode cX3_move 2 = .ok (.iload_n 2, 1) := by decide +kernel
theorem dX3_move_3 : decode cX3_move 3 = .ok (.aload_n 0, 1) := by decide +kernel
theorem dX3_move_4 : decode cX3_move 4 = .ok (.arraylength, 1) := by decide +kernel
theorem dX3_move_5 : decode cX3_move 5 = .ok (.if_icmp .ge 15, 3) := by decide +kernel
theorem dX3_move_8 : decode cX3_move 8 = .ok (.aload_n 1, 1) := by decide +kernel
theorem dX3_move_9 : decode cX3_move 9 = .ok (.iload_n 2, 1) := by decide +kernel
theorem dX3_move_10 : decode cX3_move 10 = .ok (.aload_n 0, 1) := by decide +kernel
theorem dX3_move_11 : decode cX3_move 11 = .ok (.iload_n 2, 1) := by decide +kernel
theorem dX3_move_12 : decode cX3_move 12 = .ok (.iaload, 1) := by decide +kernel
theorem dX3_move_13 : decode cX3_move 13 = .ok (.iastore, 1) := by decide +kernel
theorem dX3_move_14 : decode cX3_move 14 = .ok (.iinc 2 1, 3) := by decide +kernel
theorem dX3_move_17 : decode cX3_move 17 = .ok (.goto (-15), 3) := by decide +kernel
theorem dX3_move_20 : decode cX3_move 20 = .ok (.return_, 1) := by decide +kernel
set_option maxRecDepth 20000 in
theorem ggX3_roundsToRight_X3_fails : GoodIn wsX3_roundsToRight wsX3_fails := goodIn_r _ [12, 1, 90, 91, 92, 93, 94, 95, 96, 97, 98, 99, 100, 101, 102] (by decide +kernel) (by decide +kernel)
set_option maxRecDepth 20000 in
theorem gX3_roundsToRight_X3_fails : GoodIn wsX3_roundsToRight (wsV RX3 71 RX3 yX3_fails wsX3_fails) := goodIn_app (goodIn_of _ (by decide +kernel)) ggX3_roundsToRight_X3_fails
set_option maxRecDepth 20000 in
theorem ggX3_roundsToRight_X3_move : GoodIn wsX3_roundsToRight wsX3_move := goodIn_r _ [15] (by decide +kernel) (by decide +kernel)
set_option maxRecDepth 20000 in
theorem gX3_roundsToRight_X3_move : GoodIn wsX3_roundsToRight (va_wsS RX3 136 yX3_move wsX3_move) := goodIn_app (goodIn_of _ (by decide +kernel)) ggX3_roundsToRight_X3_move
set_option maxRecDepth 20000 in
theorem ggX3_roundsToRight_X3_countWrong : GoodIn wsX3_roundsToRight wsX3_countWrong := goodIn_r _ [19, 20, 21, 22, 23, 11, 24, 4, 6, 25, 26, 27, 28, 2, 29, 30, 31, 32, 33, 34, 35, 36, 90, 91, 92, 93, 94, 95, 96, 97, 98, 99, 100, 101, 102] (by decide +kernel) (by decide +kernel)
set_option maxRecDepth 20000 in
theorem gX3_roundsToRight_X3_countWrong : GoodIn wsX3_roundsToRight (wsV RX3 115 RX3 yX3_countWrong wsX3_countWrong) := goodIn_app (goodIn_of _ (by decide +kernel)) ggX3_roundsToRight_X3_countWrong
set_option maxRecDepth 20000 in
theorem ggX3_roundsToRight_X3_round : GoodIn wsX3_roundsToRight wsX3_round := goodIn_r _ [40, 20, 41, 42, 43, 11, 44, 4, 45, 46, 47, 48, 25, 26, 27, 28, 2, 49, 50, 51, 52, 53, 54, 55, 56, 57, 58, 59, 60, 61, 62, 63, 64, 65, 6, 66, 67, 68, 69, 70, 71, 72, 73, 74, 75, 76, 77, 78, 79, 80, 81, 82, 83, 84, 85, 86, 87, 88, 89, 90, 91, 92, 93, 94, 95, 96, 97, 98, 99, 100, 101, 102] (by decide +kernel) (by decide +kernel)
set_option maxRecDepth 20000 in
theorem gX3_roundsToRight_X3_round : GoodIn wsX3_roundsToRight (wsV RX3 111 RX3 yX3_round wsX3_round) := goodIn_app (goodIn_of _ (by decide +kernel)) ggX3_roundsToRight_X3_round
theorem dX3_roundsToRight_0 : decode cX3_roundsToRight 0 = .ok (.aload_n 0, 1) := by decide +kernel
theorem dX3_roundsToRight_1 : decode cX3_roundsToRight 1 = .ok (.iconst 0, 1) := by decide +kernel
theorem dX3_roundsToRight_2 : decode cX3_roundsToRight 2 = .ok (.putfield 41, 3) := by decide +kernel
theorem dX3_roundsToRight_5 : decode cX3_roundsToRight 5 = .ok (.iload_n 1, 1) := by decide +kernel
theorem dX3_roundsToRight_6 : decode cX3_roundsToRight 6 = .ok (.iconst 1, 1) := by decide +kernel
theorem dX3_roundsToRight_7 : decode cX3_roundsToRight 7 = .ok (.if_icmp .lt 9, 3) := by decide +kernel
theorem dX3_roundsToRight_10 : decode cX3_roundsToRight 10 = .ok (.iload_n 1, 1) := by decide +kernel
theorem dX3_roundsToRight_11 : decode cX3_roundsToRight 11 = .ok (.bipush 30, 2) := by decide +kernel
theorem dX3_roundsToRight_13 : decode cX3_roundsToRight 13 = .ok (.if_icmp .le 9, 3) := by decide +kernel
theorem dX3_roundsToRight_16 : decode cX3_roundsToRight 16 = .ok (.aload_n 0, 1) := by decide +kernel
theorem dX3_roundsToRight_17 : decode cX3_roundsToRight 17 = .ok (.iconst 1, 1) := by decide +kernel
theorem dX3_roundsToRight_18 : decode cX3_roundsToRight 18 = .ok (.invokevirtual 71, 3) := by decide +kernel
theorem dX3_roundsToRight_21 : decode cX3_roundsToRight 21 = .ok (.ireturn, 1) := by decide +kernel
theorem dX3_roundsToRight_22 : decode cX3_roundsToRight 22 = .ok (.aload_n 0, 1) := by decide +kernel
theorem dX3_roundsToRight_23 : decode cX3_roundsToRight 23 = .ok (.getfield 13, 3) := by decide +kernel
theorem dX3_roundsToRight_26 : decode cX3_roundsToRight 26 = .ok (.aload_n 0, 1) := by decide +kernel
theorem dX3_roundsToRight_27 : decode cX3_roundsToRight 27 = .ok (.getfield 32, 3) := by decide +kernel
theorem dX3_roundsToRight_30 : decode cX3_roundsToRight 30 = .ok (.invokestatic 136, 3) := by decide +kernel
theorem dX3_roundsToRight_33 : decode cX3_roundsToRight 33 = .ok (.aload_n 0, 1) := by decide +kernel
theorem dX3_roundsToRight_34 : decode cX3_roundsToRight 34 = .ok (.getfield 17, 3) := by decide +kernel
theorem dX3_roundsToRight_37 : decode cX3_roundsToRight 37 = .ok (.aload_n 0, 1) := by decide +kernel
theorem dX3_roundsToRight_38 : decode cX3_roundsToRight 38 = .ok (.getfield 35, 3) := by decide +kernel
theorem dX3_roundsToRight_41 : decode cX3_roundsToRight 41 = .ok (.invokestatic 136, 3) := by decide +kernel
theorem dX3_roundsToRight_44 : decode cX3_roundsToRight 44 = .ok (.aload_n 0, 1) := by decide +kernel
theorem dX3_roundsToRight_45 : decode cX3_roundsToRight 45 = .ok (.getfield 20, 3) := by decide +kernel
theorem dX3_roundsToRight_48 : decode cX3_roundsToRight 48 = .ok (.aload_n 0, 1) := by decide +kernel
theorem dX3_roundsToRight_49 : decode cX3_roundsToRight 49 = .ok (.getfield 38, 3) := by decide +kernel
theorem dX3_roundsToRight_52 : decode cX3_roundsToRight 52 = .ok (.invokestatic 136, 3) := by decide +kernel
theorem dX3_roundsToRight_55 : decode cX3_roundsToRight 55 = .ok (.iconst 0, 1) := by decide +kernel
theorem dX3_roundsToRight_56 : decode cX3_roundsToRight 56 = .ok (.istore_n 2, 1) := by decide +kernel
theorem dX3_roundsToRight_57 : decode cX3_roundsToRight 57 = .ok (.iload_n 2, 1) := by decide +kernel
theorem dX3_roundsToRight_58 : decode cX3_roundsToRight 58 = .ok (.iload_n 1, 1) := by decide +kernel
theorem dX3_roundsToRight_59 : decode cX3_roundsToRight 59 = .ok (.if_icmp .gt 26, 3) := by decide +kernel
theorem dX3_roundsToRight_62 : decode cX3_roundsToRight 62 = .ok (.aload_n 0, 1) := by decide +kernel
theorem dX3_roundsToRight_63 : decode cX3_roundsToRight 63 = .ok (.invokevirtual 115, 3) := by decide +kernel
theorem dX3_roundsToRight_66 : decode cX3_roundsToRight 66 = .ok (.ifCond .le 19, 3) := by decide +kernel
theorem dX3_roundsToRight_69 : decode cX3_roundsToRight 69 = .ok (.iinc 2 1, 3) := by decide +kernel
theorem dX3_roundsToRight_72 : decode cX3_roundsToRight 72 = .ok (.iload_n 2, 1) := by decide +kernel
theorem dX3_roundsToRight_73 : decode cX3_roundsToRight 73 = .ok (.iload_n 1, 1) := by decide +kernel
theorem dX3_roundsToRight_74 : decode cX3_roundsToRight 74 = .ok (.if_icmp .gt (-17), 3) := by decide +kernel
theorem dX3_roundsToRight_77 : decode cX3_roundsToRight 77 = .ok (.aload_n 0, 1) := by decide +kernel
theorem dX3_roundsToRight_78 : decode cX3_roundsToRight 78 = .ok (.iconst 0, 1) := by decide +kernel
theorem dX3_roundsToRight_79 : decode cX3_roundsToRight 79 = .ok (.invokevirtual 111, 3) := by decide +kernel
theorem dX3_roundsToRight_82 : decode cX3_roundsToRight 82 = .ok (.goto (-25), 3) := by decide +kernel
theorem dX3_roundsToRight_85 : decode cX3_roundsToRight 85 = .ok (.aload_n 0, 1) := by decide +kernel
theorem dX3_roundsToRight_86 : decode cX3_roundsToRight 86 = .ok (.getfield 32, 3) := by decide +kernel
theorem dX3_roundsToRight_89 : decode cX3_roundsToRight 89 = .ok (.aload_n 0, 1) := by decide +kernel
theorem dX3_roundsToRight_90 : decode cX3_roundsToRight 90 = .ok (.getfield 13, 3) := by decide +kernel
theorem dX3_roundsToRight_93 : decode cX3_roundsToRight 93 = .ok (.invokestatic 136, 3) := by decide +kernel
theorem dX3_roundsToRight_96 : decode cX3_roundsToRight 96 = .ok (.aload_n 0, 1) := by decide +kernel
theorem dX3_roundsToRight_97 : decode cX3_roundsToRight 97 = .ok (.getfield 35, 3) := by decide +kernel
theorem dX3_roundsToRight_100 : decode cX3_roundsToRight 100 = .ok (.aload_n 0, 1) := by decide +kernel
theorem dX3_roundsToRight_101 : decode cX3_roundsToRight 101 = .ok (.getfield 17, 3) := by decide +kernel
theorem dX3_roundsToRight_104 : decode cX3_roundsToRight 104 = .ok (.invokestatic 136, 3) := by decide +kernel
theorem dX3_roundsToRight_107 : decode cX3_roundsToRight 107 = .ok (.aload_n 0, 1) := by decide +kernel
theorem dX3_roundsToRight_108 : decode cX3_roundsToRight 108 = .ok (.getfield 38, 3) := by decide +kernel
theorem dX3_roundsToRight_111 : decode cX3_roundsToRight 111 = .ok (.aload_n 0, 1) := by decide +kernel
theorem dX3_roundsToRight_112 : decode cX3_roundsToRight 112 = .ok (.getfield 20, 3) := by decide +kernel
theorem dX3_roundsToRight_115 : decode cX3_roundsToRight 115 = .ok (.invokestatic 136, 3) := by decide +kernel
theorem dX3_roundsToRight_118 : decode cX3_roundsToRight 118 = .ok (.iload_n 2, 1) := by decide +kernel
theorem dX3_roundsToRight_119 : decode cX3_roundsToRight 119 = .ok (.iload_n 1, 1) := by decide +kernel
theorem dX3_roundsToRight_120 : decode cX3_roundsToRight 120 = .ok (.if_icmp .gt 7, 3) := by decide +kernel
theorem dX3_roundsToRight_123 : decode cX3_roundsToRight 123 = .ok (.iload_n 2, 1) := by decide +kernel
theorem dX3_roundsToRight_124 : decode cX3_roundsToRight 124 = .ok (.goto 4, 3) := by decide +kernel
theorem dX3_roundsToRight_127 : decode cX3_roundsToRight 127 = .ok (.iconst (-1), 1) := by decide +kernel
theorem dX3_roundsToRight_128 : decode cX3_roundsToRight 128 = .ok (.ireturn, 1) := by decide +kernel
theorem dJ9_max_7cf53_0 : decode cJ9_max_7cf53 0 = .ok (.iload_n 0, 1) := by decide +kernel
theorem dJ9_max_7cf53_1 : decode cJ9_max_7cf53 1 = .ok (.iload_n 1, 1) := by decide +kernel
theorem dJ9_max_7cf53_2 : decode cJ9_max_7cf53 2 = .ok (.if_icmp .lt 7, 3) := by decide +kernel
theorem dJ9_max_7cf53_5 : decode cJ9_max_7cf53 5 = .ok (.iload_n 0, 1) := by decide +kernel
theorem dJ9_max_7cf53_6 : decode cJ9_max_7cf53 6 = .ok (.goto 4, 3) := by decide +kernel
theorem dJ9_max_7cf53_9 : decode cJ9_max_7cf53 9 = .ok (.iload_n 1, 1) := by decide +kernel
theorem dJ9_max_7cf53_10 : decode cJ9_max_7cf53 10 = .ok (.ireturn, 1) := by decide +kernel
theorem dJ9_min_7cf53_0 : decode cJ9_min_7cf53 0 = .ok (.iload_n 0, 1) := by decide +kernel
theorem dJ9_min_7cf53_1 : decode cJ9_min_7cf53 1 = .ok (.iload_n 1, 1) := by decide +kernel
theorem dJ9_min_7cf53_2 : decode cJ9_min_7cf53 2 = .ok (.if_icmp .gt 7, 3) := by decide +kernel
theorem dJ9_min_7cf53_5 : decode cJ9_min_7cf53 5 = .ok (.iload_n 0, 1) := by decide +kernel
theorem dJ9_min_7cf53_6 : decode cJ9_min_7cf53 6 = .ok (.goto 4, 3) := by decide +kernel
theorem dJ9_min_7cf53_9 : decode cJ9_min_7cf53 9 = .ok (.iload_n 1, 1) := by decide +kernel
theorem dJ9_min_7cf53_10 : decode cJ9_min_7cf53 10 = .ok (.ireturn, 1) := by decide +kernel
theorem dJ7_fill_53178_0 : decode cJ7_fill_53178 0 = .ok (.iconst 0, 1) := by decide +kernel
theorem dJ7_fill_53178_1 : decode cJ7_fill_53178 1 = .ok (.istore_n 2, 1) := by decide +kernel
theorem dJ7_fill_53178_2 : decode cJ7_fill_53178 2 = .ok (.aload_n 0, 1) := by decide +kernel
theorem dJ7_fill_53178_3 : decode cJ7_fill_53178 3 = .ok (.arraylength, 1) := by decide +kernel
theorem dJ7_fill_53178_4 : decode cJ7_fill_53178 4 = .ok (.istore_n 3, 1) := by decide +kernel
theorem dJ7_fill_53178_5 : decode cJ7_fill_53178 5 = .ok (.iload_n 2, 1) := by decide +kernel
theorem dJ7_fill_53178_6 : decode cJ7_fill_53178 6 = .ok (.iload_n 3, 1) := by decide +kernel
theorem dJ7_fill_53178_7 : decode cJ7_fill_53178 7 = .ok (.if_icmp .ge 13, 3) := by decide +kernel
theorem dJ7_fill_53178_10 : decode cJ7_fill_53178 10 = .ok (.aload_n 0, 1) := by decide +kernel
theorem dJ7_fill_53178_11 : decode cJ7_fill_53178 11 = .ok (.iload_n 2, 1) := by decide +kernel
theorem dJ7_fill_53178_12 : decode cJ7_fill_53178 12 = .ok (.iload_n 1, 1) := by decide +kernel
theorem dJ7_fill_53178_13 : decode cJ7_fill_53178 13 = .ok (.iastore, 1) := by decide +kernel
theorem dJ7_fill_53178_14 : decode cJ7_fill_53178 14 = .ok (.iinc 2 1, 3) := by decide +kernel
theorem dJ7_fill_53178_17 : decode cJ7_fill_53178 17 = .ok (.goto (-12), 3) := by decide +kernel
theorem dJ7_fill_53178_20 : decode cJ7_fill_53178 20 = .ok (.return_, 1) := by decide +kernel
end
section
/-! the base layer of this claim: worlds, contracts of three forms (readers, writers without answer, writers with an int), rows for their calls and bodies -/
abbrev cG : Type := va_G × ClassId × ClassId × ClassId
abbrev tG (G : cG) : List (ClassId × FieldType) := [(G.2.1, .int), (G.2.2.1, .boolean), (G.2.2.2, .long)]
abbrev kG (G : cG) (U : State) : Prop := va_K G.1 vwCl (tG G) U
abbrev pG (G : cG) (w : va_W) (H : Heap) : Prop := va_P G.1 vwCl w H
/-- a reader: the heap stays, the answer is r -/
def MetR (l : Launch) (y : MethodName) (ws : List Cond) (rm : Room) (G : cG) (w : va_W) (av : List Value) (r : Int32) : Prop :=
  Met l y ws rm (va_Pc av (fun U => pG G w U.heap ∧ kG G U)) (QcRead r) 0 0 (fun _ => False)
/-- a writer without an answer -/
def MetV {S : Type} (l : Launch) (y : MethodName) (ws : List Cond) (rm : Room) (G : cG) (w0 : va_W) (av : List Value) (wf : S → va_W) (post : S → Prop) : Prop :=
  ∀ sz : Nat, Met l y ws rm (va_Pc av (fun U => U.heap.size = sz ∧ pG G w0 U.heap ∧ kG G U ∧ va_D (fun _ => True) w0)) (va_Qv post (fun u t => pG G (wf u) t.heap ∧ kG G t ∧ va_D (va_A w0 sz) (wf u)) (va_A w0 sz)) 0 0 (va_A w0 sz)
/-- a writer with an int or a boolean for its answer -/
def MetI {S : Type} (l : Launch) (y : MethodName) (ws : List Cond) (rm : Room) (G : cG) (w0 : va_W) (av : List Value) (wf : S → va_W) (post : Int32 → S → Prop) : Prop :=
  ∀ sz : Nat, Met l y ws rm (va_Pc av (fun U => U.heap.size = sz ∧ pG G w0 U.heap ∧ kG G U ∧ va_D (fun _ => True) w0)) (va_Qi post (fun u t => pG G (wf u) t.heap ∧ kG G t ∧ va_D (va_A w0 sz) (wf u)) (va_A w0 sz)) 0 0 (va_A w0 sz)
abbrev QR (below : List Frame) (r : Int32) (args : Array Value) (s : State) : State → Prop := MQ below (QcRead r) args s 0 0 (fun _ => False)
abbrev QV {S : Type} (below : List Frame) (G : cG) (A : Nat → Prop) (wf : S → va_W) (post : S → Prop) (args : Array Value) (s : State) : State → Prop := MQ below (va_Qv post (fun u t => pG G (wf u) t.heap ∧ kG G t ∧ va_D A (wf u)) A) args s 0 0 A
abbrev QI {S : Type} (below : List Frame) (G : cG) (A : Nat → Prop) (wf : S → va_W) (post : Int32 → S → Prop) (args : Array Value) (s : State) : State → Prop := MQ below (va_Qi post (fun u t => pG G (wf u) t.heap ∧ kG G t ∧ va_D A (wf u)) A) args s 0 0 A
def bI (b : Bool) : Int32 := if b = true then 1 else 0
theorem bI_t : bI true = 1 := rfl
theorem bI_f : bI false = 0 := rfl
theorem bI_nar (b : Bool) : narrow .boolean (.int (bI b)) = .int (bI b) := by cases b <;> rfl
theorem bI_0 {b : Bool} (h : bI b = 0) : b = false := by cases b <;> first | rfl | (exact absurd h (by decide))
theorem bI_1 {b : Bool} (h : ¬ bI b = 0) : b = true := by cases b <;> first | rfl | (exact absurd rfl h)
section COB
variable {p : Program} {l : Launch} {e : Env} {R : Room} {s : State} {m : MethodId} {args : Array Value} {below : List Frame} {meth : Method} {c : Code} {H : Heap} {locs : List Loc} {cells slots : Nat} {Q : State → Prop}
  {Ts ws ws' : List Cond} {cc bytes : ByteArray} {nL maxL index n pc : Nat} {own C : String} {y : MethodName} {ret : Option FieldType} {rm : Room}
  {b : Addr} {As rest st0 av : List Value} {ls : Array Slot} {G : cG} {w w0 : va_W} {r : Int32} {A : Nat → Prop}
theorem co_rV (S : CallFix p m c cc nL s args Ts own) (hM : MetR l y ws rm G w (.ref b :: As) r) (cw : CallW R s args own C index y bytes maxL ret ws rm 0 0 n) (hK : kG G s) (hP : pG G w H) (hr : ∃ cellB : Cell, H[b]? = some cellB ∧ cellB.vm.isStatics = false ∧ s.vm.findClass C = some cellB.cls) (hn : As.length = n) (hl : ls.size = nL) (hst : st0 = As.reverse ++ .ref b :: rest) (hW : (rest.map fun v => v.category).sum ≤ 8) (hdg : decode cc pc = .ok (.invokevirtual index, 3)) (hf : cells + 0 ≤ R.cells ∧ slots + 0 ≤ R.slots)
    (kk : W p l e R s m args below meth c H locs cells slots Q (F0 m (pc + 3) ls (.int r :: rest))) : W p l e R s m args below meth c H locs cells slots Q (F0 m pc ls st0) := by
  subst hst
  exact W.callR (W.runV S hM cw ⟨fun a U g mk q => by obtain ⟨q0, qP, qK⟩ := q; exact ⟨q0, qP, va_K.moved (u := U) (U := U.calling g mk a) (Vm.Alike.refl U.vm) qK⟩, hr, fun U hU hW => ⟨rfl, by rw [hU]; exact hP, va_K.moved hW.alike hK⟩⟩ rfl hn hl rfl (lv_room hW) hdg hf) kk
theorem co_rS (S : CallFix p m c cc nL s args Ts own) (hM : MetR l y ws rm G w As r) (cw : CallB R s args own index y bytes maxL ret ws rm 0 0 n ∧ (Cond.static y).before args s = true) (hK : kG G s) (hP : pG G w H) (hn : As.length = n) (hl : ls.size = nL) (hst : st0 = As.reverse ++ rest) (hW : (rest.map fun v => v.category).sum ≤ 8) (hdg : decode cc pc = .ok (.invokestatic index, 3)) (hf : cells + 0 ≤ R.cells ∧ slots + 0 ≤ R.slots)
    (kk : W p l e R s m args below meth c H locs cells slots Q (F0 m (pc + 3) ls (.int r :: rest))) : W p l e R s m args below meth c H locs cells slots Q (F0 m pc ls st0) := by
  subst hst
  exact W.callR (W.runS S hM cw ⟨fun a U g mk q => by obtain ⟨q0, qP, qK⟩ := q; exact ⟨q0, qP, va_K.moved (u := U) (U := U.calling g mk a) (Vm.Alike.refl U.vm) qK⟩, fun U hU hW => ⟨rfl, by rw [hU]; exact hP, va_K.moved hW.alike hK⟩⟩ rfl hn hl rfl (lv_room hW) hdg hf) kk
theorem co_mVi {S : Type} {wf : S → va_W} {post : Int32 → S → Prop} (S0 : CallFix p m c cc nL s args Ts own) (hM : MetI l y ws rm G w0 (.ref b :: As) wf post) (cw : CallW R s args own C index y bytes maxL ret ws rm 0 0 n) (hK : kG G s) (hP : pG G w0 H) (hD : va_D A w0) (hS : va_S A s.heap H locs) (hA : ∀ q, s.heap.size ≤ q → A q) (hr : ∃ cellB : Cell, H[b]? = some cellB ∧ cellB.vm.isStatics = false ∧ s.vm.findClass C = some cellB.cls) (hn : As.length = n) (hl : ls.size = nL) (hst : st0 = As.reverse ++ .ref b :: rest) (hW : (rest.map fun v => v.category).sum ≤ 8) (hdg : decode cc pc = .ok (.invokevirtual index, 3)) (hf : cells + 0 ≤ R.cells ∧ slots + 0 ≤ R.slots)
    (kk : ∀ (r : Int32) (u : S) (H1 : Heap) (locs1 : List Loc), post r u → pG G (wf u) H1 → va_D A (wf u) → va_S A s.heap H1 locs1 → W p l e R s m args below meth c H1 locs1 cells slots Q (F0 m (pc + 3) ls (.int r :: rest))) : W p l e R s m args below meth c H locs cells slots Q (F0 m pc ls st0) := by
  subst hst
  have hF : ∀ q, va_A w0 H.size q → A q := fun q h => h.elim (fun ⟨k, e, h⟩ => hD.2 k (q, e) h) (fun h => hA q (Nat.le_trans hS.1 h))
  refine va_calli (va_runV S0 (hM H.size) cw ⟨fun a U g mk q => by obtain ⟨q0, q1, qP, qK, qD⟩ := q; exact ⟨q0, q1, qP, va_K.moved (u := U) (U := U.calling g mk a) (Vm.Alike.refl U.vm) qK, qD⟩, hr, fun U hU hW => ⟨rfl, by rw [hU], by rw [hU]; exact hP, va_K.moved hW.alike hK, hD.weaken (fun _ _ _ _ => trivial)⟩⟩ rfl hn hl rfl (lv_room hW) hdg hf) hS (fun q _ h => hF q h) hF (fun r u t H1 locs1 ht hvm hw hB hz hk hS1 => ?_)
  obtain ⟨hP1, hK1, hD1⟩ := hB
  rw [ht] at hP1
  exact kk r u H1 locs1 hw hP1 (hD1.weaken (fun k q _ h => hF q.1 h)) hS1
theorem co_mVv {S : Type} {wf : S → va_W} {post : S → Prop} (S0 : CallFix p m c cc nL s args Ts own) (hM : MetV l y ws rm G w0 (.ref b :: As) wf post) (cw : CallW R s args own C index y bytes maxL ret ws rm 0 0 n) (hK : kG G s) (hP : pG G w0 H) (hD : va_D A w0) (hS : va_S A s.heap H locs) (hA : ∀ q, s.heap.size ≤ q → A q) (hr : ∃ cellB : Cell, H[b]? = some cellB ∧ cellB.vm.isStatics = false ∧ s.vm.findClass C = some cellB.cls) (hn : As.length = n) (hl : ls.size = nL) (hst : st0 = As.reverse ++ .ref b :: rest) (hW : (rest.map fun v => v.category).sum ≤ 8) (hdg : decode cc pc = .ok (.invokevirtual index, 3)) (hf : cells + 0 ≤ R.cells ∧ slots + 0 ≤ R.slots)
    (kk : ∀ (u : S) (H1 : Heap) (locs1 : List Loc), post u → pG G (wf u) H1 → va_D A (wf u) → va_S A s.heap H1 locs1 → W p l e R s m args below meth c H1 locs1 cells slots Q (F0 m (pc + 3) ls rest)) : W p l e R s m args below meth c H locs cells slots Q (F0 m pc ls st0) := by
  subst hst
  have hF : ∀ q, va_A w0 H.size q → A q := fun q h => h.elim (fun ⟨k, e, h⟩ => hD.2 k (q, e) h) (fun h => hA q (Nat.le_trans hS.1 h))
  refine va_callv (va_runV S0 (hM H.size) cw ⟨fun a U g mk q => by obtain ⟨q0, q1, qP, qK, qD⟩ := q; exact ⟨q0, q1, qP, va_K.moved (u := U) (U := U.calling g mk a) (Vm.Alike.refl U.vm) qK, qD⟩, hr, fun U hU hW => ⟨rfl, by rw [hU], by rw [hU]; exact hP, va_K.moved hW.alike hK, hD.weaken (fun _ _ _ _ => trivial)⟩⟩ rfl hn hl rfl (lv_room hW) hdg hf) hS (fun q _ h => hF q h) hF (fun u t H1 locs1 ht hvm hw hB hz hk hS1 => ?_)
  obtain ⟨hP1, hK1, hD1⟩ := hB
  rw [ht] at hP1
  exact kk u H1 locs1 hw hP1 (hD1.weaken (fun k q _ h => hF q.1 h)) hS1
/-- a part of a world in another order -/
theorem pG_perm {ws ws' : va_W} (h : pG G ws H) (is : List Nat) (hs : is.map (fun i => ws[i]?) = ws'.map some) : pG G ws' H := by
  intro k q hk
  have h1 : (is.map (fun i => ws[i]?))[k]? = some (some q) := by rw [hs, List.getElem?_map, hk]; rfl
  rw [List.getElem?_map] at h1
  cases hi : is[k]? with
  | none => rw [hi] at h1; cases h1
  | some i => rw [hi] at h1; exact h i q (Option.some.inj h1)
/-- a writer over a part of the world: the places isC; isR are the others; perm lays what came back in the world's order -/
theorem co_mVvS {S : Type} {wf w' : S → va_W} {wc wr : va_W} {post : S → Prop} (isC isR perm : List Nat) (S0 : CallFix p m c cc nL s args Ts own) (hM : MetV l y ws rm G wc (.ref b :: As) wf post) (cw : CallW R s args own C index y bytes maxL ret ws rm 0 0 n) (hK : kG G s) (hP : pG G w0 H) (hD : va_D A w0) (hS : va_S A s.heap H locs) (hA : ∀ q, s.heap.size ≤ q → A q)
    (hC : isC.map (fun i => w0[i]?) = wc.map some) (hR : isR.map (fun i => w0[i]?) = wr.map some) (hnC : va_nd isC = true) (hnR : va_nd isR = true) (hdis : ∀ i ∈ isR, i ∉ isC) (hnP : va_nd perm = true) (hp : ∀ u, perm.map (fun i => (wr ++ wf u)[i]?) = (w' u).map some)
    (hr : ∃ cellB : Cell, H[b]? = some cellB ∧ cellB.vm.isStatics = false ∧ s.vm.findClass C = some cellB.cls) (hn : As.length = n) (hl : ls.size = nL) (hst : st0 = As.reverse ++ .ref b :: rest) (hW : (rest.map fun v => v.category).sum ≤ 8) (hdg : decode cc pc = .ok (.invokevirtual index, 3)) (hf : cells + 0 ≤ R.cells ∧ slots + 0 ≤ R.slots)
    (kk : ∀ (u : S) (H1 : Heap) (locs1 : List Loc), post u → pG G (w' u) H1 → va_D A (w' u) → va_S A s.heap H1 locs1 → W p l e R s m args below meth c H1 locs1 cells slots Q (F0 m (pc + 3) ls rest)) : W p l e R s m args below meth c H locs cells slots Q (F0 m pc ls st0) := by
  subst hst
  have hPc := pG_perm hP isC hC
  have hDc := hD.sub isC hnC hC
  have hF : ∀ q, va_A wc H.size q → A q := va_free hD hS hA isC hC
  refine va_callv (va_runV S0 (hM H.size) cw ⟨fun a U g mk q => by obtain ⟨q0, q1, qP, qK, qD⟩ := q; exact ⟨q0, q1, qP, va_K.moved (u := U) (U := U.calling g mk a) (Vm.Alike.refl U.vm) qK, qD⟩, hr, fun U hU hW => ⟨rfl, by rw [hU], by rw [hU]; exact hPc, va_K.moved hW.alike hK, hDc.weaken (fun _ _ _ _ => trivial)⟩⟩ rfl hn hl rfl (lv_room hW) hdg hf) hS (fun q _ h => hF q h) hF (fun u t H1 locs1 ht hvm hw hB hz hk hS1 => ?_)
  obtain ⟨hP1, hK1, hD1⟩ := hB
  rw [ht] at hP1
  obtain ⟨hP2, hD2⟩ := va_join hP hD isC isR hC hR hnR hdis hk hF hP1 hD1
  exact kk u H1 locs1 hw (pG_perm hP2 perm (hp u)) (hD2.sub perm hnP (hp u)) hS1
theorem co_mSvS {S : Type} {wf w' : S → va_W} {wc wr : va_W} {post : S → Prop} (isC isR perm : List Nat) (S0 : CallFix p m c cc nL s args Ts own) (hM : MetV l y ws rm G wc As wf post) (cw : CallB R s args own index y bytes maxL ret ws rm 0 0 n ∧ (Cond.static y).before args s = true) (hK : kG G s) (hP : pG G w0 H) (hD : va_D A w0) (hS : va_S A s.heap H locs) (hA : ∀ q, s.heap.size ≤ q → A q)
    (hC : isC.map (fun i => w0[i]?) = wc.map some) (hR : isR.map (fun i => w0[i]?) = wr.map some) (hnC : va_nd isC = true) (hnR : va_nd isR = true) (hdis : ∀ i ∈ isR, i ∉ isC) (hnP : va_nd perm = true) (hp : ∀ u, perm.map (fun i => (wr ++ wf u)[i]?) = (w' u).map some)
    (hn : As.length = n) (hl : ls.size = nL) (hst : st0 = As.reverse ++ rest) (hW : (rest.map fun v => v.category).sum ≤ 8) (hdg : decode cc pc = .ok (.invokestatic index, 3)) (hf : cells + 0 ≤ R.cells ∧ slots + 0 ≤ R.slots)
    (kk : ∀ (u : S) (H1 : Heap) (locs1 : List Loc), post u → pG G (w' u) H1 → va_D A (w' u) → va_S A s.heap H1 locs1 → W p l e R s m args below meth c H1 locs1 cells slots Q (F0 m (pc + 3) ls rest)) : W p l e R s m args below meth c H locs cells slots Q (F0 m pc ls st0) := by
  subst hst
  have hPc := pG_perm hP isC hC
  have hDc := hD.sub isC hnC hC
  have hF : ∀ q, va_A wc H.size q → A q := va_free hD hS hA isC hC
  refine va_callv (va_runS S0 (hM H.size) cw ⟨fun a U g mk q => by obtain ⟨q0, q1, qP, qK, qD⟩ := q; exact ⟨q0, q1, qP, va_K.moved (u := U) (U := U.calling g mk a) (Vm.Alike.refl U.vm) qK, qD⟩, fun U hU hW => ⟨rfl, by rw [hU], by rw [hU]; exact hPc, va_K.moved hW.alike hK, hDc.weaken (fun _ _ _ _ => trivial)⟩⟩ rfl hn hl rfl (lv_room hW) hdg hf) hS (fun q _ h => hF q h) hF (fun u t H1 locs1 ht hvm hw hB hz hk hS1 => ?_)
  obtain ⟨hP1, hK1, hD1⟩ := hB
  rw [ht] at hP1
  obtain ⟨hP2, hD2⟩ := va_join hP hD isC isR hC hR hnR hdis hk hF hP1 hD1
  exact kk u H1 locs1 hw (pG_perm hP2 perm (hp u)) (hD2.sub perm hnP (hp u)) hS1
-- bodies
theorem co_bodyR (hy : plainName y.cls = true) (hw : ws = Cond.code y cc maxL ret :: ws') (hlen : (lg_sl av).length ≤ maxL)
    (body : ∀ (p : Program) (e : Env) (s : State) (m : MethodId) (args : Array Value) (below : List Frame) (meth : Method) (c : Code), CallFix p m c cc maxL s args ws y.cls → meth.sig.returnType = ret → meth.locks = false → kG G s → pG G w s.heap → ∀ ls, lv_has ls maxL (lv_args 0 av) → W p l e rm s m args below meth c s.heap [] 0 0 (MQ below (QcRead r) args s 0 0 (fun _ => False)) (F0 m 0 ls [])) : MetR l y ws rm G w av r := by
  refine Met.ofW (cc := cc) (maxL := maxL) (ret := ret) hy hw ?_
  intro p e s m args below meth c s₁ B hml hv
  obtain ⟨rfl, hP, hK⟩ := hv
  have hts := atoms_spec (ws := ws) B.pre
  have hl := lv_entry av (n := maxL) hlen
  rw [lg_entry_eq]
  generalize (lg_sl av ++ List.replicate (maxL - (lg_sl av).length) Slot.unset).toArray = ls at hl ⊢
  exact body p e s m _ below meth c ⟨B.exec, B.bytes, hml, findClass_of_methodNamed B.named, hts⟩ B.returns B.notSynchronized hK hP ls hl
theorem co_bodyV {S : Type} {wf : S → va_W} {post : S → Prop} (hy : plainName y.cls = true) (hw : ws = Cond.code y cc maxL ret :: ws') (hlen : (lg_sl av).length ≤ maxL)
    (body : ∀ (p : Program) (e : Env) (s : State) (m : MethodId) (args : Array Value) (below : List Frame) (meth : Method) (c : Code), CallFix p m c cc maxL s args ws y.cls → meth.sig.returnType = ret → meth.locks = false → kG G s → ∀ A : Nat → Prop, (∀ q, s.heap.size ≤ q → A q) → pG G w0 s.heap → va_D A w0 → va_S A s.heap s.heap [] → ∀ ls, lv_has ls maxL (lv_args 0 av) → W p l e rm s m args below meth c s.heap [] 0 0 (MQ below (va_Qv post (fun u t => pG G (wf u) t.heap ∧ kG G t ∧ va_D A (wf u)) A) args s 0 0 A) (F0 m 0 ls [])) : MetV l y ws rm G w0 av wf post := by
  intro sz
  refine Met.ofW (cc := cc) (maxL := maxL) (ret := ret) hy hw ?_
  intro p e s m args below meth c s₁ B hml hv
  obtain ⟨rfl, hsz, hP, hK, hD0⟩ := hv
  subst hsz
  have hts := atoms_spec (ws := ws) B.pre
  have hl := lv_entry av (n := maxL) hlen
  rw [lg_entry_eq]
  generalize (lg_sl av ++ List.replicate (maxL - (lg_sl av).length) Slot.unset).toArray = ls at hl ⊢
  exact body p e s m _ below meth c ⟨B.exec, B.bytes, hml, findClass_of_methodNamed B.named, hts⟩ B.returns B.notSynchronized hK _ (fun q h => Or.inr h) hP (hD0.self (sz := s.heap.size)) va_S.rf ls hl
theorem co_bodyI {S : Type} {wf : S → va_W} {post : Int32 → S → Prop} (hy : plainName y.cls = true) (hw : ws = Cond.code y cc maxL ret :: ws') (hlen : (lg_sl av).length ≤ maxL)
    (body : ∀ (p : Program) (e : Env) (s : State) (m : MethodId) (args : Array Value) (below : List Frame) (meth : Method) (c : Code), CallFix p m c cc maxL s args ws y.cls → meth.sig.returnType = ret → meth.locks = false → kG G s → ∀ A : Nat → Prop, (∀ q, s.heap.size ≤ q → A q) → pG G w0 s.heap → va_D A w0 → va_S A s.heap s.heap [] → ∀ ls, lv_has ls maxL (lv_args 0 av) → W p l e rm s m args below meth c s.heap [] 0 0 (MQ below (va_Qi post (fun u t => pG G (wf u) t.heap ∧ kG G t ∧ va_D A (wf u)) A) args s 0 0 A) (F0 m 0 ls [])) : MetI l y ws rm G w0 av wf post := by
  intro sz
  refine Met.ofW (cc := cc) (maxL := maxL) (ret := ret) hy hw ?_
  intro p e s m args below meth c s₁ B hml hv
  obtain ⟨rfl, hsz, hP, hK, hD0⟩ := hv
  subst hsz
  have hts := atoms_spec (ws := ws) B.pre
  have hl := lv_entry av (n := maxL) hlen
  rw [lg_entry_eq]
  generalize (lg_sl av ++ List.replicate (maxL - (lg_sl av).length) Slot.unset).toArray = ls at hl ⊢
  exact body p e s m _ below meth c ⟨B.exec, B.bytes, hml, findClass_of_methodNamed B.named, hts⟩ B.returns B.notSynchronized hK _ (fun q h => Or.inr h) hP (hD0.self (sz := s.heap.size)) va_S.rf ls hl
-- ends
theorem co_endR {v : Int32} (S : CallFix p m c cc nL s args Ts own) (hr : meth.sig.returnType = some .int) (hlocks : meth.locks = false) (hdg : decode cc pc = .ok (.ireturn, 1)) (hv : v = r) : W p l e R s m args below meth c s.heap [] 0 0 (MQ below (QcRead r) args s 0 0 (fun _ => False)) (F0 m pc ls [.int v]) :=
  W.iret S.1 S.2.1 hr (fun t ht _ => ⟨by rw [hv], ht⟩) (fun q h => absurd h List.not_mem_nil) hdg hlocks
theorem co_endRz {v : Bool} (S : CallFix p m c cc nL s args Ts own) (hr : meth.sig.returnType = some .boolean) (hlocks : meth.locks = false) (hdg : decode cc pc = .ok (.ireturn, 1)) (hv : bI v = r) : W p l e R s m args below meth c s.heap [] 0 0 (MQ below (QcRead r) args s 0 0 (fun _ => False)) (F0 m pc ls [.int (bI v)]) :=
  W.zret S.1 S.2.1 hr (bI_nar v) (fun t ht _ => ⟨by rw [hv], ht⟩) (fun q h => absurd h List.not_mem_nil) hdg hlocks
theorem co_endV {S : Type} {wf : S → va_W} {post : S → Prop} (u : S) (S0 : CallFix p m c cc nL s args Ts own) (hr : meth.sig.returnType = none) (hlocks : meth.locks = false) (hdg : decode cc pc = .ok (.return_, 1)) (hK : kG G s) (hP : pG G (wf u) H) (hD : va_D A (wf u)) (hS : va_S A s.heap H locs) (hv : post u) : W p l e R s m args below meth c H locs 0 0 (MQ below (va_Qv post (fun u t => pG G (wf u) t.heap ∧ kG G t ∧ va_D A (wf u)) A) args s 0 0 A) (F0 m pc ls []) :=
  W.vret S0.1 S0.2.1 hr (fun t ht hW => ⟨⟨u, rfl, hv, by rw [ht]; exact hP, va_K.moved hW.alike hK, hD⟩, hS.F ht⟩) hS.2.2 hdg hlocks
theorem co_endI {S : Type} {wf : S → va_W} {post : Int32 → S → Prop} {v : Int32} (u : S) (S0 : CallFix p m c cc nL s args Ts own) (hr : meth.sig.returnType = some .int) (hlocks : meth.locks = false) (hdg : decode cc pc = .ok (.ireturn, 1)) (hK : kG G s) (hP : pG G (wf u) H) (hD : va_D A (wf u)) (hS : va_S A s.heap H locs) (hv : post v u) : W p l e R s m args below meth c H locs 0 0 (MQ below (va_Qi post (fun u t => pG G (wf u) t.heap ∧ kG G t ∧ va_D A (wf u)) A) args s 0 0 A) (F0 m pc ls [.int v]) :=
  W.iret S0.1 S0.2.1 hr (fun t ht hW => ⟨⟨v, u, rfl, hv, by rw [ht]; exact hP, va_K.moved hW.alike hK, hD⟩, hS.F ht⟩) hS.2.2 hdg hlocks
theorem co_endIz {S : Type} {wf : S → va_W} {post : Int32 → S → Prop} {v : Bool} (u : S) (S0 : CallFix p m c cc nL s args Ts own) (hr : meth.sig.returnType = some .boolean) (hlocks : meth.locks = false) (hdg : decode cc pc = .ok (.ireturn, 1)) (hK : kG G s) (hP : pG G (wf u) H) (hD : va_D A (wf u)) (hS : va_S A s.heap H locs) (hv : post (bI v) u) : W p l e R s m args below meth c H locs 0 0 (MQ below (va_Qi post (fun u t => pG G (wf u) t.heap ∧ kG G t ∧ va_D A (wf u)) A) args s 0 0 A) (F0 m pc ls [.int (bI v)]) :=
  W.zret S0.1 S0.2.1 hr (bI_nar v) (fun t ht hW => ⟨⟨bI v, u, rfl, hv, by rw [ht]; exact hP, va_K.moved hW.alike hK, hD⟩, hS.F ht⟩) hS.2.2 hdg hlocks
-- branches over truth values
theorem co_ifeq {v : Bool} {off : Int} {tgt : Nat} (S : CallFix p m c cc nL s args Ts own) (hdg : decode cc pc = .ok (.ifCond .eq off, 3)) (ht : (pc : Int) + off = (tgt : Int)) (kt : v = false → W p l e R s m args below meth c H locs cells slots Q (F0 m tgt ls rest)) (kf : v = true → W p l e R s m args below meth c H locs cells slots Q (F0 m (pc + 3) ls rest)) : W p l e R s m args below meth c H locs cells slots Q (F0 m pc ls (.int (bI v) :: rest)) :=
  lv_if_eq S.1 S.2.1 hdg ht (fun h => kt (bI_0 h)) (fun h => kf (bI_1 h))
theorem co_ifne {v : Bool} {off : Int} {tgt : Nat} (S : CallFix p m c cc nL s args Ts own) (hdg : decode cc pc = .ok (.ifCond .ne off, 3)) (ht : (pc : Int) + off = (tgt : Int)) (kt : v = true → W p l e R s m args below meth c H locs cells slots Q (F0 m tgt ls rest)) (kf : v = false → W p l e R s m args below meth c H locs cells slots Q (F0 m (pc + 3) ls rest)) : W p l e R s m args below meth c H locs cells slots Q (F0 m pc ls (.int (bI v) :: rest)) :=
  lv_if_ne S.1 S.2.1 hdg ht (fun h => kt (bI_1 h)) (fun h => kf (bI_0 h))
end COB
end
section
/-! what the class computes, in words of its cells: σ 0 lives, σ 1 successors, σ 2 predecessors, σ 3 fingers, σ 4 values, σ 5 stamps, σ 6 lastStamp, σ 9 10 11 the pointers laid aside; ρ 0 route, ρ 1 routeHops -/
abbrev cS : Type := Nat → Nat → Int32
theorem nI_m (k : Nat) : nI (k + 1) + Int32.ofInt (-1) = nI k := pk_m1 k
theorem pG_nil {G : cG} {H : Heap} : pG G [] H := fun k q h => by simp at h
theorem vin_of {x : Int32} {n : Nat} (h0 : ¬ x < 0) (h1 : ¬ nI n ≤ x) (hn : n < 2 ^ 31) : vp_in x n := by
  obtain ⟨j, hj, rfl⟩ := nI_of h0
  refine vp_in_nI ?_ hn
  rcases Nat.lt_or_ge j n with h | h
  · exact h
  · exact absurd (nI_le h hj) h1
def onw (x k : Int32) : Int32 := (x + k) &&& 63
def fgs (n i : Int32) : Int32 := onw n (1 <<< (i &&& 31))
def upTo (x a b : Int32) : Bool := if ((b - a - 1) &&& 63) < ((x - a - 1) &&& 63) then false else true
def btw (x a b : Int32) : Bool := if ((b - a - 1) &&& 63) ≤ ((x - a - 1) &&& 63) then false else true
def tat (w : Nat) (f : Nat → Int32) (n c : Int32) : Int32 := if n < 0 then -1 else if 64 ≤ n then -1 else if c < 0 then -1 else if c < nI w then f (n * nI w + c).toNatClampNeg else -1
def tset (w : Nat) (f : Nat → Int32) (n c v : Int32) : Nat → Int32 := if n < 0 then f else if 64 ≤ n then f else if c < 0 then f else if c < nI w then upd f (n * nI w + c).toNatClampNeg v else f
theorem tat_in {w : Nat} {n c : Int32} (hw : w ≤ 64) (h1 : ¬ n < 0) (h2 : ¬ 64 ≤ n) (h3 : ¬ c < 0) (h4 : c < nI w) : vp_in (n * nI w + c) (64 * w) := by
  obtain ⟨j, hj, rfl⟩ := nI_of h1
  obtain ⟨i, hi, rfl⟩ := nI_of h3
  have hj' : j < 64 := by
    rcases Nat.lt_or_ge j 64 with h | h
    · exact h
    · exact absurd (nI_le h hj) h2
  have hi' : i < w := (nI_ltI hi (by omega)).mp h4
  rw [pk_mul, nI_add]
  refine vp_in_nI ?_ (by omega)
  have : j * w ≤ 63 * w := Nat.mul_le_mul_right w (by omega)
  omega
theorem tat_no {w : Nat} {n c : Int32} {P : Prop} (hw : w ≤ 64) (h1 : ¬ n < 0) (h2 : ¬ 64 ≤ n) (h3 : ¬ c < 0) (h4 : c < nI w) (h5 : nI (64 * w) ≤ n * nI w + c) : P := by
  have h := tat_in hw h1 h2 h3 h4
  obtain ⟨k, hk, e⟩ := vp_in_of h (by omega)
  rw [e] at h5
  have := (nI_leI (by omega) (by omega)).mp h5
  omega
def alv (L : Nat → Int32) (x : Int32) : Bool := if x < 0 then false else if nI 64 ≤ x then false else if L x.toNatClampNeg = 0 then false else true
def lsF (L U : Nat → Int32) (n : Int32) : Int32 :=
  if alv L (tat 3 U n 0) = true then tat 3 U n 0 else if alv L (tat 3 U n 1) = true then tat 3 U n 1 else if alv L (tat 3 U n 2) = true then tat 3 U n 2 else n
/-- a table at the address t, its cells at q, w columns -/
def wT (G : cG) (t q w : Nat) (f : Nat → Int32) : va_W := [(t, .inr (0, [.int (nI w), .ref q])), (q, .inl (G.2.1, 64 * w, .inl f))]
/-- the whole class -/
def wO (G : cG) (a : Nat → Nat) (σ ρ : cS) : va_W :=
  [(a 0, .inr (1, [.ref (a 1), .ref (a 2), .ref (a 4), .ref (a 6), .ref (a 8), .ref (a 10), .int (σ 6 0), .ref (a 12), .int (ρ 1 0), .ref (a 13), .ref (a 15), .ref (a 17)])),
   (a 1, .inl (G.2.2.1, 64, .inl (σ 0))),
   (a 2, .inr (0, [.int (nI 3), .ref (a 3)])), (a 3, .inl (G.2.1, 64 * 3, .inl (σ 1))),
   (a 4, .inr (0, [.int (nI 1), .ref (a 5)])), (a 5, .inl (G.2.1, 64 * 1, .inl (σ 2))),
   (a 6, .inr (0, [.int (nI 6), .ref (a 7)])), (a 7, .inl (G.2.1, 64 * 6, .inl (σ 3))),
   (a 8, .inr (0, [.int (nI 64), .ref (a 9)])), (a 9, .inl (G.2.1, 64 * 64, .inl (σ 4))),
   (a 10, .inr (0, [.int (nI 64), .ref (a 11)])), (a 11, .inl (G.2.1, 64 * 64, .inl (σ 5))),
   (a 12, .inl (G.2.1, 64, .inl (ρ 0))),
   (a 13, .inr (0, [.int (nI 3), .ref (a 14)])), (a 14, .inl (G.2.1, 64 * 3, .inl (σ 9))),
   (a 15, .inr (0, [.int (nI 1), .ref (a 16)])), (a 16, .inl (G.2.1, 64 * 1, .inl (σ 10))),
   (a 17, .inr (0, [.int (nI 6), .ref (a 18)])), (a 18, .inl (G.2.1, 64 * 6, .inl (σ 11)))]
theorem uX1 : ∀ w ∈ u_ws RX1 TX1 2, w ∈ wsX10 := fun _ h => h
end
section
abbrev rm_X0_onward : Room := { frames := 0, cells := 0, slots := 0, locals := 0 }
set_option maxHeartbeats 4000000 in
set_option maxRecDepth 100000 in
theorem c_X0_onward (l : Launch) (G : cG) (x k : Int32) : MetR l yX0_onward wsX0_onward rm_X0_onward G ([] : va_W) [.int x, .int k] (onw x k) := by
  refine co_bodyR (cc := cX0_onward) (maxL := 2) (ret := (some .int)) (by decide) rfl (Nat.le_of_ble_eq_true rfl) ?_
  intro p e s m args below meth c S hr hlocks hK hP ls hl
  have S : CallFix p m c cX0_onward 2 s args wsX0_onward RX0 := S
  obtain ⟨hx, hb, hml, hown, hts⟩ := id S
  have hl : lv_has ls 2 [(0, .int x), (1, .int k)] := hl
  refine lv_iload_n hx hb dX0_onward_0 rfl (lv_at hl 0 rfl) ?_
  refine lv_iload_n hx hb dX0_onward_1 rfl (lv_at hl 1 rfl) ?_
  refine lv_iadd hx hb dX0_onward_2 ?_
  refine lv_bipush (v := 63) hx hb dX0_onward_3 (by decide) ?_
  refine lv_iand hx hb dX0_onward_5 ?_
  exact co_endR S hr hlocks dX0_onward_6 (by rfl)

abbrev rm_X0_fingerStart : Room := { frames := 1, cells := 0, slots := 0, locals := 21 }
set_option maxHeartbeats 4000000 in
set_option maxRecDepth 100000 in
theorem c_X0_fingerStart (l : Launch) (G : cG) (n i : Int32) : MetR l yX0_fingerStart wsX0_fingerStart rm_X0_fingerStart G ([] : va_W) [.int n, .int i] (fgs n i) := by
  refine co_bodyR (cc := cX0_fingerStart) (maxL := 2) (ret := (some .int)) (by decide) rfl (Nat.le_of_ble_eq_true rfl) ?_
  intro p e s m args below meth c S hr hlocks hK hP ls hl
  have S : CallFix p m c cX0_fingerStart 2 s args wsX0_fingerStart RX0 := S
  obtain ⟨hx, hb, hml, hown, hts⟩ := id S
  have hl : lv_has ls 2 [(0, .int n), (1, .int i)] := hl
  refine lv_iload_n hx hb dX0_fingerStart_0 rfl (lv_at hl 0 rfl) ?_
  refine lv_iconst (v := 1) hx hb dX0_fingerStart_1 (by decide) ?_
  refine lv_iload_n hx hb dX0_fingerStart_2 rfl (lv_at hl 1 rfl) ?_
  refine lv_ishl hx hb dX0_fingerStart_3 ?_
  refine co_rS (As := [.int n, .int (1 <<< (i &&& 31))]) (rest := []) S (c_X0_onward l G n (1 <<< (i &&& 31))) (va_cwS 2 hts gX0_fingerStart_X0_onward rfl rfl rfl (by decide +kernel) ⟨Nat.le_of_ble_eq_true rfl, Nat.le_of_ble_eq_true rfl⟩) hK (pG_nil) rfl hl.1 rfl (Nat.le_of_ble_eq_true rfl) dX0_fingerStart_4 ⟨Nat.zero_le _, Nat.zero_le _⟩ ?_
  exact co_endR S hr hlocks dX0_fingerStart_7 (by rfl)

abbrev rm_X0_isUpTo : Room := { frames := 0, cells := 0, slots := 0, locals := 0 }
set_option maxHeartbeats 4000000 in
set_option maxRecDepth 100000 in
theorem c_X0_isUpTo (l : Launch) (G : cG) (x a b : Int32) : MetR l yX0_isUpTo wsX0_isUpTo rm_X0_isUpTo G ([] : va_W) [.int x, .int a, .int b] (bI (upTo x a b)) := by
  refine co_bodyR (cc := cX0_isUpTo) (maxL := 3) (ret := (some .boolean)) (by decide) rfl (Nat.le_of_ble_eq_true rfl) ?_
  intro p e s m args below meth c S hr hlocks hK hP ls hl
  have S : CallFix p m c cX0_isUpTo 3 s args wsX0_isUpTo RX0 := S
  obtain ⟨hx, hb, hml, hown, hts⟩ := id S
  have hl : lv_has ls 3 [(0, .int x), (1, .int a), (2, .int b)] := hl
  refine lv_iload_n hx hb dX0_isUpTo_0 rfl (lv_at hl 0 rfl) ?_
  refine lv_iload_n hx hb dX0_isUpTo_1 rfl (lv_at hl 1 rfl) ?_
  refine lv_isub hx hb dX0_isUpTo_2 ?_
  refine lv_iconst (v := 1) hx hb dX0_isUpTo_3 (by decide) ?_
  refine lv_isub hx hb dX0_isUpTo_4 ?_
  refine lv_bipush (v := 63) hx hb dX0_isUpTo_5 (by decide) ?_
  refine lv_iand hx hb dX0_isUpTo_7 ?_
  refine lv_iload_n hx hb dX0_isUpTo_8 rfl (lv_at hl 2 rfl) ?_
  refine lv_iload_n hx hb dX0_isUpTo_9 rfl (lv_at hl 1 rfl) ?_
  refine lv_isub hx hb dX0_isUpTo_10 ?_
  refine lv_iconst (v := 1) hx hb dX0_isUpTo_11 (by decide) ?_
  refine lv_isub hx hb dX0_isUpTo_12 ?_
  refine lv_bipush (v := 63) hx hb dX0_isUpTo_13 (by decide) ?_
  refine lv_iand hx hb dX0_isUpTo_15 ?_
  refine lv_icmp_gt (tgt := 23) hx hb dX0_isUpTo_16 (by decide) (fun c_1 => ?_) (fun c_1 => ?_)
  · refine lv_iconst (v := 0) hx hb dX0_isUpTo_23 (by decide) ?_
    exact co_endRz (v := false) S hr hlocks dX0_isUpTo_24 (by simp only [upTo, c_1, eq_self, Bool.false_eq_true, ↓reduceIte])
  · refine lv_iconst (v := 1) hx hb dX0_isUpTo_19 (by decide) ?_
    refine lv_goto (tgt := 24) hx hb dX0_isUpTo_20 (by decide) ?_
    exact co_endRz (v := true) S hr hlocks dX0_isUpTo_24 (by simp only [upTo, c_1, eq_self, Bool.false_eq_true, ↓reduceIte])

abbrev rm_X0_isBetween : Room := { frames := 0, cells := 0, slots := 0, locals := 0 }
set_option maxHeartbeats 4000000 in
set_option maxRecDepth 100000 in
theorem c_X0_isBetween (l : Launch) (G : cG) (x a b : Int32) : MetR l yX0_isBetween wsX0_isBetween rm_X0_isBetween G ([] : va_W) [.int x, .int a, .int b] (bI (btw x a b)) := by
  refine co_bodyR (cc := cX0_isBetween) (maxL := 3) (ret := (some .boolean)) (by decide) rfl (Nat.le_of_ble_eq_true rfl) ?_
  intro p e s m args below meth c S hr hlocks hK hP ls hl
  have S : CallFix p m c cX0_isBetween 3 s args wsX0_isBetween RX0 := S
  obtain ⟨hx, hb, hml, hown, hts⟩ := id S
  have hl : lv_has ls 3 [(0, .int x), (1, .int a), (2, .int b)] := hl
  refine lv_iload_n hx hb dX0_isBetween_0 rfl (lv_at hl 0 rfl) ?_
  refine lv_iload_n hx hb dX0_isBetween_1 rfl (lv_at hl 1 rfl) ?_
  refine lv_isub hx hb dX0_isBetween_2 ?_
  refine lv_iconst (v := 1) hx hb dX0_isBetween_3 (by decide) ?_
  refine lv_isub hx hb dX0_isBetween_4 ?_
  refine lv_bipush (v := 63) hx hb dX0_isBetween_5 (by decide) ?_
  refine lv_iand hx hb dX0_isBetween_7 ?_
  refine lv_iload_n hx hb dX0_isBetween_8 rfl (lv_at hl 2 rfl) ?_
  refine lv_iload_n hx hb dX0_isBetween_9 rfl (lv_at hl 1 rfl) ?_
  refine lv_isub hx hb dX0_isBetween_10 ?_
  refine lv_iconst (v := 1) hx hb dX0_isBetween_11 (by decide) ?_
  refine lv_isub hx hb dX0_isBetween_12 ?_
  refine lv_bipush (v := 63) hx hb dX0_isBetween_13 (by decide) ?_
  refine lv_iand hx hb dX0_isBetween_15 ?_
  refine lv_icmp_ge (tgt := 23) hx hb dX0_isBetween_16 (by decide) (fun c_1 => ?_) (fun c_1 => ?_)
  · refine lv_iconst (v := 0) hx hb dX0_isBetween_23 (by decide) ?_
    exact co_endRz (v := false) S hr hlocks dX0_isBetween_24 (by simp only [btw, c_1, eq_self, Bool.false_eq_true, ↓reduceIte])
  · refine lv_iconst (v := 1) hx hb dX0_isBetween_19 (by decide) ?_
    refine lv_goto (tgt := 24) hx hb dX0_isBetween_20 (by decide) ?_
    exact co_endRz (v := true) S hr hlocks dX0_isBetween_24 (by simp only [btw, c_1, eq_self, Bool.false_eq_true, ↓reduceIte])

set_option maxRecDepth 20000 in
theorem uX1_X1_at : ∀ w ∈ u_ws RX1 TX1 2, w ∈ wsX1_at := by decide +kernel
abbrev rm_X1_at : Room := { frames := 0, cells := 0, slots := 0, locals := 0 }
set_option maxHeartbeats 4000000 in
set_option maxRecDepth 100000 in
theorem c_X1_at (l : Launch) (G : cG) (t q w : Nat) (f : Nat → Int32) (n c₀ : Int32) (hw : w ≤ 64) : MetR l yX1_at wsX1_at rm_X1_at G (wT G t q w f) [.ref t, .int n, .int c₀] (tat w f n c₀) := by
  refine co_bodyR (cc := cX1_at) (maxL := 4) (ret := (some .int)) (by decide) rfl (Nat.le_of_ble_eq_true rfl) ?_
  intro p e s m args below meth c S hr hlocks hK hP ls hl
  have S : CallFix p m c cX1_at 4 s args wsX1_at RX1 := S
  obtain ⟨hx, hb, hml, hown, hts⟩ := id S
  have hl : lv_has ls 4 [(0, .ref t), (1, .int n), (2, .int c₀)] := hl
  have uX1 := uX1_X1_at
  refine lv_iload_n hx hb dX1_at_0 rfl (lv_at hl 1 rfl) ?_
  refine lv_if_lt (tgt := 22) hx hb dX1_at_1 (by decide) (fun c_1 => ?_) (fun c_1 => ?_)
  · refine lv_iconst (v := (-1)) hx hb dX1_at_22 (by decide) ?_
    exact co_endR S hr hlocks dX1_at_23 (by simp only [tat, c_1, eq_self, Bool.false_eq_true, ↓reduceIte])
  · refine lv_iload_n hx hb dX1_at_4 rfl (lv_at hl 1 rfl) ?_
    refine lv_bipush (v := 64) hx hb dX1_at_5 (by decide) ?_
    refine lv_icmp_ge (tgt := 22) hx hb dX1_at_7 (by decide) (fun c_2 => ?_) (fun c_2 => ?_)
    · refine lv_iconst (v := (-1)) hx hb dX1_at_22 (by decide) ?_
      exact co_endR S hr hlocks dX1_at_23 (by simp only [tat, c_1, c_2, eq_self, Bool.false_eq_true, ↓reduceIte])
    · refine lv_iload_n hx hb dX1_at_10 rfl (lv_at hl 2 rfl) ?_
      refine lv_if_lt (tgt := 22) hx hb dX1_at_11 (by decide) (fun c_3 => ?_) (fun c_3 => ?_)
      · refine lv_iconst (v := (-1)) hx hb dX1_at_22 (by decide) ?_
        exact co_endR S hr hlocks dX1_at_23 (by simp only [tat, c_1, c_2, c_3, eq_self, Bool.false_eq_true, ↓reduceIte])
      · refine lv_iload_n hx hb dX1_at_14 rfl (lv_at hl 2 rfl) ?_
        refine lv_aload_n hx hb dX1_at_15 rfl (lv_at hl 0 rfl) ?_
        refine va_get (D := G.1) (ci := 0) (v := .int (nI w)) (C := RX1) (T := TX1) (N := 2) hx hb hts uX1 hown hK hP 0 rfl rfl 0 (by decide) (hts (.fieldLink RX1 18 "ChordOverlay$Table" "width" "I") (by decide +kernel)) (fun _ h9 => h9) rfl dX1_at_16 ?_
        refine lv_icmp_lt (tgt := 24) hx hb dX1_at_19 (by decide) (fun c_4 => ?_) (fun c_4 => ?_)
        · refine lv_iload_n hx hb dX1_at_24 rfl (lv_at hl 1 rfl) ?_
          refine lv_aload_n hx hb dX1_at_25 rfl (lv_at hl 0 rfl) ?_
          refine va_get (D := G.1) (ci := 0) (v := .int (nI w)) (C := RX1) (T := TX1) (N := 2) hx hb hts uX1 hown hK hP 0 rfl rfl 0 (by decide) (hts (.fieldLink RX1 18 "ChordOverlay$Table" "width" "I") (by decide +kernel)) (fun _ h9 => h9) rfl dX1_at_26 ?_
          refine lv_imul hx hb dX1_at_29 ?_
          refine lv_iload_n hx hb dX1_at_30 rfl (lv_at hl 2 rfl) ?_
          refine lv_iadd hx hb dX1_at_31 ?_
          refine lv_istore_n (lv' := [(3, .int ((n * (nI w)) + c₀)), (0, .ref t), (1, .int n), (2, .int c₀)]) hx hb dX1_at_32 rfl hl (by decide) rfl (fun ls hl => ?_)
          refine lv_iload_n hx hb dX1_at_33 rfl (lv_at hl 0 rfl) ?_
          refine lv_aload_n hx hb dX1_at_34 rfl (lv_at hl 1 rfl) ?_
          refine va_get (D := G.1) (ci := 0) (v := .ref q) (C := RX1) (T := TX1) (N := 2) hx hb hts uX1 hown hK hP 0 rfl rfl 1 (by decide) (hts (.fieldLink RX1 24 "ChordOverlay$Table" "cells" "[I") (by decide +kernel)) (fun _ h9 => h9) rfl dX1_at_35 ?_
          refine va_alen (v := nI (64 * w)) hx hb hK hP 1 0 rfl rfl rfl dX1_at_38 ?_
          refine lv_icmp_ge (tgt := 51) hx hb dX1_at_39 (by decide) (fun c_5 => ?_) (fun c_5 => ?_)
          · exact tat_no hw c_1 c_2 c_3 c_4 c_5
          · refine lv_aload_n hx hb dX1_at_42 rfl (lv_at hl 1 rfl) ?_
            refine va_get (D := G.1) (ci := 0) (v := .ref q) (C := RX1) (T := TX1) (N := 2) hx hb hts uX1 hown hK hP 0 rfl rfl 1 (by decide) (hts (.fieldLink RX1 24 "ChordOverlay$Table" "cells" "[I") (by decide +kernel)) (fun _ h9 => h9) rfl dX1_at_43 ?_
            refine lv_iload_n hx hb dX1_at_46 rfl (lv_at hl 0 rfl) ?_
            refine va_iald hx hb hK hP 1 0 rfl rfl (tat_in hw c_1 c_2 c_3 c_4) dX1_at_47 ?_
            refine lv_goto (tgt := 52) hx hb dX1_at_48 (by decide) ?_
            exact co_endR S hr hlocks dX1_at_52 (by simp only [tat, c_1, c_2, c_3, c_4, c_5, eq_self, Bool.false_eq_true, ↓reduceIte])
        · refine lv_iconst (v := (-1)) hx hb dX1_at_22 (by decide) ?_
          exact co_endR S hr hlocks dX1_at_23 (by simp only [tat, c_1, c_2, c_3, c_4, eq_self, Bool.false_eq_true, ↓reduceIte])

set_option maxRecDepth 20000 in
theorem uX1_X1_set : ∀ w ∈ u_ws RX1 TX1 2, w ∈ wsX1_set := by decide +kernel
abbrev rm_X1_set : Room := { frames := 0, cells := 0, slots := 0, locals := 0 }
set_option maxHeartbeats 4000000 in
set_option maxRecDepth 100000 in
theorem c_X1_set (l : Launch) (G : cG) (t q w : Nat) (f : Nat → Int32) (n c₀ v : Int32) (hw : w ≤ 64) : MetV l yX1_set wsX1_set rm_X1_set G (wT G t q w f) [.ref t, .int n, .int c₀, .int v] (fun u => wT G t q w u) (fun u => u = tset w f n c₀ v) := by
  refine co_bodyV (cc := cX1_set) (maxL := 5) (ret := none) (by decide) rfl (Nat.le_of_ble_eq_true rfl) ?_
  intro p e s m args below meth c S hr hlocks hK A hA hP hD hS ls hl
  have S : CallFix p m c cX1_set 5 s args wsX1_set RX1 := S
  obtain ⟨hx, hb, hml, hown, hts⟩ := id S
  have hl : lv_has ls 5 [(0, .ref t), (1, .int n), (2, .int c₀), (3, .int v)] := hl
  have uX1 := uX1_X1_set
  refine lv_iload_n hx hb dX1_set_0 rfl (lv_at hl 1 rfl) ?_
  refine lv_if_lt (tgt := 22) hx hb dX1_set_1 (by decide) (fun c_1 => ?_) (fun c_1 => ?_)
  · exact co_endV f S hr hlocks dX1_set_22 hK hP hD hS (by simp only [tset, c_1, eq_self, Bool.false_eq_true, ↓reduceIte])
  · refine lv_iload_n hx hb dX1_set_4 rfl (lv_at hl 1 rfl) ?_
    refine lv_bipush (v := 64) hx hb dX1_set_5 (by decide) ?_
    refine lv_icmp_ge (tgt := 22) hx hb dX1_set_7 (by decide) (fun c_2 => ?_) (fun c_2 => ?_)
    · exact co_endV f S hr hlocks dX1_set_22 hK hP hD hS (by simp only [tset, c_1, c_2, eq_self, Bool.false_eq_true, ↓reduceIte])
    · refine lv_iload_n hx hb dX1_set_10 rfl (lv_at hl 2 rfl) ?_
      refine lv_if_lt (tgt := 22) hx hb dX1_set_11 (by decide) (fun c_3 => ?_) (fun c_3 => ?_)
      · exact co_endV f S hr hlocks dX1_set_22 hK hP hD hS (by simp only [tset, c_1, c_2, c_3, eq_self, Bool.false_eq_true, ↓reduceIte])
      · refine lv_iload_n hx hb dX1_set_14 rfl (lv_at hl 2 rfl) ?_
        refine lv_aload_n hx hb dX1_set_15 rfl (lv_at hl 0 rfl) ?_
        refine va_get (D := G.1) (ci := 0) (v := .int (nI w)) (C := RX1) (T := TX1) (N := 2) hx hb hts uX1 hown hK hP 0 rfl rfl 0 (by decide) (hts (.fieldLink RX1 18 "ChordOverlay$Table" "width" "I") (by decide +kernel)) (fun _ h9 => h9) rfl dX1_set_16 ?_
        refine lv_icmp_lt (tgt := 23) hx hb dX1_set_19 (by decide) (fun c_4 => ?_) (fun c_4 => ?_)
        · refine lv_iload_n hx hb dX1_set_23 rfl (lv_at hl 1 rfl) ?_
          refine lv_aload_n hx hb dX1_set_24 rfl (lv_at hl 0 rfl) ?_
          refine va_get (D := G.1) (ci := 0) (v := .int (nI w)) (C := RX1) (T := TX1) (N := 2) hx hb hts uX1 hown hK hP 0 rfl rfl 0 (by decide) (hts (.fieldLink RX1 18 "ChordOverlay$Table" "width" "I") (by decide +kernel)) (fun _ h9 => h9) rfl dX1_set_25 ?_
          refine lv_imul hx hb dX1_set_28 ?_
          refine lv_iload_n hx hb dX1_set_29 rfl (lv_at hl 2 rfl) ?_
          refine lv_iadd hx hb dX1_set_30 ?_
          refine lv_istore (lv' := [(4, .int ((n * (nI w)) + c₀)), (0, .ref t), (1, .int n), (2, .int c₀), (3, .int v)]) hx hb dX1_set_31 hl (by decide) rfl (fun ls hl => ?_)
          refine lv_iload hx hb dX1_set_33 (lv_at hl 0 rfl) ?_
          refine lv_aload_n hx hb dX1_set_35 rfl (lv_at hl 1 rfl) ?_
          refine va_get (D := G.1) (ci := 0) (v := .ref q) (C := RX1) (T := TX1) (N := 2) hx hb hts uX1 hown hK hP 0 rfl rfl 1 (by decide) (hts (.fieldLink RX1 24 "ChordOverlay$Table" "cells" "[I") (by decide +kernel)) (fun _ h9 => h9) rfl dX1_set_36 ?_
          refine va_alen (v := nI (64 * w)) hx hb hK hP 1 0 rfl rfl rfl dX1_set_39 ?_
          refine lv_icmp_ge (tgt := 51) hx hb dX1_set_40 (by decide) (fun c_5 => ?_) (fun c_5 => ?_)
          · exact tat_no hw c_1 c_2 c_3 c_4 c_5
          · refine lv_aload_n hx hb dX1_set_43 rfl (lv_at hl 1 rfl) ?_
            refine va_get (D := G.1) (ci := 0) (v := .ref q) (C := RX1) (T := TX1) (N := 2) hx hb hts uX1 hown hK hP 0 rfl rfl 1 (by decide) (hts (.fieldLink RX1 24 "ChordOverlay$Table" "cells" "[I") (by decide +kernel)) (fun _ h9 => h9) rfl dX1_set_44 ?_
            refine lv_iload hx hb dX1_set_47 (lv_at hl 0 rfl) ?_
            refine lv_iload_n hx hb dX1_set_49 rfl (lv_at hl 4 rfl) ?_
            refine va_iast hx hb hK hP hD hS 1 0 rfl rfl (tat_in hw c_1 c_2 c_3 c_4) dX1_set_50 (fun H locs hP hD hS => ?_)
            have hP : pG G (wT G t q w (upd f ((n * (nI w)) + c₀).toNatClampNeg v)) H := hP
            have hD : va_D A (wT G t q w (upd f ((n * (nI w)) + c₀).toNatClampNeg v)) := hD
            exact co_endV (upd f ((n * (nI w)) + c₀).toNatClampNeg v) S hr hlocks dX1_set_51 hK hP hD hS (by simp only [tset, c_1, c_2, c_3, c_4, c_5, eq_self, Bool.false_eq_true, ↓reduceIte])
        · exact co_endV f S hr hlocks dX1_set_22 hK hP hD hS (by simp only [tset, c_1, c_2, c_3, c_4, eq_self, Bool.false_eq_true, ↓reduceIte])
end
section
/-! what the class's readers answer -/
def cnt (L : Nat → Int32) : Nat → Int32
  | 0 => 0
  | k + 1 => if alv L (nI k) = true then cnt L k + 1 else cnt L k
def hrS (L U : Nat → Int32) (n x i r : Int32) : Int32 := if alv L (tat 3 U n i) = true then (if tat 3 U n i = n then r else if tat 3 U n i = x then r else tat 3 U n i) else r
def heir (L U : Nat → Int32) (n x : Int32) : Int32 := hrS L U n x 0 (hrS L U n x 1 (hrS L U n x 2 (-1)))
def hopT (L F : Nat → Int32) (key n nx : Int32) : Nat → Int32
  | 0 => nx
  | i + 1 => if alv L (tat 6 F n (nI i)) = true then (if btw (tat 6 F n (nI i)) n key = true then tat 6 F n (nI i) else hopT L F key n nx i) else hopT L F key n nx i
def upF (L : Nat → Int32) (x : Int32) : Nat → Nat → Int32
  | 0, _ => -1
  | d + 1, k => if alv L (onw x (nI k)) = true then onw x (nI k) else upF L x d (k + 1)
def dnF (L : Nat → Int32) (x : Int32) : Nat → Nat → Int32
  | 0, _ => -1
  | d + 1, k => if alv L (onw x (-nI k)) = true then onw x (-nI k) else dnF L x d (k + 1)
def wF (L F : Nat → Int32) (n acc : Int32) : Nat → Int32
  | 0 => acc
  | i + 1 => if tat 6 F n (nI i) = upF L (fgs n (nI i)) 64 0 then wF L F n acc i else wF L F n acc i + 1
def w1S (L U : Nat → Int32) (n : Int32) : Int32 := if lsF L U n = upF L (onw n 1) 64 0 then 0 else 1
def w2S (L P : Nat → Int32) (n x : Int32) : Int32 := if tat 1 P n 0 = dnF L (onw n (-1)) 64 0 then x else x + 1
def wrg (σ : cS) (n : Int32) : Int32 := wF (σ 0) (σ 3) n (w2S (σ 0) (σ 2) n (w1S (σ 0) (σ 1) n)) 6
def cwp (σ : cS) : Nat → Int32
  | 0 => 0
  | k + 1 => if alv (σ 0) (nI k) = true then cwp σ k + wrg σ (nI k) else cwp σ k
end
section
set_option maxRecDepth 20000 in
theorem uX2_X2_isAlive : ∀ w ∈ u_ws RX2 TX2 12, w ∈ wsX2_isAlive := by decide +kernel
abbrev rm_X2_isAlive : Room := { frames := 0, cells := 0, slots := 0, locals := 0 }
set_option maxHeartbeats 4000000 in
set_option maxRecDepth 100000 in
theorem c_X2_isAlive (l : Launch) (G : cG) (a : Nat → Nat) (σ ρ : cS) (n : Int32) : MetR l yX2_isAlive wsX2_isAlive rm_X2_isAlive G (wO G a σ ρ) [.ref (a 0), .int n] (bI (alv (σ 0) n)) := by
  refine co_bodyR (cc := cX2_isAlive) (maxL := 2) (ret := (some .boolean)) (by decide) rfl (Nat.le_of_ble_eq_true rfl) ?_
  intro p e s m args below meth c S hr hlocks hK hP ls hl
  have S : CallFix p m c cX2_isAlive 2 s args wsX2_isAlive RX2 := S
  obtain ⟨hx, hb, hml, hown, hts⟩ := id S
  have hl : lv_has ls 2 [(0, .ref (a 0)), (1, .int n)] := hl
  have uX2 := uX2_X2_isAlive
  refine lv_iload_n hx hb dX2_isAlive_0 rfl (lv_at hl 1 rfl) ?_
  refine lv_if_lt (tgt := 26) hx hb dX2_isAlive_1 (by decide) (fun c_1 => ?_) (fun c_1 => ?_)
  · refine lv_iconst (v := 0) hx hb dX2_isAlive_26 (by decide) ?_
    exact co_endRz (v := false) S hr hlocks dX2_isAlive_27 (by simp only [alv, c_1, eq_self, Bool.false_eq_true, ↓reduceIte])
  · refine lv_iload_n hx hb dX2_isAlive_4 rfl (lv_at hl 1 rfl) ?_
    refine lv_aload_n hx hb dX2_isAlive_5 rfl (lv_at hl 0 rfl) ?_
    refine va_get (D := G.1) (ci := 1) (v := .ref (a 1)) (C := RX2) (T := TX2) (N := 12) hx hb hts uX2 hown hK hP 0 rfl rfl 0 (by decide) (hts (.fieldLink RX2 9 "ChordOverlay" "lives" "[Z") (by decide +kernel)) (fun _ h9 => h9) rfl dX2_isAlive_6 ?_
    refine va_alen (v := nI 64) hx hb hK hP 1 1 rfl rfl rfl dX2_isAlive_9 ?_
    refine lv_icmp_ge (tgt := 26) hx hb dX2_isAlive_10 (by decide) (fun c_2 => ?_) (fun c_2 => ?_)
    · refine lv_iconst (v := 0) hx hb dX2_isAlive_26 (by decide) ?_
      exact co_endRz (v := false) S hr hlocks dX2_isAlive_27 (by simp only [alv, c_1, c_2, eq_self, Bool.false_eq_true, ↓reduceIte])
    · refine lv_aload_n hx hb dX2_isAlive_13 rfl (lv_at hl 0 rfl) ?_
      refine va_get (D := G.1) (ci := 1) (v := .ref (a 1)) (C := RX2) (T := TX2) (N := 12) hx hb hts uX2 hown hK hP 0 rfl rfl 0 (by decide) (hts (.fieldLink RX2 9 "ChordOverlay" "lives" "[Z") (by decide +kernel)) (fun _ h9 => h9) rfl dX2_isAlive_14 ?_
      refine lv_iload_n hx hb dX2_isAlive_17 rfl (lv_at hl 1 rfl) ?_
      refine va_zald hx hb hK hP 1 1 rfl rfl (vin_of c_1 c_2 (by decide)) dX2_isAlive_18 ?_
      refine lv_if_eq (tgt := 26) hx hb dX2_isAlive_19 (by decide) (fun c_3 => ?_) (fun c_3 => ?_)
      · refine lv_iconst (v := 0) hx hb dX2_isAlive_26 (by decide) ?_
        exact co_endRz (v := false) S hr hlocks dX2_isAlive_27 (by simp only [alv, c_1, c_2, (eq_true c_3), eq_self, Bool.false_eq_true, ↓reduceIte])
      · refine lv_iconst (v := 1) hx hb dX2_isAlive_22 (by decide) ?_
        refine lv_goto (tgt := 27) hx hb dX2_isAlive_23 (by decide) ?_
        exact co_endRz (v := true) S hr hlocks dX2_isAlive_27 (by simp only [alv, c_1, c_2, c_3, eq_self, Bool.false_eq_true, ↓reduceIte])

abbrev rm_X2_countLiving : Room := { frames := 1, cells := 0, slots := 0, locals := 21 }
set_option maxHeartbeats 4000000 in
set_option maxRecDepth 100000 in
theorem c_X2_countLiving (l : Launch) (G : cG) (a : Nat → Nat) (σ ρ : cS) : MetR l yX2_countLiving wsX2_countLiving rm_X2_countLiving G (wO G a σ ρ) [.ref (a 0)] (cnt (σ 0) 64) := by
  refine co_bodyR (cc := cX2_countLiving) (maxL := 3) (ret := (some .int)) (by decide) rfl (Nat.le_of_ble_eq_true rfl) ?_
  intro p e s m args below meth c S hr hlocks hK hP ls hl
  have S : CallFix p m c cX2_countLiving 3 s args wsX2_countLiving RX2 := S
  obtain ⟨hx, hb, hml, hown, hts⟩ := id S
  have hl : lv_has ls 3 [(0, .ref (a 0))] := hl
  refine lv_iconst (v := 0) hx hb dX2_countLiving_0 (by decide) ?_
  refine lv_istore_n (lv' := [(1, .int 0), (0, .ref (a 0))]) hx hb dX2_countLiving_1 rfl hl (by decide) rfl (fun ls hl => ?_)
  refine lv_iconst (v := 0) hx hb dX2_countLiving_2 (by decide) ?_
  refine lv_istore_n (lv' := [(2, .int 0), (1, .int 0), (0, .ref (a 0))]) hx hb dX2_countLiving_3 rfl hl (by decide) rfl (fun ls hl => ?_)
  have LP : ∀ (d : Nat) (k : Nat) (x : Int32), k + d = 64 → x = cnt (σ 0) k → ∀ ls : Array Slot, lv_has ls 3 [(0, .ref (a 0)), (1, .int x), (2, .int (nI k))] → W p l e rm_X2_countLiving s m args below meth c s.heap [] 0 0 (QR below (cnt (σ 0) 64) args s) (F0 m 4 ls []) := by
    intro d
    induction d with
    | zero =>
      intro k x hk hx9 ls hl
      refine lv_iload_n hx hb dX2_countLiving_4 rfl (lv_at hl 2 rfl) ?_
      refine lv_bipush (v := 64) hx hb dX2_countLiving_5 (by decide) ?_
      refine lv_icmp_ge (tgt := 27) hx hb dX2_countLiving_7 (by decide) (fun c_1 => ?_) (fun c_1 => ?_)
      · refine lv_iload_n hx hb dX2_countLiving_27 rfl (lv_at hl 1 rfl) ?_
        exact co_endR S hr hlocks dX2_countLiving_28 (by rw [hx9, show k = 64 by omega])
      · exact absurd (nI_le (a := 64) (b := k) (by omega) (by omega)) c_1
    | succ d ih =>
      intro k x hk hx9 ls hl
      refine lv_iload_n hx hb dX2_countLiving_4 rfl (lv_at hl 2 rfl) ?_
      refine lv_bipush (v := 64) hx hb dX2_countLiving_5 (by decide) ?_
      refine lv_icmp_ge (tgt := 27) hx hb dX2_countLiving_7 (by decide) (fun c_2 => ?_) (fun c_2 => ?_)
      · exact absurd c_2 (nI_ge (a := k) (b := 64) (by omega) (by omega))
      · refine lv_aload_n hx hb dX2_countLiving_10 rfl (lv_at hl 0 rfl) ?_
        refine lv_iload_n hx hb dX2_countLiving_11 rfl (lv_at hl 2 rfl) ?_
        refine co_rV (As := [.int (nI k)]) (rest := []) S (c_X2_isAlive l G a σ ρ (nI k)) (cwV 1 hts gX2_countLiving_X2_isAlive rfl rfl rfl (by decide +kernel) ⟨Nat.le_of_ble_eq_true rfl, Nat.le_of_ble_eq_true rfl⟩) hK hP (va_recv hK hP (ci := 1) (q0 := 0) rfl rfl) rfl hl.1 rfl (Nat.le_of_ble_eq_true rfl) dX2_countLiving_12 ⟨Nat.zero_le _, Nat.zero_le _⟩ ?_
        refine co_ifeq (tgt := 21) S dX2_countLiving_15 (by decide) (fun c_3 => ?_) (fun c_3 => ?_)
        · refine lv_iinc (v := (nI (k + 1))) (lv' := [(2, .int (nI (k + 1))), (0, .ref (a 0)), (1, .int x)]) hx hb dX2_countLiving_21 hl (k := 2) rfl (nI_1 k) (by decide) rfl (fun ls hl => ?_)
          refine lv_goto (tgt := 4) hx hb dX2_countLiving_24 (by decide) ?_
          exact ih (k + 1) _ (by omega) (by subst hx9; simp only [cnt, c_3, eq_self, Bool.false_eq_true, ↓reduceIte]) ls (lv_sub hl [1, 2, 0] rfl)
        · refine lv_iinc (v := (x + 1)) (lv' := [(1, .int (x + 1)), (0, .ref (a 0)), (2, .int (nI k))]) hx hb dX2_countLiving_18 hl (k := 1) rfl rfl (by decide) rfl (fun ls hl => ?_)
          refine lv_iinc (v := (nI (k + 1))) (lv' := [(2, .int (nI (k + 1))), (1, .int (x + 1)), (0, .ref (a 0))]) hx hb dX2_countLiving_21 hl (k := 2) rfl (nI_1 k) (by decide) rfl (fun ls hl => ?_)
          refine lv_goto (tgt := 4) hx hb dX2_countLiving_24 (by decide) ?_
          exact ih (k + 1) _ (by omega) (by subst hx9; simp only [cnt, c_3, eq_self, Bool.false_eq_true, ↓reduceIte]) ls (lv_sub hl [2, 1, 0] rfl)
  exact LP 64 0 _ rfl rfl ls (lv_sub hl [2, 1, 0] rfl)

set_option maxRecDepth 20000 in
theorem uX2_X2_firstLivingSuccessor : ∀ w ∈ u_ws RX2 TX2 12, w ∈ wsX2_firstLivingSuccessor := by decide +kernel
abbrev rm_X2_firstLivingSuccessor : Room := { frames := 1, cells := 0, slots := 0, locals := 23 }
set_option maxHeartbeats 4000000 in
set_option maxRecDepth 100000 in
theorem c_X2_firstLivingSuccessor (l : Launch) (G : cG) (a : Nat → Nat) (σ ρ : cS) (n : Int32) : MetR l yX2_firstLivingSuccessor wsX2_firstLivingSuccessor rm_X2_firstLivingSuccessor G (wO G a σ ρ) [.ref (a 0), .int n] (lsF (σ 0) (σ 1) n) := by
  refine co_bodyR (cc := cX2_firstLivingSuccessor) (maxL := 4) (ret := (some .int)) (by decide) rfl (Nat.le_of_ble_eq_true rfl) ?_
  intro p e s m args below meth c S hr hlocks hK hP ls hl
  have S : CallFix p m c cX2_firstLivingSuccessor 4 s args wsX2_firstLivingSuccessor RX2 := S
  obtain ⟨hx, hb, hml, hown, hts⟩ := id S
  have hl : lv_has ls 4 [(0, .ref (a 0)), (1, .int n)] := hl
  have uX2 := uX2_X2_firstLivingSuccessor
  refine lv_iconst (v := 0) hx hb dX2_firstLivingSuccessor_0 (by decide) ?_
  refine lv_istore_n (lv' := [(2, .int 0), (0, .ref (a 0)), (1, .int n)]) hx hb dX2_firstLivingSuccessor_1 rfl hl (by decide) rfl (fun ls hl => ?_)
  refine lv_iload_n hx hb dX2_firstLivingSuccessor_2 rfl (lv_at hl 0 rfl) ?_
  refine lv_iconst (v := 3) hx hb dX2_firstLivingSuccessor_3 (by decide) ?_
  refine lv_icmp_ge (tgt := 33) hx hb dX2_firstLivingSuccessor_4 (by decide) (fun c_1 => ?_) (fun c_1 => ?_)
  · exact absurd c_1 (by decide)
  · refine lv_aload_n hx hb dX2_firstLivingSuccessor_7 rfl (lv_at hl 1 rfl) ?_
    refine va_get (D := G.1) (ci := 1) (v := .ref (a 2)) (C := RX2) (T := TX2) (N := 12) hx hb hts uX2 hown hK hP 0 rfl rfl 1 (by decide) (hts (.fieldLink RX2 18 "ChordOverlay" "successors" "LChordOverlay$Table;") (by decide +kernel)) (fun _ h9 => h9) rfl dX2_firstLivingSuccessor_8 ?_
    refine lv_iload_n hx hb dX2_firstLivingSuccessor_11 rfl (lv_at hl 2 rfl) ?_
    refine lv_iload_n hx hb dX2_firstLivingSuccessor_12 rfl (lv_at hl 0 rfl) ?_
    refine co_rV (As := [.int n, .int 0]) (rest := []) S (c_X1_at l G (a 2) (a 3) 3 (σ 1) n 0 (by decide)) (cwV 2 hts gX2_firstLivingSuccessor_X1_at rfl rfl rfl (by decide +kernel) ⟨Nat.le_of_ble_eq_true rfl, Nat.le_of_ble_eq_true rfl⟩) hK (pG_perm hP [2, 3] rfl) (va_recv hK hP (ci := 0) (q0 := 2) rfl rfl) rfl hl.1 rfl (Nat.le_of_ble_eq_true rfl) dX2_firstLivingSuccessor_13 ⟨Nat.zero_le _, Nat.zero_le _⟩ ?_
    refine lv_istore_n (lv' := [(3, .int (tat 3 (σ 1) n 0)), (2, .int 0), (0, .ref (a 0)), (1, .int n)]) hx hb dX2_firstLivingSuccessor_16 rfl hl (by decide) rfl (fun ls hl => ?_)
    refine lv_aload_n hx hb dX2_firstLivingSuccessor_17 rfl (lv_at hl 2 rfl) ?_
    refine lv_iload_n hx hb dX2_firstLivingSuccessor_18 rfl (lv_at hl 0 rfl) ?_
    refine co_rV (As := [.int (tat 3 (σ 1) n 0)]) (rest := []) S (c_X2_isAlive l G a σ ρ (tat 3 (σ 1) n 0)) (cwV 1 hts gX2_firstLivingSuccessor_X2_isAlive rfl rfl rfl (by decide +kernel) ⟨Nat.le_of_ble_eq_true rfl, Nat.le_of_ble_eq_true rfl⟩) hK hP (va_recv hK hP (ci := 1) (q0 := 0) rfl rfl) rfl hl.1 rfl (Nat.le_of_ble_eq_true rfl) dX2_firstLivingSuccessor_19 ⟨Nat.zero_le _, Nat.zero_le _⟩ ?_
    refine co_ifeq (tgt := 27) S dX2_firstLivingSuccessor_22 (by decide) (fun c_2 => ?_) (fun c_2 => ?_)
    · refine lv_iinc (v := 1) (lv' := [(2, .int 1), (3, .int (tat 3 (σ 1) n 0)), (0, .ref (a 0)), (1, .int n)]) hx hb dX2_firstLivingSuccessor_27 hl (k := 1) rfl (by decide) (by decide) rfl (fun ls hl => ?_)
      refine lv_goto (tgt := 2) hx hb dX2_firstLivingSuccessor_30 (by decide) ?_
      refine lv_iload_n hx hb dX2_firstLivingSuccessor_2 rfl (lv_at hl 0 rfl) ?_
      refine lv_iconst (v := 3) hx hb dX2_firstLivingSuccessor_3 (by decide) ?_
      refine lv_icmp_ge (tgt := 33) hx hb dX2_firstLivingSuccessor_4 (by decide) (fun c_3 => ?_) (fun c_3 => ?_)
      · exact absurd c_3 (by decide)
      · refine lv_aload_n hx hb dX2_firstLivingSuccessor_7 rfl (lv_at hl 2 rfl) ?_
        refine va_get (D := G.1) (ci := 1) (v := .ref (a 2)) (C := RX2) (T := TX2) (N := 12) hx hb hts uX2 hown hK hP 0 rfl rfl 1 (by decide) (hts (.fieldLink RX2 18 "ChordOverlay" "successors" "LChordOverlay$Table;") (by decide +kernel)) (fun _ h9 => h9) rfl dX2_firstLivingSuccessor_8 ?_
        refine lv_iload_n hx hb dX2_firstLivingSuccessor_11 rfl (lv_at hl 3 rfl) ?_
        refine lv_iload_n hx hb dX2_firstLivingSuccessor_12 rfl (lv_at hl 0 rfl) ?_
        refine co_rV (As := [.int n, .int 1]) (rest := []) S (c_X1_at l G (a 2) (a 3) 3 (σ 1) n 1 (by decide)) (cwV 2 hts gX2_firstLivingSuccessor_X1_at rfl rfl rfl (by decide +kernel) ⟨Nat.le_of_ble_eq_true rfl, Nat.le_of_ble_eq_true rfl⟩) hK (pG_perm hP [2, 3] rfl) (va_recv hK hP (ci := 0) (q0 := 2) rfl rfl) rfl hl.1 rfl (Nat.le_of_ble_eq_true rfl) dX2_firstLivingSuccessor_13 ⟨Nat.zero_le _, Nat.zero_le _⟩ ?_
        refine lv_istore_n (lv' := [(3, .int (tat 3 (σ 1) n 1)), (2, .int 1), (0, .ref (a 0)), (1, .int n)]) hx hb dX2_firstLivingSuccessor_16 rfl hl (by decide) rfl (fun ls hl => ?_)
        refine lv_aload_n hx hb dX2_firstLivingSuccessor_17 rfl (lv_at hl 2 rfl) ?_
        refine lv_iload_n hx hb dX2_firstLivingSuccessor_18 rfl (lv_at hl 0 rfl) ?_
        refine co_rV (As := [.int (tat 3 (σ 1) n 1)]) (rest := []) S (c_X2_isAlive l G a σ ρ (tat 3 (σ 1) n 1)) (cwV 1 hts gX2_firstLivingSuccessor_X2_isAlive rfl rfl rfl (by decide +kernel) ⟨Nat.le_of_ble_eq_true rfl, Nat.le_of_ble_eq_true rfl⟩) hK hP (va_recv hK hP (ci := 1) (q0 := 0) rfl rfl) rfl hl.1 rfl (Nat.le_of_ble_eq_true rfl) dX2_firstLivingSuccessor_19 ⟨Nat.zero_le _, Nat.zero_le _⟩ ?_
        refine co_ifeq (tgt := 27) S dX2_firstLivingSuccessor_22 (by decide) (fun c_4 => ?_) (fun c_4 => ?_)
        · refine lv_iinc (v := 2) (lv' := [(2, .int 2), (3, .int (tat 3 (σ 1) n 1)), (0, .ref (a 0)), (1, .int n)]) hx hb dX2_firstLivingSuccessor_27 hl (k := 1) rfl (by decide) (by decide) rfl (fun ls hl => ?_)
          refine lv_goto (tgt := 2) hx hb dX2_firstLivingSuccessor_30 (by decide) ?_
          refine lv_iload_n hx hb dX2_firstLivingSuccessor_2 rfl (lv_at hl 0 rfl) ?_
          refine lv_iconst (v := 3) hx hb dX2_firstLivingSuccessor_3 (by decide) ?_
          refine lv_icmp_ge (tgt := 33) hx hb dX2_firstLivingSuccessor_4 (by decide) (fun c_5 => ?_) (fun c_5 => ?_)
          · exact absurd c_5 (by decide)
          · refine lv_aload_n hx hb dX2_firstLivingSuccessor_7 rfl (lv_at hl 2 rfl) ?_
            refine va_get (D := G.1) (ci := 1) (v := .ref (a 2)) (C := RX2) (T := TX2) (N := 12) hx hb hts uX2 hown hK hP 0 rfl rfl 1 (by decide) (hts (.fieldLink RX2 18 "ChordOverlay" "successors" "LChordOverlay$Table;") (by decide +kernel)) (fun _ h9 => h9) rfl dX2_firstLivingSuccessor_8 ?_
            refine lv_iload_n hx hb dX2_firstLivingSuccessor_11 rfl (lv_at hl 3 rfl) ?_
            refine lv_iload_n hx hb dX2_firstLivingSuccessor_12 rfl (lv_at hl 0 rfl) ?_
            refine co_rV (As := [.int n, .int 2]) (rest := []) S (c_X1_at l G (a 2) (a 3) 3 (σ 1) n 2 (by decide)) (cwV 2 hts gX2_firstLivingSuccessor_X1_at rfl rfl rfl (by decide +kernel) ⟨Nat.le_of_ble_eq_true rfl, Nat.le_of_ble_eq_true rfl⟩) hK (pG_perm hP [2, 3] rfl) (va_recv hK hP (ci := 0) (q0 := 2) rfl rfl) rfl hl.1 rfl (Nat.le_of_ble_eq_true rfl) dX2_firstLivingSuccessor_13 ⟨Nat.zero_le _, Nat.zero_le _⟩ ?_
            refine lv_istore_n (lv' := [(3, .int (tat 3 (σ 1) n 2)), (2, .int 2), (0, .ref (a 0)), (1, .int n)]) hx hb dX2_firstLivingSuccessor_16 rfl hl (by decide) rfl (fun ls hl => ?_)
            refine lv_aload_n hx hb dX2_firstLivingSuccessor_17 rfl (lv_at hl 2 rfl) ?_
            refine lv_iload_n hx hb dX2_firstLivingSuccessor_18 rfl (lv_at hl 0 rfl) ?_
            refine co_rV (As := [.int (tat 3 (σ 1) n 2)]) (rest := []) S (c_X2_isAlive l G a σ ρ (tat 3 (σ 1) n 2)) (cwV 1 hts gX2_firstLivingSuccessor_X2_isAlive rfl rfl rfl (by decide +kernel) ⟨Nat.le_of_ble_eq_true rfl, Nat.le_of_ble_eq_true rfl⟩) hK hP (va_recv hK hP (ci := 1) (q0 := 0) rfl rfl) rfl hl.1 rfl (Nat.le_of_ble_eq_true rfl) dX2_firstLivingSuccessor_19 ⟨Nat.zero_le _, Nat.zero_le _⟩ ?_
            refine co_ifeq (tgt := 27) S dX2_firstLivingSuccessor_22 (by decide) (fun c_6 => ?_) (fun c_6 => ?_)
            · refine lv_iinc (v := 3) (lv' := [(2, .int 3), (3, .int (tat 3 (σ 1) n 2)), (0, .ref (a 0)), (1, .int n)]) hx hb dX2_firstLivingSuccessor_27 hl (k := 1) rfl (by decide) (by decide) rfl (fun ls hl => ?_)
              refine lv_goto (tgt := 2) hx hb dX2_firstLivingSuccessor_30 (by decide) ?_
              refine lv_iload_n hx hb dX2_firstLivingSuccessor_2 rfl (lv_at hl 0 rfl) ?_
              refine lv_iconst (v := 3) hx hb dX2_firstLivingSuccessor_3 (by decide) ?_
              refine lv_icmp_ge (tgt := 33) hx hb dX2_firstLivingSuccessor_4 (by decide) (fun c_7 => ?_) (fun c_7 => ?_)
              · refine lv_iload_n hx hb dX2_firstLivingSuccessor_33 rfl (lv_at hl 3 rfl) ?_
                exact co_endR S hr hlocks dX2_firstLivingSuccessor_34 (by simp only [lsF, c_1, c_2, c_3, c_4, c_5, c_6, c_7, eq_self, Bool.false_eq_true, ↓reduceIte])
              · exact absurd (by decide) c_7
            · refine lv_iload_n hx hb dX2_firstLivingSuccessor_25 rfl (lv_at hl 0 rfl) ?_
              exact co_endR S hr hlocks dX2_firstLivingSuccessor_26 (by simp only [lsF, c_1, c_2, c_3, c_4, c_5, c_6, eq_self, Bool.false_eq_true, ↓reduceIte])
        · refine lv_iload_n hx hb dX2_firstLivingSuccessor_25 rfl (lv_at hl 0 rfl) ?_
          exact co_endR S hr hlocks dX2_firstLivingSuccessor_26 (by simp only [lsF, c_1, c_2, c_3, c_4, eq_self, Bool.false_eq_true, ↓reduceIte])
    · refine lv_iload_n hx hb dX2_firstLivingSuccessor_25 rfl (lv_at hl 0 rfl) ?_
      exact co_endR S hr hlocks dX2_firstLivingSuccessor_26 (by simp only [lsF, c_1, c_2, eq_self, Bool.false_eq_true, ↓reduceIte])

set_option maxRecDepth 20000 in
theorem uX2_X2_firstHeir : ∀ w ∈ u_ws RX2 TX2 12, w ∈ wsX2_firstHeir := by decide +kernel
abbrev rm_X2_firstHeir : Room := { frames := 1, cells := 0, slots := 0, locals := 23 }
set_option maxHeartbeats 4000000 in
set_option maxRecDepth 100000 in
theorem c_X2_firstHeir (l : Launch) (G : cG) (a : Nat → Nat) (σ ρ : cS) (n x : Int32) : MetR l yX2_firstHeir wsX2_firstHeir rm_X2_firstHeir G (wO G a σ ρ) [.ref (a 0), .int n, .int x] (heir (σ 0) (σ 1) n x) := by
  refine co_bodyR (cc := cX2_firstHeir) (maxL := 5) (ret := (some .int)) (by decide) rfl (Nat.le_of_ble_eq_true rfl) ?_
  intro p e s m args below meth c S hr hlocks hK hP ls hl
  have S : CallFix p m c cX2_firstHeir 5 s args wsX2_firstHeir RX2 := S
  obtain ⟨hx, hb, hml, hown, hts⟩ := id S
  have hl : lv_has ls 5 [(0, .ref (a 0)), (1, .int n), (2, .int x)] := hl
  have uX2 := uX2_X2_firstHeir
  refine lv_iconst (v := 0) hx hb dX2_firstHeir_0 (by decide) ?_
  refine lv_istore_n (lv' := [(3, .int 0), (0, .ref (a 0)), (1, .int n), (2, .int x)]) hx hb dX2_firstHeir_1 rfl hl (by decide) rfl (fun ls hl => ?_)
  refine lv_iload_n hx hb dX2_firstHeir_2 rfl (lv_at hl 0 rfl) ?_
  refine lv_iconst (v := 3) hx hb dX2_firstHeir_3 (by decide) ?_
  refine lv_icmp_ge (tgt := 48) hx hb dX2_firstHeir_4 (by decide) (fun c_1 => ?_) (fun c_1 => ?_)
  · exact absurd c_1 (by decide)
  · refine lv_aload_n hx hb dX2_firstHeir_7 rfl (lv_at hl 1 rfl) ?_
    refine va_get (D := G.1) (ci := 1) (v := .ref (a 2)) (C := RX2) (T := TX2) (N := 12) hx hb hts uX2 hown hK hP 0 rfl rfl 1 (by decide) (hts (.fieldLink RX2 18 "ChordOverlay" "successors" "LChordOverlay$Table;") (by decide +kernel)) (fun _ h9 => h9) rfl dX2_firstHeir_8 ?_
    refine lv_iload_n hx hb dX2_firstHeir_11 rfl (lv_at hl 2 rfl) ?_
    refine lv_iload_n hx hb dX2_firstHeir_12 rfl (lv_at hl 0 rfl) ?_
    refine co_rV (As := [.int n, .int 0]) (rest := []) S (c_X1_at l G (a 2) (a 3) 3 (σ 1) n 0 (by decide)) (cwV 2 hts gX2_firstHeir_X1_at rfl rfl rfl (by decide +kernel) ⟨Nat.le_of_ble_eq_true rfl, Nat.le_of_ble_eq_true rfl⟩) hK (pG_perm hP [2, 3] rfl) (va_recv hK hP (ci := 0) (q0 := 2) rfl rfl) rfl hl.1 rfl (Nat.le_of_ble_eq_true rfl) dX2_firstHeir_13 ⟨Nat.zero_le _, Nat.zero_le _⟩ ?_
    refine lv_istore (lv' := [(4, .int (tat 3 (σ 1) n 0)), (3, .int 0), (0, .ref (a 0)), (1, .int n), (2, .int x)]) hx hb dX2_firstHeir_16 hl (by decide) rfl (fun ls hl => ?_)
    refine lv_aload_n hx hb dX2_firstHeir_18 rfl (lv_at hl 2 rfl) ?_
    refine lv_iload hx hb dX2_firstHeir_19 (lv_at hl 0 rfl) ?_
    refine co_rV (As := [.int (tat 3 (σ 1) n 0)]) (rest := []) S (c_X2_isAlive l G a σ ρ (tat 3 (σ 1) n 0)) (cwV 1 hts gX2_firstHeir_X2_isAlive rfl rfl rfl (by decide +kernel) ⟨Nat.le_of_ble_eq_true rfl, Nat.le_of_ble_eq_true rfl⟩) hK hP (va_recv hK hP (ci := 1) (q0 := 0) rfl rfl) rfl hl.1 rfl (Nat.le_of_ble_eq_true rfl) dX2_firstHeir_21 ⟨Nat.zero_le _, Nat.zero_le _⟩ ?_
    refine co_ifeq (tgt := 42) S dX2_firstHeir_24 (by decide) (fun c_2 => ?_) (fun c_2 => ?_)
    · refine lv_iinc (v := 1) (lv' := [(3, .int 1), (4, .int (tat 3 (σ 1) n 0)), (0, .ref (a 0)), (1, .int n), (2, .int x)]) hx hb dX2_firstHeir_42 hl (k := 1) rfl (by decide) (by decide) rfl (fun ls hl => ?_)
      refine lv_goto (tgt := 2) hx hb dX2_firstHeir_45 (by decide) ?_
      refine lv_iload_n hx hb dX2_firstHeir_2 rfl (lv_at hl 0 rfl) ?_
      refine lv_iconst (v := 3) hx hb dX2_firstHeir_3 (by decide) ?_
      refine lv_icmp_ge (tgt := 48) hx hb dX2_firstHeir_4 (by decide) (fun c_3 => ?_) (fun c_3 => ?_)
      · exact absurd c_3 (by decide)
      · refine lv_aload_n hx hb dX2_firstHeir_7 rfl (lv_at hl 2 rfl) ?_
        refine va_get (D := G.1) (ci := 1) (v := .ref (a 2)) (C := RX2) (T := TX2) (N := 12) hx hb hts uX2 hown hK hP 0 rfl rfl 1 (by decide) (hts (.fieldLink RX2 18 "ChordOverlay" "successors" "LChordOverlay$Table;") (by decide +kernel)) (fun _ h9 => h9) rfl dX2_firstHeir_8 ?_
        refine lv_iload_n hx hb dX2_firstHeir_11 rfl (lv_at hl 3 rfl) ?_
        refine lv_iload_n hx hb dX2_firstHeir_12 rfl (lv_at hl 0 rfl) ?_
        refine co_rV (As := [.int n, .int 1]) (rest := []) S (c_X1_at l G (a 2) (a 3) 3 (σ 1) n 1 (by decide)) (cwV 2 hts gX2_firstHeir_X1_at rfl rfl rfl (by decide +kernel) ⟨Nat.le_of_ble_eq_true rfl, Nat.le_of_ble_eq_true rfl⟩) hK (pG_perm hP [2, 3] rfl) (va_recv hK hP (ci := 0) (q0 := 2) rfl rfl) rfl hl.1 rfl (Nat.le_of_ble_eq_true rfl) dX2_firstHeir_13 ⟨Nat.zero_le _, Nat.zero_le _⟩ ?_
        refine lv_istore (lv' := [(4, .int (tat 3 (σ 1) n 1)), (3, .int 1), (0, .ref (a 0)), (1, .int n), (2, .int x)]) hx hb dX2_firstHeir_16 hl (by decide) rfl (fun ls hl => ?_)
        refine lv_aload_n hx hb dX2_firstHeir_18 rfl (lv_at hl 2 rfl) ?_
        refine lv_iload hx hb dX2_firstHeir_19 (lv_at hl 0 rfl) ?_
        refine co_rV (As := [.int (tat 3 (σ 1) n 1)]) (rest := []) S (c_X2_isAlive l G a σ ρ (tat 3 (σ 1) n 1)) (cwV 1 hts gX2_firstHeir_X2_isAlive rfl rfl rfl (by decide +kernel) ⟨Nat.le_of_ble_eq_true rfl, Nat.le_of_ble_eq_true rfl⟩) hK hP (va_recv hK hP (ci := 1) (q0 := 0) rfl rfl) rfl hl.1 rfl (Nat.le_of_ble_eq_true rfl) dX2_firstHeir_21 ⟨Nat.zero_le _, Nat.zero_le _⟩ ?_
        refine co_ifeq (tgt := 42) S dX2_firstHeir_24 (by decide) (fun c_4 => ?_) (fun c_4 => ?_)
        · refine lv_iinc (v := 2) (lv' := [(3, .int 2), (4, .int (tat 3 (σ 1) n 1)), (0, .ref (a 0)), (1, .int n), (2, .int x)]) hx hb dX2_firstHeir_42 hl (k := 1) rfl (by decide) (by decide) rfl (fun ls hl => ?_)
          refine lv_goto (tgt := 2) hx hb dX2_firstHeir_45 (by decide) ?_
          refine lv_iload_n hx hb dX2_firstHeir_2 rfl (lv_at hl 0 rfl) ?_
          refine lv_iconst (v := 3) hx hb dX2_firstHeir_3 (by decide) ?_
          refine lv_icmp_ge (tgt := 48) hx hb dX2_firstHeir_4 (by decide) (fun c_5 => ?_) (fun c_5 => ?_)
          · exact absurd c_5 (by decide)
          · refine lv_aload_n hx hb dX2_firstHeir_7 rfl (lv_at hl 2 rfl) ?_
            refine va_get (D := G.1) (ci := 1) (v := .ref (a 2)) (C := RX2) (T := TX2) (N := 12) hx hb hts uX2 hown hK hP 0 rfl rfl 1 (by decide) (hts (.fieldLink RX2 18 "ChordOverlay" "successors" "LChordOverlay$Table;") (by decide +kernel)) (fun _ h9 => h9) rfl dX2_firstHeir_8 ?_
            refine lv_iload_n hx hb dX2_firstHeir_11 rfl (lv_at hl 3 rfl) ?_
            refine lv_iload_n hx hb dX2_firstHeir_12 rfl (lv_at hl 0 rfl) ?_
            refine co_rV (As := [.int n, .int 2]) (rest := []) S (c_X1_at l G (a 2) (a 3) 3 (σ 1) n 2 (by decide)) (cwV 2 hts gX2_firstHeir_X1_at rfl rfl rfl (by decide +kernel) ⟨Nat.le_of_ble_eq_true rfl, Nat.le_of_ble_eq_true rfl⟩) hK (pG_perm hP [2, 3] rfl) (va_recv hK hP (ci := 0) (q0 := 2) rfl rfl) rfl hl.1 rfl (Nat.le_of_ble_eq_true rfl) dX2_firstHeir_13 ⟨Nat.zero_le _, Nat.zero_le _⟩ ?_
            refine lv_istore (lv' := [(4, .int (tat 3 (σ 1) n 2)), (3, .int 2), (0, .ref (a 0)), (1, .int n), (2, .int x)]) hx hb dX2_firstHeir_16 hl (by decide) rfl (fun ls hl => ?_)
            refine lv_aload_n hx hb dX2_firstHeir_18 rfl (lv_at hl 2 rfl) ?_
            refine lv_iload hx hb dX2_firstHeir_19 (lv_at hl 0 rfl) ?_
            refine co_rV (As := [.int (tat 3 (σ 1) n 2)]) (rest := []) S (c_X2_isAlive l G a σ ρ (tat 3 (σ 1) n 2)) (cwV 1 hts gX2_firstHeir_X2_isAlive rfl rfl rfl (by decide +kernel) ⟨Nat.le_of_ble_eq_true rfl, Nat.le_of_ble_eq_true rfl⟩) hK hP (va_recv hK hP (ci := 1) (q0 := 0) rfl rfl) rfl hl.1 rfl (Nat.le_of_ble_eq_true rfl) dX2_firstHeir_21 ⟨Nat.zero_le _, Nat.zero_le _⟩ ?_
            refine co_ifeq (tgt := 42) S dX2_firstHeir_24 (by decide) (fun c_6 => ?_) (fun c_6 => ?_)
            · refine lv_iinc (v := 3) (lv' := [(3, .int 3), (4, .int (tat 3 (σ 1) n 2)), (0, .ref (a 0)), (1, .int n), (2, .int x)]) hx hb dX2_firstHeir_42 hl (k := 1) rfl (by decide) (by decide) rfl (fun ls hl => ?_)
              refine lv_goto (tgt := 2) hx hb dX2_firstHeir_45 (by decide) ?_
              refine lv_iload_n hx hb dX2_firstHeir_2 rfl (lv_at hl 0 rfl) ?_
              refine lv_iconst (v := 3) hx hb dX2_firstHeir_3 (by decide) ?_
              refine lv_icmp_ge (tgt := 48) hx hb dX2_firstHeir_4 (by decide) (fun c_7 => ?_) (fun c_7 => ?_)
              · refine lv_iconst (v := (-1)) hx hb dX2_firstHeir_48 (by decide) ?_
                exact co_endR S hr hlocks dX2_firstHeir_49 (by simp only [heir, hrS, c_1, c_2, c_3, c_4, c_5, c_6, c_7, eq_self, Bool.false_eq_true, ↓reduceIte])
              · exact absurd (by decide) c_7
            · refine lv_iload hx hb dX2_firstHeir_27 (lv_at hl 0 rfl) ?_
              refine lv_iload_n hx hb dX2_firstHeir_29 rfl (lv_at hl 3 rfl) ?_
              refine lv_icmp_eq (tgt := 42) hx hb dX2_firstHeir_30 (by decide) (fun c_8 => ?_) (fun c_8 => ?_)
              · refine lv_iinc (v := 3) (lv' := [(3, .int 3), (4, .int (tat 3 (σ 1) n 2)), (0, .ref (a 0)), (1, .int n), (2, .int x)]) hx hb dX2_firstHeir_42 hl (k := 1) rfl (by decide) (by decide) rfl (fun ls hl => ?_)
                refine lv_goto (tgt := 2) hx hb dX2_firstHeir_45 (by decide) ?_
                refine lv_iload_n hx hb dX2_firstHeir_2 rfl (lv_at hl 0 rfl) ?_
                refine lv_iconst (v := 3) hx hb dX2_firstHeir_3 (by decide) ?_
                refine lv_icmp_ge (tgt := 48) hx hb dX2_firstHeir_4 (by decide) (fun c_9 => ?_) (fun c_9 => ?_)
                · refine lv_iconst (v := (-1)) hx hb dX2_firstHeir_48 (by decide) ?_
                  exact co_endR S hr hlocks dX2_firstHeir_49 (by simp only [heir, hrS, c_1, c_2, c_3, c_4, c_5, c_6, (eq_true c_8), c_9, eq_self, Bool.false_eq_true, ↓reduceIte])
                · exact absurd (by decide) c_9
              · refine lv_iload hx hb dX2_firstHeir_33 (lv_at hl 0 rfl) ?_
                refine lv_iload_n hx hb dX2_firstHeir_35 rfl (lv_at hl 4 rfl) ?_
                refine lv_icmp_eq (tgt := 42) hx hb dX2_firstHeir_36 (by decide) (fun c_10 => ?_) (fun c_10 => ?_)
                · refine lv_iinc (v := 3) (lv' := [(3, .int 3), (4, .int (tat 3 (σ 1) n 2)), (0, .ref (a 0)), (1, .int n), (2, .int x)]) hx hb dX2_firstHeir_42 hl (k := 1) rfl (by decide) (by decide) rfl (fun ls hl => ?_)
                  refine lv_goto (tgt := 2) hx hb dX2_firstHeir_45 (by decide) ?_
                  refine lv_iload_n hx hb dX2_firstHeir_2 rfl (lv_at hl 0 rfl) ?_
                  refine lv_iconst (v := 3) hx hb dX2_firstHeir_3 (by decide) ?_
                  refine lv_icmp_ge (tgt := 48) hx hb dX2_firstHeir_4 (by decide) (fun c_11 => ?_) (fun c_11 => ?_)
                  · refine lv_iconst (v := (-1)) hx hb dX2_firstHeir_48 (by decide) ?_
                    exact co_endR S hr hlocks dX2_firstHeir_49 (by simp only [heir, hrS, c_1, c_2, c_3, c_4, c_5, c_6, c_8, (eq_true c_10), c_11, eq_self, Bool.false_eq_true, ↓reduceIte])
                  · exact absurd (by decide) c_11
                · refine lv_iload hx hb dX2_firstHeir_39 (lv_at hl 0 rfl) ?_
                  exact co_endR S hr hlocks dX2_firstHeir_41 (by simp only [heir, hrS, c_1, c_2, c_3, c_4, c_5, c_6, c_8, c_10, eq_self, Bool.false_eq_true, ↓reduceIte])
        · refine lv_iload hx hb dX2_firstHeir_27 (lv_at hl 0 rfl) ?_
          refine lv_iload_n hx hb dX2_firstHeir_29 rfl (lv_at hl 3 rfl) ?_
          refine lv_icmp_eq (tgt := 42) hx hb dX2_firstHeir_30 (by decide) (fun c_12 => ?_) (fun c_12 => ?_)
          · refine lv_iinc (v := 2) (lv' := [(3, .int 2), (4, .int (tat 3 (σ 1) n 1)), (0, .ref (a 0)), (1, .int n), (2, .int x)]) hx hb dX2_firstHeir_42 hl (k := 1) rfl (by decide) (by decide) rfl (fun ls hl => ?_)
            refine lv_goto (tgt := 2) hx hb dX2_firstHeir_45 (by decide) ?_
            refine lv_iload_n hx hb dX2_firstHeir_2 rfl (lv_at hl 0 rfl) ?_
            refine lv_iconst (v := 3) hx hb dX2_firstHeir_3 (by decide) ?_
            refine lv_icmp_ge (tgt := 48) hx hb dX2_firstHeir_4 (by decide) (fun c_13 => ?_) (fun c_13 => ?_)
            · exact absurd c_13 (by decide)
            · refine lv_aload_n hx hb dX2_firstHeir_7 rfl (lv_at hl 2 rfl) ?_
              refine va_get (D := G.1) (ci := 1) (v := .ref (a 2)) (C := RX2) (T := TX2) (N := 12) hx hb hts uX2 hown hK hP 0 rfl rfl 1 (by decide) (hts (.fieldLink RX2 18 "ChordOverlay" "successors" "LChordOverlay$Table;") (by decide +kernel)) (fun _ h9 => h9) rfl dX2_firstHeir_8 ?_
              refine lv_iload_n hx hb dX2_firstHeir_11 rfl (lv_at hl 3 rfl) ?_
              refine lv_iload_n hx hb dX2_firstHeir_12 rfl (lv_at hl 0 rfl) ?_
              refine co_rV (As := [.int n, .int 2]) (rest := []) S (c_X1_at l G (a 2) (a 3) 3 (σ 1) n 2 (by decide)) (cwV 2 hts gX2_firstHeir_X1_at rfl rfl rfl (by decide +kernel) ⟨Nat.le_of_ble_eq_true rfl, Nat.le_of_ble_eq_true rfl⟩) hK (pG_perm hP [2, 3] rfl) (va_recv hK hP (ci := 0) (q0 := 2) rfl rfl) rfl hl.1 rfl (Nat.le_of_ble_eq_true rfl) dX2_firstHeir_13 ⟨Nat.zero_le _, Nat.zero_le _⟩ ?_
              refine lv_istore (lv' := [(4, .int (tat 3 (σ 1) n 2)), (3, .int 2), (0, .ref (a 0)), (1, .int n), (2, .int x)]) hx hb dX2_firstHeir_16 hl (by decide) rfl (fun ls hl => ?_)
              refine lv_aload_n hx hb dX2_firstHeir_18 rfl (lv_at hl 2 rfl) ?_
              refine lv_iload hx hb dX2_firstHeir_19 (lv_at hl 0 rfl) ?_
              refine co_rV (As := [.int (tat 3 (σ 1) n 2)]) (rest := []) S (c_X2_isAlive l G a σ ρ (tat 3 (σ 1) n 2)) (cwV 1 hts gX2_firstHeir_X2_isAlive rfl rfl rfl (by decide +kernel) ⟨Nat.le_of_ble_eq_true rfl, Nat.le_of_ble_eq_true rfl⟩) hK hP (va_recv hK hP (ci := 1) (q0 := 0) rfl rfl) rfl hl.1 rfl (Nat.le_of_ble_eq_true rfl) dX2_firstHeir_21 ⟨Nat.zero_le _, Nat.zero_le _⟩ ?_
              refine co_ifeq (tgt := 42) S dX2_firstHeir_24 (by decide) (fun c_14 => ?_) (fun c_14 => ?_)
              · refine lv_iinc (v := 3) (lv' := [(3, .int 3), (4, .int (tat 3 (σ 1) n 2)), (0, .ref (a 0)), (1, .int n), (2, .int x)]) hx hb dX2_firstHeir_42 hl (k := 1) rfl (by decide) (by decide) rfl (fun ls hl => ?_)
                refine lv_goto (tgt := 2) hx hb dX2_firstHeir_45 (by decide) ?_
                refine lv_iload_n hx hb dX2_firstHeir_2 rfl (lv_at hl 0 rfl) ?_
                refine lv_iconst (v := 3) hx hb dX2_firstHeir_3 (by decide) ?_
                refine lv_icmp_ge (tgt := 48) hx hb dX2_firstHeir_4 (by decide) (fun c_15 => ?_) (fun c_15 => ?_)
                · refine lv_iconst (v := (-1)) hx hb dX2_firstHeir_48 (by decide) ?_
                  exact co_endR S hr hlocks dX2_firstHeir_49 (by simp only [heir, hrS, c_1, c_2, c_3, c_4, (eq_true c_12), c_13, c_14, c_15, eq_self, Bool.false_eq_true, ↓reduceIte])
                · exact absurd (by decide) c_15
              · refine lv_iload hx hb dX2_firstHeir_27 (lv_at hl 0 rfl) ?_
                refine lv_iload_n hx hb dX2_firstHeir_29 rfl (lv_at hl 3 rfl) ?_
                refine lv_icmp_eq (tgt := 42) hx hb dX2_firstHeir_30 (by decide) (fun c_16 => ?_) (fun c_16 => ?_)
                · refine lv_iinc (v := 3) (lv' := [(3, .int 3), (4, .int (tat 3 (σ 1) n 2)), (0, .ref (a 0)), (1, .int n), (2, .int x)]) hx hb dX2_firstHeir_42 hl (k := 1) rfl (by decide) (by decide) rfl (fun ls hl => ?_)
                  refine lv_goto (tgt := 2) hx hb dX2_firstHeir_45 (by decide) ?_
                  refine lv_iload_n hx hb dX2_firstHeir_2 rfl (lv_at hl 0 rfl) ?_
                  refine lv_iconst (v := 3) hx hb dX2_firstHeir_3 (by decide) ?_
                  refine lv_icmp_ge (tgt := 48) hx hb dX2_firstHeir_4 (by decide) (fun c_17 => ?_) (fun c_17 => ?_)
                  · refine lv_iconst (v := (-1)) hx hb dX2_firstHeir_48 (by decide) ?_
                    exact co_endR S hr hlocks dX2_firstHeir_49 (by simp only [heir, hrS, c_1, c_2, c_3, c_4, (eq_true c_12), c_13, c_14, (eq_true c_16), c_17, eq_self, Bool.false_eq_true, ↓reduceIte])
                  · exact absurd (by decide) c_17
                · refine lv_iload hx hb dX2_firstHeir_33 (lv_at hl 0 rfl) ?_
                  refine lv_iload_n hx hb dX2_firstHeir_35 rfl (lv_at hl 4 rfl) ?_
                  refine lv_icmp_eq (tgt := 42) hx hb dX2_firstHeir_36 (by decide) (fun c_18 => ?_) (fun c_18 => ?_)
                  · refine lv_iinc (v := 3) (lv' := [(3, .int 3), (4, .int (tat 3 (σ 1) n 2)), (0, .ref (a 0)), (1, .int n), (2, .int x)]) hx hb dX2_firstHeir_42 hl (k := 1) rfl (by decide) (by decide) rfl (fun ls hl => ?_)
                    refine lv_goto (tgt := 2) hx hb dX2_firstHeir_45 (by decide) ?_
                    refine lv_iload_n hx hb dX2_firstHeir_2 rfl (lv_at hl 0 rfl) ?_
                    refine lv_iconst (v := 3) hx hb dX2_firstHeir_3 (by decide) ?_
                    refine lv_icmp_ge (tgt := 48) hx hb dX2_firstHeir_4 (by decide) (fun c_19 => ?_) (fun c_19 => ?_)
                    · refine lv_iconst (v := (-1)) hx hb dX2_firstHeir_48 (by decide) ?_
                      exact co_endR S hr hlocks dX2_firstHeir_49 (by simp only [heir, hrS, c_1, c_2, c_3, c_4, (eq_true c_12), c_13, c_14, c_16, (eq_true c_18), c_19, eq_self, Bool.false_eq_true, ↓reduceIte])
                    · exact absurd (by decide) c_19
                  · refine lv_iload hx hb dX2_firstHeir_39 (lv_at hl 0 rfl) ?_
                    exact co_endR S hr hlocks dX2_firstHeir_41 (by simp only [heir, hrS, c_1, c_2, c_3, c_4, (eq_true c_12), c_13, c_14, c_16, c_18, eq_self, Bool.false_eq_true, ↓reduceIte])
          · refine lv_iload hx hb dX2_firstHeir_33 (lv_at hl 0 rfl) ?_
            refine lv_iload_n hx hb dX2_firstHeir_35 rfl (lv_at hl 4 rfl) ?_
            refine lv_icmp_eq (tgt := 42) hx hb dX2_firstHeir_36 (by decide) (fun c_20 => ?_) (fun c_20 => ?_)
            · refine lv_iinc (v := 2) (lv' := [(3, .int 2), (4, .int (tat 3 (σ 1) n 1)), (0, .ref (a 0)), (1, .int n), (2, .int x)]) hx hb dX2_firstHeir_42 hl (k := 1) rfl (by decide) (by decide) rfl (fun ls hl => ?_)
              refine lv_goto (tgt := 2) hx hb dX2_firstHeir_45 (by decide) ?_
              refine lv_iload_n hx hb dX2_firstHeir_2 rfl (lv_at hl 0 rfl) ?_
              refine lv_iconst (v := 3) hx hb dX2_firstHeir_3 (by decide) ?_
              refine lv_icmp_ge (tgt := 48) hx hb dX2_firstHeir_4 (by decide) (fun c_21 => ?_) (fun c_21 => ?_)
              · exact absurd c_21 (by decide)
              · refine lv_aload_n hx hb dX2_firstHeir_7 rfl (lv_at hl 2 rfl) ?_
                refine va_get (D := G.1) (ci := 1) (v := .ref (a 2)) (C := RX2) (T := TX2) (N := 12) hx hb hts uX2 hown hK hP 0 rfl rfl 1 (by decide) (hts (.fieldLink RX2 18 "ChordOverlay" "successors" "LChordOverlay$Table;") (by decide +kernel)) (fun _ h9 => h9) rfl dX2_firstHeir_8 ?_
                refine lv_iload_n hx hb dX2_firstHeir_11 rfl (lv_at hl 3 rfl) ?_
                refine lv_iload_n hx hb dX2_firstHeir_12 rfl (lv_at hl 0 rfl) ?_
                refine co_rV (As := [.int n, .int 2]) (rest := []) S (c_X1_at l G (a 2) (a 3) 3 (σ 1) n 2 (by decide)) (cwV 2 hts gX2_firstHeir_X1_at rfl rfl rfl (by decide +kernel) ⟨Nat.le_of_ble_eq_true rfl, Nat.le_of_ble_eq_true rfl⟩) hK (pG_perm hP [2, 3] rfl) (va_recv hK hP (ci := 0) (q0 := 2) rfl rfl) rfl hl.1 rfl (Nat.le_of_ble_eq_true rfl) dX2_firstHeir_13 ⟨Nat.zero_le _, Nat.zero_le _⟩ ?_
                refine lv_istore (lv' := [(4, .int (tat 3 (σ 1) n 2)), (3, .int 2), (0, .ref (a 0)), (1, .int n), (2, .int x)]) hx hb dX2_firstHeir_16 hl (by decide) rfl (fun ls hl => ?_)
                refine lv_aload_n hx hb dX2_firstHeir_18 rfl (lv_at hl 2 rfl) ?_
                refine lv_iload hx hb dX2_firstHeir_19 (lv_at hl 0 rfl) ?_
                refine co_rV (As := [.int (tat 3 (σ 1) n 2)]) (rest := []) S (c_X2_isAlive l G a σ ρ (tat 3 (σ 1) n 2)) (cwV 1 hts gX2_firstHeir_X2_isAlive rfl rfl rfl (by decide +kernel) ⟨Nat.le_of_ble_eq_true rfl, Nat.le_of_ble_eq_true rfl⟩) hK hP (va_recv hK hP (ci := 1) (q0 := 0) rfl rfl) rfl hl.1 rfl (Nat.le_of_ble_eq_true rfl) dX2_firstHeir_21 ⟨Nat.zero_le _, Nat.zero_le _⟩ ?_
                refine co_ifeq (tgt := 42) S dX2_firstHeir_24 (by decide) (fun c_22 => ?_) (fun c_22 => ?_)
                · refine lv_iinc (v := 3) (lv' := [(3, .int 3), (4, .int (tat 3 (σ 1) n 2)), (0, .ref (a 0)), (1, .int n), (2, .int x)]) hx hb dX2_firstHeir_42 hl (k := 1) rfl (by decide) (by decide) rfl (fun ls hl => ?_)
                  refine lv_goto (tgt := 2) hx hb dX2_firstHeir_45 (by decide) ?_
                  refine lv_iload_n hx hb dX2_firstHeir_2 rfl (lv_at hl 0 rfl) ?_
                  refine lv_iconst (v := 3) hx hb dX2_firstHeir_3 (by decide) ?_
                  refine lv_icmp_ge (tgt := 48) hx hb dX2_firstHeir_4 (by decide) (fun c_23 => ?_) (fun c_23 => ?_)
                  · refine lv_iconst (v := (-1)) hx hb dX2_firstHeir_48 (by decide) ?_
                    exact co_endR S hr hlocks dX2_firstHeir_49 (by simp only [heir, hrS, c_1, c_2, c_3, c_4, c_12, (eq_true c_20), c_21, c_22, c_23, eq_self, Bool.false_eq_true, ↓reduceIte])
                  · exact absurd (by decide) c_23
                · refine lv_iload hx hb dX2_firstHeir_27 (lv_at hl 0 rfl) ?_
                  refine lv_iload_n hx hb dX2_firstHeir_29 rfl (lv_at hl 3 rfl) ?_
                  refine lv_icmp_eq (tgt := 42) hx hb dX2_firstHeir_30 (by decide) (fun c_24 => ?_) (fun c_24 => ?_)
                  · refine lv_iinc (v := 3) (lv' := [(3, .int 3), (4, .int (tat 3 (σ 1) n 2)), (0, .ref (a 0)), (1, .int n), (2, .int x)]) hx hb dX2_firstHeir_42 hl (k := 1) rfl (by decide) (by decide) rfl (fun ls hl => ?_)
                    refine lv_goto (tgt := 2) hx hb dX2_firstHeir_45 (by decide) ?_
                    refine lv_iload_n hx hb dX2_firstHeir_2 rfl (lv_at hl 0 rfl) ?_
                    refine lv_iconst (v := 3) hx hb dX2_firstHeir_3 (by decide) ?_
                    refine lv_icmp_ge (tgt := 48) hx hb dX2_firstHeir_4 (by decide) (fun c_25 => ?_) (fun c_25 => ?_)
                    · refine lv_iconst (v := (-1)) hx hb dX2_firstHeir_48 (by decide) ?_
                      exact co_endR S hr hlocks dX2_firstHeir_49 (by simp only [heir, hrS, c_1, c_2, c_3, c_4, c_12, (eq_true c_20), c_21, c_22, (eq_true c_24), c_25, eq_self, Bool.false_eq_true, ↓reduceIte])
                    · exact absurd (by decide) c_25
                  · refine lv_iload hx hb dX2_firstHeir_33 (lv_at hl 0 rfl) ?_
                    refine lv_iload_n hx hb dX2_firstHeir_35 rfl (lv_at hl 4 rfl) ?_
                    refine lv_icmp_eq (tgt := 42) hx hb dX2_firstHeir_36 (by decide) (fun c_26 => ?_) (fun c_26 => ?_)
                    · refine lv_iinc (v := 3) (lv' := [(3, .int 3), (4, .int (tat 3 (σ 1) n 2)), (0, .ref (a 0)), (1, .int n), (2, .int x)]) hx hb dX2_firstHeir_42 hl (k := 1) rfl (by decide) (by decide) rfl (fun ls hl => ?_)
                      refine lv_goto (tgt := 2) hx hb dX2_firstHeir_45 (by decide) ?_
                      refine lv_iload_n hx hb dX2_firstHeir_2 rfl (lv_at hl 0 rfl) ?_
                      refine lv_iconst (v := 3) hx hb dX2_firstHeir_3 (by decide) ?_
                      refine lv_icmp_ge (tgt := 48) hx hb dX2_firstHeir_4 (by decide) (fun c_27 => ?_) (fun c_27 => ?_)
                      · refine lv_iconst (v := (-1)) hx hb dX2_firstHeir_48 (by decide) ?_
                        exact co_endR S hr hlocks dX2_firstHeir_49 (by simp only [heir, hrS, c_1, c_2, c_3, c_4, c_12, (eq_true c_20), c_21, c_22, c_24, (eq_true c_26), c_27, eq_self, Bool.false_eq_true, ↓reduceIte])
                      · exact absurd (by decide) c_27
                    · refine lv_iload hx hb dX2_firstHeir_39 (lv_at hl 0 rfl) ?_
                      exact co_endR S hr hlocks dX2_firstHeir_41 (by simp only [heir, hrS, c_1, c_2, c_3, c_4, c_12, (eq_true c_20), c_21, c_22, c_24, c_26, eq_self, Bool.false_eq_true, ↓reduceIte])
            · refine lv_iload hx hb dX2_firstHeir_39 (lv_at hl 0 rfl) ?_
              exact co_endR S hr hlocks dX2_firstHeir_41 (by simp only [heir, hrS, c_1, c_2, c_3, c_4, c_12, c_20, eq_self, Bool.false_eq_true, ↓reduceIte])
    · refine lv_iload hx hb dX2_firstHeir_27 (lv_at hl 0 rfl) ?_
      refine lv_iload_n hx hb dX2_firstHeir_29 rfl (lv_at hl 3 rfl) ?_
      refine lv_icmp_eq (tgt := 42) hx hb dX2_firstHeir_30 (by decide) (fun c_28 => ?_) (fun c_28 => ?_)
      · refine lv_iinc (v := 1) (lv' := [(3, .int 1), (4, .int (tat 3 (σ 1) n 0)), (0, .ref (a 0)), (1, .int n), (2, .int x)]) hx hb dX2_firstHeir_42 hl (k := 1) rfl (by decide) (by decide) rfl (fun ls hl => ?_)
        refine lv_goto (tgt := 2) hx hb dX2_firstHeir_45 (by decide) ?_
        refine lv_iload_n hx hb dX2_firstHeir_2 rfl (lv_at hl 0 rfl) ?_
        refine lv_iconst (v := 3) hx hb dX2_firstHeir_3 (by decide) ?_
        refine lv_icmp_ge (tgt := 48) hx hb dX2_firstHeir_4 (by decide) (fun c_29 => ?_) (fun c_29 => ?_)
        · exact absurd c_29 (by decide)
        · refine lv_aload_n hx hb dX2_firstHeir_7 rfl (lv_at hl 2 rfl) ?_
          refine va_get (D := G.1) (ci := 1) (v := .ref (a 2)) (C := RX2) (T := TX2) (N := 12) hx hb hts uX2 hown hK hP 0 rfl rfl 1 (by decide) (hts (.fieldLink RX2 18 "ChordOverlay" "successors" "LChordOverlay$Table;") (by decide +kernel)) (fun _ h9 => h9) rfl dX2_firstHeir_8 ?_
          refine lv_iload_n hx hb dX2_firstHeir_11 rfl (lv_at hl 3 rfl) ?_
          refine lv_iload_n hx hb dX2_firstHeir_12 rfl (lv_at hl 0 rfl) ?_
          refine co_rV (As := [.int n, .int 1]) (rest := []) S (c_X1_at l G (a 2) (a 3) 3 (σ 1) n 1 (by decide)) (cwV 2 hts gX2_firstHeir_X1_at rfl rfl rfl (by decide +kernel) ⟨Nat.le_of_ble_eq_true rfl, Nat.le_of_ble_eq_true rfl⟩) hK (pG_perm hP [2, 3] rfl) (va_recv hK hP (ci := 0) (q0 := 2) rfl rfl) rfl hl.1 rfl (Nat.le_of_ble_eq_true rfl) dX2_firstHeir_13 ⟨Nat.zero_le _, Nat.zero_le _⟩ ?_
          refine lv_istore (lv' := [(4, .int (tat 3 (σ 1) n 1)), (3, .int 1), (0, .ref (a 0)), (1, .int n), (2, .int x)]) hx hb dX2_firstHeir_16 hl (by decide) rfl (fun ls hl => ?_)
          refine lv_aload_n hx hb dX2_firstHeir_18 rfl (lv_at hl 2 rfl) ?_
          refine lv_iload hx hb dX2_firstHeir_19 (lv_at hl 0 rfl) ?_
          refine co_rV (As := [.int (tat 3 (σ 1) n 1)]) (rest := []) S (c_X2_isAlive l G a σ ρ (tat 3 (σ 1) n 1)) (cwV 1 hts gX2_firstHeir_X2_isAlive rfl rfl rfl (by decide +kernel) ⟨Nat.le_of_ble_eq_true rfl, Nat.le_of_ble_eq_true rfl⟩) hK hP (va_recv hK hP (ci := 1) (q0 := 0) rfl rfl) rfl hl.1 rfl (Nat.le_of_ble_eq_true rfl) dX2_firstHeir_21 ⟨Nat.zero_le _, Nat.zero_le _⟩ ?_
          refine co_ifeq (tgt := 42) S dX2_firstHeir_24 (by decide) (fun c_30 => ?_) (fun c_30 => ?_)
          · refine lv_iinc (v := 2) (lv' := [(3, .int 2), (4, .int (tat 3 (σ 1) n 1)), (0, .ref (a 0)), (1, .int n), (2, .int x)]) hx hb dX2_firstHeir_42 hl (k := 1) rfl (by decide) (by decide) rfl (fun ls hl => ?_)
            refine lv_goto (tgt := 2) hx hb dX2_firstHeir_45 (by decide) ?_
            refine lv_iload_n hx hb dX2_firstHeir_2 rfl (lv_at hl 0 rfl) ?_
            refine lv_iconst (v := 3) hx hb dX2_firstHeir_3 (by decide) ?_
            refine lv_icmp_ge (tgt := 48) hx hb dX2_firstHeir_4 (by decide) (fun c_31 => ?_) (fun c_31 => ?_)
            · exact absurd c_31 (by decide)
            · refine lv_aload_n hx hb dX2_firstHeir_7 rfl (lv_at hl 2 rfl) ?_
              refine va_get (D := G.1) (ci := 1) (v := .ref (a 2)) (C := RX2) (T := TX2) (N := 12) hx hb hts uX2 hown hK hP 0 rfl rfl 1 (by decide) (hts (.fieldLink RX2 18 "ChordOverlay" "successors" "LChordOverlay$Table;") (by decide +kernel)) (fun _ h9 => h9) rfl dX2_firstHeir_8 ?_
              refine lv_iload_n hx hb dX2_firstHeir_11 rfl (lv_at hl 3 rfl) ?_
              refine lv_iload_n hx hb dX2_firstHeir_12 rfl (lv_at hl 0 rfl) ?_
              refine co_rV (As := [.int n, .int 2]) (rest := []) S (c_X1_at l G (a 2) (a 3) 3 (σ 1) n 2 (by decide)) (cwV 2 hts gX2_firstHeir_X1_at rfl rfl rfl (by decide +kernel) ⟨Nat.le_of_ble_eq_true rfl, Nat.le_of_ble_eq_true rfl⟩) hK (pG_perm hP [2, 3] rfl) (va_recv hK hP (ci := 0) (q0 := 2) rfl rfl) rfl hl.1 rfl (Nat.le_of_ble_eq_true rfl) dX2_firstHeir_13 ⟨Nat.zero_le _, Nat.zero_le _⟩ ?_
              refine lv_istore (lv' := [(4, .int (tat 3 (σ 1) n 2)), (3, .int 2), (0, .ref (a 0)), (1, .int n), (2, .int x)]) hx hb dX2_firstHeir_16 hl (by decide) rfl (fun ls hl => ?_)
              refine lv_aload_n hx hb dX2_firstHeir_18 rfl (lv_at hl 2 rfl) ?_
              refine lv_iload hx hb dX2_firstHeir_19 (lv_at hl 0 rfl) ?_
              refine co_rV (As := [.int (tat 3 (σ 1) n 2)]) (rest := []) S (c_X2_isAlive l G a σ ρ (tat 3 (σ 1) n 2)) (cwV 1 hts gX2_firstHeir_X2_isAlive rfl rfl rfl (by decide +kernel) ⟨Nat.le_of_ble_eq_true rfl, Nat.le_of_ble_eq_true rfl⟩) hK hP (va_recv hK hP (ci := 1) (q0 := 0) rfl rfl) rfl hl.1 rfl (Nat.le_of_ble_eq_true rfl) dX2_firstHeir_21 ⟨Nat.zero_le _, Nat.zero_le _⟩ ?_
              refine co_ifeq (tgt := 42) S dX2_firstHeir_24 (by decide) (fun c_32 => ?_) (fun c_32 => ?_)
              · refine lv_iinc (v := 3) (lv' := [(3, .int 3), (4, .int (tat 3 (σ 1) n 2)), (0, .ref (a 0)), (1, .int n), (2, .int x)]) hx hb dX2_firstHeir_42 hl (k := 1) rfl (by decide) (by decide) rfl (fun ls hl => ?_)
                refine lv_goto (tgt := 2) hx hb dX2_firstHeir_45 (by decide) ?_
                refine lv_iload_n hx hb dX2_firstHeir_2 rfl (lv_at hl 0 rfl) ?_
                refine lv_iconst (v := 3) hx hb dX2_firstHeir_3 (by decide) ?_
                refine lv_icmp_ge (tgt := 48) hx hb dX2_firstHeir_4 (by decide) (fun c_33 => ?_) (fun c_33 => ?_)
                · refine lv_iconst (v := (-1)) hx hb dX2_firstHeir_48 (by decide) ?_
                  exact co_endR S hr hlocks dX2_firstHeir_49 (by simp only [heir, hrS, c_1, c_2, (eq_true c_28), c_29, c_30, c_31, c_32, c_33, eq_self, Bool.false_eq_true, ↓reduceIte])
                · exact absurd (by decide) c_33
              · refine lv_iload hx hb dX2_firstHeir_27 (lv_at hl 0 rfl) ?_
                refine lv_iload_n hx hb dX2_firstHeir_29 rfl (lv_at hl 3 rfl) ?_
                refine lv_icmp_eq (tgt := 42) hx hb dX2_firstHeir_30 (by decide) (fun c_34 => ?_) (fun c_34 => ?_)
                · refine lv_iinc (v := 3) (lv' := [(3, .int 3), (4, .int (tat 3 (σ 1) n 2)), (0, .ref (a 0)), (1, .int n), (2, .int x)]) hx hb dX2_firstHeir_42 hl (k := 1) rfl (by decide) (by decide) rfl (fun ls hl => ?_)
                  refine lv_goto (tgt := 2) hx hb dX2_firstHeir_45 (by decide) ?_
                  refine lv_iload_n hx hb dX2_firstHeir_2 rfl (lv_at hl 0 rfl) ?_
                  refine lv_iconst (v := 3) hx hb dX2_firstHeir_3 (by decide) ?_
                  refine lv_icmp_ge (tgt := 48) hx hb dX2_firstHeir_4 (by decide) (fun c_35 => ?_) (fun c_35 => ?_)
                  · refine lv_iconst (v := (-1)) hx hb dX2_firstHeir_48 (by decide) ?_
                    exact co_endR S hr hlocks dX2_firstHeir_49 (by simp only [heir, hrS, c_1, c_2, (eq_true c_28), c_29, c_30, c_31, c_32, (eq_true c_34), c_35, eq_self, Bool.false_eq_true, ↓reduceIte])
                  · exact absurd (by decide) c_35
                · refine lv_iload hx hb dX2_firstHeir_33 (lv_at hl 0 rfl) ?_
                  refine lv_iload_n hx hb dX2_firstHeir_35 rfl (lv_at hl 4 rfl) ?_
                  refine lv_icmp_eq (tgt := 42) hx hb dX2_firstHeir_36 (by decide) (fun c_36 => ?_) (fun c_36 => ?_)
                  · refine lv_iinc (v := 3) (lv' := [(3, .int 3), (4, .int (tat 3 (σ 1) n 2)), (0, .ref (a 0)), (1, .int n), (2, .int x)]) hx hb dX2_firstHeir_42 hl (k := 1) rfl (by decide) (by decide) rfl (fun ls hl => ?_)
                    refine lv_goto (tgt := 2) hx hb dX2_firstHeir_45 (by decide) ?_
                    refine lv_iload_n hx hb dX2_firstHeir_2 rfl (lv_at hl 0 rfl) ?_
                    refine lv_iconst (v := 3) hx hb dX2_firstHeir_3 (by decide) ?_
                    refine lv_icmp_ge (tgt := 48) hx hb dX2_firstHeir_4 (by decide) (fun c_37 => ?_) (fun c_37 => ?_)
                    · refine lv_iconst (v := (-1)) hx hb dX2_firstHeir_48 (by decide) ?_
                      exact co_endR S hr hlocks dX2_firstHeir_49 (by simp only [heir, hrS, c_1, c_2, (eq_true c_28), c_29, c_30, c_31, c_32, c_34, (eq_true c_36), c_37, eq_self, Bool.false_eq_true, ↓reduceIte])
                    · exact absurd (by decide) c_37
                  · refine lv_iload hx hb dX2_firstHeir_39 (lv_at hl 0 rfl) ?_
                    exact co_endR S hr hlocks dX2_firstHeir_41 (by simp only [heir, hrS, c_1, c_2, (eq_true c_28), c_29, c_30, c_31, c_32, c_34, c_36, eq_self, Bool.false_eq_true, ↓reduceIte])
          · refine lv_iload hx hb dX2_firstHeir_27 (lv_at hl 0 rfl) ?_
            refine lv_iload_n hx hb dX2_firstHeir_29 rfl (lv_at hl 3 rfl) ?_
            refine lv_icmp_eq (tgt := 42) hx hb dX2_firstHeir_30 (by decide) (fun c_38 => ?_) (fun c_38 => ?_)
            · refine lv_iinc (v := 2) (lv' := [(3, .int 2), (4, .int (tat 3 (σ 1) n 1)), (0, .ref (a 0)), (1, .int n), (2, .int x)]) hx hb dX2_firstHeir_42 hl (k := 1) rfl (by decide) (by decide) rfl (fun ls hl => ?_)
              refine lv_goto (tgt := 2) hx hb dX2_firstHeir_45 (by decide) ?_
              refine lv_iload_n hx hb dX2_firstHeir_2 rfl (lv_at hl 0 rfl) ?_
              refine lv_iconst (v := 3) hx hb dX2_firstHeir_3 (by decide) ?_
              refine lv_icmp_ge (tgt := 48) hx hb dX2_firstHeir_4 (by decide) (fun c_39 => ?_) (fun c_39 => ?_)
              · exact absurd c_39 (by decide)
              · refine lv_aload_n hx hb dX2_firstHeir_7 rfl (lv_at hl 2 rfl) ?_
                refine va_get (D := G.1) (ci := 1) (v := .ref (a 2)) (C := RX2) (T := TX2) (N := 12) hx hb hts uX2 hown hK hP 0 rfl rfl 1 (by decide) (hts (.fieldLink RX2 18 "ChordOverlay" "successors" "LChordOverlay$Table;") (by decide +kernel)) (fun _ h9 => h9) rfl dX2_firstHeir_8 ?_
                refine lv_iload_n hx hb dX2_firstHeir_11 rfl (lv_at hl 3 rfl) ?_
                refine lv_iload_n hx hb dX2_firstHeir_12 rfl (lv_at hl 0 rfl) ?_
                refine co_rV (As := [.int n, .int 2]) (rest := []) S (c_X1_at l G (a 2) (a 3) 3 (σ 1) n 2 (by decide)) (cwV 2 hts gX2_firstHeir_X1_at rfl rfl rfl (by decide +kernel) ⟨Nat.le_of_ble_eq_true rfl, Nat.le_of_ble_eq_true rfl⟩) hK (pG_perm hP [2, 3] rfl) (va_recv hK hP (ci := 0) (q0 := 2) rfl rfl) rfl hl.1 rfl (Nat.le_of_ble_eq_true rfl) dX2_firstHeir_13 ⟨Nat.zero_le _, Nat.zero_le _⟩ ?_
                refine lv_istore (lv' := [(4, .int (tat 3 (σ 1) n 2)), (3, .int 2), (0, .ref (a 0)), (1, .int n), (2, .int x)]) hx hb dX2_firstHeir_16 hl (by decide) rfl (fun ls hl => ?_)
                refine lv_aload_n hx hb dX2_firstHeir_18 rfl (lv_at hl 2 rfl) ?_
                refine lv_iload hx hb dX2_firstHeir_19 (lv_at hl 0 rfl) ?_
                refine co_rV (As := [.int (tat 3 (σ 1) n 2)]) (rest := []) S (c_X2_isAlive l G a σ ρ (tat 3 (σ 1) n 2)) (cwV 1 hts gX2_firstHeir_X2_isAlive rfl rfl rfl (by decide +kernel) ⟨Nat.le_of_ble_eq_true rfl, Nat.le_of_ble_eq_true rfl⟩) hK hP (va_recv hK hP (ci := 1) (q0 := 0) rfl rfl) rfl hl.1 rfl (Nat.le_of_ble_eq_true rfl) dX2_firstHeir_21 ⟨Nat.zero_le _, Nat.zero_le _⟩ ?_
                refine co_ifeq (tgt := 42) S dX2_firstHeir_24 (by decide) (fun c_40 => ?_) (fun c_40 => ?_)
                · refine lv_iinc (v := 3) (lv' := [(3, .int 3), (4, .int (tat 3 (σ 1) n 2)), (0, .ref (a 0)), (1, .int n), (2, .int x)]) hx hb dX2_firstHeir_42 hl (k := 1) rfl (by decide) (by decide) rfl (fun ls hl => ?_)
                  refine lv_goto (tgt := 2) hx hb dX2_firstHeir_45 (by decide) ?_
                  refine lv_iload_n hx hb dX2_firstHeir_2 rfl (lv_at hl 0 rfl) ?_
                  refine lv_iconst (v := 3) hx hb dX2_firstHeir_3 (by decide) ?_
                  refine lv_icmp_ge (tgt := 48) hx hb dX2_firstHeir_4 (by decide) (fun c_41 => ?_) (fun c_41 => ?_)
                  · refine lv_iconst (v := (-1)) hx hb dX2_firstHeir_48 (by decide) ?_
                    exact co_endR S hr hlocks dX2_firstHeir_49 (by simp only [heir, hrS, c_1, c_2, (eq_true c_28), c_29, c_30, (eq_true c_38), c_39, c_40, c_41, eq_self, Bool.false_eq_true, ↓reduceIte])
                  · exact absurd (by decide) c_41
                · refine lv_iload hx hb dX2_firstHeir_27 (lv_at hl 0 rfl) ?_
                  refine lv_iload_n hx hb dX2_firstHeir_29 rfl (lv_at hl 3 rfl) ?_
                  refine lv_icmp_eq (tgt := 42) hx hb dX2_firstHeir_30 (by decide) (fun c_42 => ?_) (fun c_42 => ?_)
                  · refine lv_iinc (v := 3) (lv' := [(3, .int 3), (4, .int (tat 3 (σ 1) n 2)), (0, .ref (a 0)), (1, .int n), (2, .int x)]) hx hb dX2_firstHeir_42 hl (k := 1) rfl (by decide) (by decide) rfl (fun ls hl => ?_)
                    refine lv_goto (tgt := 2) hx hb dX2_firstHeir_45 (by decide) ?_
                    refine lv_iload_n hx hb dX2_firstHeir_2 rfl (lv_at hl 0 rfl) ?_
                    refine lv_iconst (v := 3) hx hb dX2_firstHeir_3 (by decide) ?_
                    refine lv_icmp_ge (tgt := 48) hx hb dX2_firstHeir_4 (by decide) (fun c_43 => ?_) (fun c_43 => ?_)
                    · refine lv_iconst (v := (-1)) hx hb dX2_firstHeir_48 (by decide) ?_
                      exact co_endR S hr hlocks dX2_firstHeir_49 (by simp only [heir, hrS, c_1, c_2, (eq_true c_28), c_29, c_30, (eq_true c_38), c_39, c_40, (eq_true c_42), c_43, eq_self, Bool.false_eq_true, ↓reduceIte])
                    · exact absurd (by decide) c_43
                  · refine lv_iload hx hb dX2_firstHeir_33 (lv_at hl 0 rfl) ?_
                    refine lv_iload_n hx hb dX2_firstHeir_35 rfl (lv_at hl 4 rfl) ?_
                    refine lv_icmp_eq (tgt := 42) hx hb dX2_firstHeir_36 (by decide) (fun c_44 => ?_) (fun c_44 => ?_)
                    · refine lv_iinc (v := 3) (lv' := [(3, .int 3), (4, .int (tat 3 (σ 1) n 2)), (0, .ref (a 0)), (1, .int n), (2, .int x)]) hx hb dX2_firstHeir_42 hl (k := 1) rfl (by decide) (by decide) rfl (fun ls hl => ?_)
                      refine lv_goto (tgt := 2) hx hb dX2_firstHeir_45 (by decide) ?_
                      refine lv_iload_n hx hb dX2_firstHeir_2 rfl (lv_at hl 0 rfl) ?_
                      refine lv_iconst (v := 3) hx hb dX2_firstHeir_3 (by decide) ?_
                      refine lv_icmp_ge (tgt := 48) hx hb dX2_firstHeir_4 (by decide) (fun c_45 => ?_) (fun c_45 => ?_)
                      · refine lv_iconst (v := (-1)) hx hb dX2_firstHeir_48 (by decide) ?_
                        exact co_endR S hr hlocks dX2_firstHeir_49 (by simp only [heir, hrS, c_1, c_2, (eq_true c_28), c_29, c_30, (eq_true c_38), c_39, c_40, c_42, (eq_true c_44), c_45, eq_self, Bool.false_eq_true, ↓reduceIte])
                      · exact absurd (by decide) c_45
                    · refine lv_iload hx hb dX2_firstHeir_39 (lv_at hl 0 rfl) ?_
                      exact co_endR S hr hlocks dX2_firstHeir_41 (by simp only [heir, hrS, c_1, c_2, (eq_true c_28), c_29, c_30, (eq_true c_38), c_39, c_40, c_42, c_44, eq_self, Bool.false_eq_true, ↓reduceIte])
            · refine lv_iload hx hb dX2_firstHeir_33 (lv_at hl 0 rfl) ?_
              refine lv_iload_n hx hb dX2_firstHeir_35 rfl (lv_at hl 4 rfl) ?_
              refine lv_icmp_eq (tgt := 42) hx hb dX2_firstHeir_36 (by decide) (fun c_46 => ?_) (fun c_46 => ?_)
              · refine lv_iinc (v := 2) (lv' := [(3, .int 2), (4, .int (tat 3 (σ 1) n 1)), (0, .ref (a 0)), (1, .int n), (2, .int x)]) hx hb dX2_firstHeir_42 hl (k := 1) rfl (by decide) (by decide) rfl (fun ls hl => ?_)
                refine lv_goto (tgt := 2) hx hb dX2_firstHeir_45 (by decide) ?_
                refine lv_iload_n hx hb dX2_firstHeir_2 rfl (lv_at hl 0 rfl) ?_
                refine lv_iconst (v := 3) hx hb dX2_firstHeir_3 (by decide) ?_
                refine lv_icmp_ge (tgt := 48) hx hb dX2_firstHeir_4 (by decide) (fun c_47 => ?_) (fun c_47 => ?_)
                · exact absurd c_47 (by decide)
                · refine lv_aload_n hx hb dX2_firstHeir_7 rfl (lv_at hl 2 rfl) ?_
                  refine va_get (D := G.1) (ci := 1) (v := .ref (a 2)) (C := RX2) (T := TX2) (N := 12) hx hb hts uX2 hown hK hP 0 rfl rfl 1 (by decide) (hts (.fieldLink RX2 18 "ChordOverlay" "successors" "LChordOverlay$Table;") (by decide +kernel)) (fun _ h9 => h9) rfl dX2_firstHeir_8 ?_
                  refine lv_iload_n hx hb dX2_firstHeir_11 rfl (lv_at hl 3 rfl) ?_
                  refine lv_iload_n hx hb dX2_firstHeir_12 rfl (lv_at hl 0 rfl) ?_
                  refine co_rV (As := [.int n, .int 2]) (rest := []) S (c_X1_at l G (a 2) (a 3) 3 (σ 1) n 2 (by decide)) (cwV 2 hts gX2_firstHeir_X1_at rfl rfl rfl (by decide +kernel) ⟨Nat.le_of_ble_eq_true rfl, Nat.le_of_ble_eq_true rfl⟩) hK (pG_perm hP [2, 3] rfl) (va_recv hK hP (ci := 0) (q0 := 2) rfl rfl) rfl hl.1 rfl (Nat.le_of_ble_eq_true rfl) dX2_firstHeir_13 ⟨Nat.zero_le _, Nat.zero_le _⟩ ?_
                  refine lv_istore (lv' := [(4, .int (tat 3 (σ 1) n 2)), (3, .int 2), (0, .ref (a 0)), (1, .int n), (2, .int x)]) hx hb dX2_firstHeir_16 hl (by decide) rfl (fun ls hl => ?_)
                  refine lv_aload_n hx hb dX2_firstHeir_18 rfl (lv_at hl 2 rfl) ?_
                  refine lv_iload hx hb dX2_firstHeir_19 (lv_at hl 0 rfl) ?_
                  refine co_rV (As := [.int (tat 3 (σ 1) n 2)]) (rest := []) S (c_X2_isAlive l G a σ ρ (tat 3 (σ 1) n 2)) (cwV 1 hts gX2_firstHeir_X2_isAlive rfl rfl rfl (by decide +kernel) ⟨Nat.le_of_ble_eq_true rfl, Nat.le_of_ble_eq_true rfl⟩) hK hP (va_recv hK hP (ci := 1) (q0 := 0) rfl rfl) rfl hl.1 rfl (Nat.le_of_ble_eq_true rfl) dX2_firstHeir_21 ⟨Nat.zero_le _, Nat.zero_le _⟩ ?_
                  refine co_ifeq (tgt := 42) S dX2_firstHeir_24 (by decide) (fun c_48 => ?_) (fun c_48 => ?_)
                  · refine lv_iinc (v := 3) (lv' := [(3, .int 3), (4, .int (tat 3 (σ 1) n 2)), (0, .ref (a 0)), (1, .int n), (2, .int x)]) hx hb dX2_firstHeir_42 hl (k := 1) rfl (by decide) (by decide) rfl (fun ls hl => ?_)
                    refine lv_goto (tgt := 2) hx hb dX2_firstHeir_45 (by decide) ?_
                    refine lv_iload_n hx hb dX2_firstHeir_2 rfl (lv_at hl 0 rfl) ?_
                    refine lv_iconst (v := 3) hx hb dX2_firstHeir_3 (by decide) ?_
                    refine lv_icmp_ge (tgt := 48) hx hb dX2_firstHeir_4 (by decide) (fun c_49 => ?_) (fun c_49 => ?_)
                    · refine lv_iconst (v := (-1)) hx hb dX2_firstHeir_48 (by decide) ?_
                      exact co_endR S hr hlocks dX2_firstHeir_49 (by simp only [heir, hrS, c_1, c_2, (eq_true c_28), c_29, c_30, c_38, (eq_true c_46), c_47, c_48, c_49, eq_self, Bool.false_eq_true, ↓reduceIte])
                    · exact absurd (by decide) c_49
                  · refine lv_iload hx hb dX2_firstHeir_27 (lv_at hl 0 rfl) ?_
                    refine lv_iload_n hx hb dX2_firstHeir_29 rfl (lv_at hl 3 rfl) ?_
                    refine lv_icmp_eq (tgt := 42) hx hb dX2_firstHeir_30 (by decide) (fun c_50 => ?_) (fun c_50 => ?_)
                    · refine lv_iinc (v := 3) (lv' := [(3, .int 3), (4, .int (tat 3 (σ 1) n 2)), (0, .ref (a 0)), (1, .int n), (2, .int x)]) hx hb dX2_firstHeir_42 hl (k := 1) rfl (by decide) (by decide) rfl (fun ls hl => ?_)
                      refine lv_goto (tgt := 2) hx hb dX2_firstHeir_45 (by decide) ?_
                      refine lv_iload_n hx hb dX2_firstHeir_2 rfl (lv_at hl 0 rfl) ?_
                      refine lv_iconst (v := 3) hx hb dX2_firstHeir_3 (by decide) ?_
                      refine lv_icmp_ge (tgt := 48) hx hb dX2_firstHeir_4 (by decide) (fun c_51 => ?_) (fun c_51 => ?_)
                      · refine lv_iconst (v := (-1)) hx hb dX2_firstHeir_48 (by decide) ?_
                        exact co_endR S hr hlocks dX2_firstHeir_49 (by simp only [heir, hrS, c_1, c_2, (eq_true c_28), c_29, c_30, c_38, (eq_true c_46), c_47, c_48, (eq_true c_50), c_51, eq_self, Bool.false_eq_true, ↓reduceIte])
                      · exact absurd (by decide) c_51
                    · refine lv_iload hx hb dX2_firstHeir_33 (lv_at hl 0 rfl) ?_
                      refine lv_iload_n hx hb dX2_firstHeir_35 rfl (lv_at hl 4 rfl) ?_
                      refine lv_icmp_eq (tgt := 42) hx hb dX2_firstHeir_36 (by decide) (fun c_52 => ?_) (fun c_52 => ?_)
                      · refine lv_iinc (v := 3) (lv' := [(3, .int 3), (4, .int (tat 3 (σ 1) n 2)), (0, .ref (a 0)), (1, .int n), (2, .int x)]) hx hb dX2_firstHeir_42 hl (k := 1) rfl (by decide) (by decide) rfl (fun ls hl => ?_)
                        refine lv_goto (tgt := 2) hx hb dX2_firstHeir_45 (by decide) ?_
                        refine lv_iload_n hx hb dX2_firstHeir_2 rfl (lv_at hl 0 rfl) ?_
                        refine lv_iconst (v := 3) hx hb dX2_firstHeir_3 (by decide) ?_
                        refine lv_icmp_ge (tgt := 48) hx hb dX2_firstHeir_4 (by decide) (fun c_53 => ?_) (fun c_53 => ?_)
                        · refine lv_iconst (v := (-1)) hx hb dX2_firstHeir_48 (by decide) ?_
                          exact co_endR S hr hlocks dX2_firstHeir_49 (by simp only [heir, hrS, c_1, c_2, (eq_true c_28), c_29, c_30, c_38, (eq_true c_46), c_47, c_48, c_50, (eq_true c_52), c_53, eq_self, Bool.false_eq_true, ↓reduceIte])
                        · exact absurd (by decide) c_53
                      · refine lv_iload hx hb dX2_firstHeir_39 (lv_at hl 0 rfl) ?_
                        exact co_endR S hr hlocks dX2_firstHeir_41 (by simp only [heir, hrS, c_1, c_2, (eq_true c_28), c_29, c_30, c_38, (eq_true c_46), c_47, c_48, c_50, c_52, eq_self, Bool.false_eq_true, ↓reduceIte])
              · refine lv_iload hx hb dX2_firstHeir_39 (lv_at hl 0 rfl) ?_
                exact co_endR S hr hlocks dX2_firstHeir_41 (by simp only [heir, hrS, c_1, c_2, (eq_true c_28), c_29, c_30, c_38, c_46, eq_self, Bool.false_eq_true, ↓reduceIte])
      · refine lv_iload hx hb dX2_firstHeir_33 (lv_at hl 0 rfl) ?_
        refine lv_iload_n hx hb dX2_firstHeir_35 rfl (lv_at hl 4 rfl) ?_
        refine lv_icmp_eq (tgt := 42) hx hb dX2_firstHeir_36 (by decide) (fun c_54 => ?_) (fun c_54 => ?_)
        · refine lv_iinc (v := 1) (lv' := [(3, .int 1), (4, .int (tat 3 (σ 1) n 0)), (0, .ref (a 0)), (1, .int n), (2, .int x)]) hx hb dX2_firstHeir_42 hl (k := 1) rfl (by decide) (by decide) rfl (fun ls hl => ?_)
          refine lv_goto (tgt := 2) hx hb dX2_firstHeir_45 (by decide) ?_
          refine lv_iload_n hx hb dX2_firstHeir_2 rfl (lv_at hl 0 rfl) ?_
          refine lv_iconst (v := 3) hx hb dX2_firstHeir_3 (by decide) ?_
          refine lv_icmp_ge (tgt := 48) hx hb dX2_firstHeir_4 (by decide) (fun c_55 => ?_) (fun c_55 => ?_)
          · exact absurd c_55 (by decide)
          · refine lv_aload_n hx hb dX2_firstHeir_7 rfl (lv_at hl 2 rfl) ?_
            refine va_get (D := G.1) (ci := 1) (v := .ref (a 2)) (C := RX2) (T := TX2) (N := 12) hx hb hts uX2 hown hK hP 0 rfl rfl 1 (by decide) (hts (.fieldLink RX2 18 "ChordOverlay" "successors" "LChordOverlay$Table;") (by decide +kernel)) (fun _ h9 => h9) rfl dX2_firstHeir_8 ?_
            refine lv_iload_n hx hb dX2_firstHeir_11 rfl (lv_at hl 3 rfl) ?_
            refine lv_iload_n hx hb dX2_firstHeir_12 rfl (lv_at hl 0 rfl) ?_
            refine co_rV (As := [.int n, .int 1]) (rest := []) S (c_X1_at l G (a 2) (a 3) 3 (σ 1) n 1 (by decide)) (cwV 2 hts gX2_firstHeir_X1_at rfl rfl rfl (by decide +kernel) ⟨Nat.le_of_ble_eq_true rfl, Nat.le_of_ble_eq_true rfl⟩) hK (pG_perm hP [2, 3] rfl) (va_recv hK hP (ci := 0) (q0 := 2) rfl rfl) rfl hl.1 rfl (Nat.le_of_ble_eq_true rfl) dX2_firstHeir_13 ⟨Nat.zero_le _, Nat.zero_le _⟩ ?_
            refine lv_istore (lv' := [(4, .int (tat 3 (σ 1) n 1)), (3, .int 1), (0, .ref (a 0)), (1, .int n), (2, .int x)]) hx hb dX2_firstHeir_16 hl (by decide) rfl (fun ls hl => ?_)
            refine lv_aload_n hx hb dX2_firstHeir_18 rfl (lv_at hl 2 rfl) ?_
            refine lv_iload hx hb dX2_firstHeir_19 (lv_at hl 0 rfl) ?_
            refine co_rV (As := [.int (tat 3 (σ 1) n 1)]) (rest := []) S (c_X2_isAlive l G a σ ρ (tat 3 (σ 1) n 1)) (cwV 1 hts gX2_firstHeir_X2_isAlive rfl rfl rfl (by decide +kernel) ⟨Nat.le_of_ble_eq_true rfl, Nat.le_of_ble_eq_true rfl⟩) hK hP (va_recv hK hP (ci := 1) (q0 := 0) rfl rfl) rfl hl.1 rfl (Nat.le_of_ble_eq_true rfl) dX2_firstHeir_21 ⟨Nat.zero_le _, Nat.zero_le _⟩ ?_
            refine co_ifeq (tgt := 42) S dX2_firstHeir_24 (by decide) (fun c_56 => ?_) (fun c_56 => ?_)
            · refine lv_iinc (v := 2) (lv' := [(3, .int 2), (4, .int (tat 3 (σ 1) n 1)), (0, .ref (a 0)), (1, .int n), (2, .int x)]) hx hb dX2_firstHeir_42 hl (k := 1) rfl (by decide) (by decide) rfl (fun ls hl => ?_)
              refine lv_goto (tgt := 2) hx hb dX2_firstHeir_45 (by decide) ?_
              refine lv_iload_n hx hb dX2_firstHeir_2 rfl (lv_at hl 0 rfl) ?_
              refine lv_iconst (v := 3) hx hb dX2_firstHeir_3 (by decide) ?_
              refine lv_icmp_ge (tgt := 48) hx hb dX2_firstHeir_4 (by decide) (fun c_57 => ?_) (fun c_57 => ?_)
              · exact absurd c_57 (by decide)
              · refine lv_aload_n hx hb dX2_firstHeir_7 rfl (lv_at hl 2 rfl) ?_
                refine va_get (D := G.1) (ci := 1) (v := .ref (a 2)) (C := RX2) (T := TX2) (N := 12) hx hb hts uX2 hown hK hP 0 rfl rfl 1 (by decide) (hts (.fieldLink RX2 18 "ChordOverlay" "successors" "LChordOverlay$Table;") (by decide +kernel)) (fun _ h9 => h9) rfl dX2_firstHeir_8 ?_
                refine lv_iload_n hx hb dX2_firstHeir_11 rfl (lv_at hl 3 rfl) ?_
                refine lv_iload_n hx hb dX2_firstHeir_12 rfl (lv_at hl 0 rfl) ?_
                refine co_rV (As := [.int n, .int 2]) (rest := []) S (c_X1_at l G (a 2) (a 3) 3 (σ 1) n 2 (by decide)) (cwV 2 hts gX2_firstHeir_X1_at rfl rfl rfl (by decide +kernel) ⟨Nat.le_of_ble_eq_true rfl, Nat.le_of_ble_eq_true rfl⟩) hK (pG_perm hP [2, 3] rfl) (va_recv hK hP (ci := 0) (q0 := 2) rfl rfl) rfl hl.1 rfl (Nat.le_of_ble_eq_true rfl) dX2_firstHeir_13 ⟨Nat.zero_le _, Nat.zero_le _⟩ ?_
                refine lv_istore (lv' := [(4, .int (tat 3 (σ 1) n 2)), (3, .int 2), (0, .ref (a 0)), (1, .int n), (2, .int x)]) hx hb dX2_firstHeir_16 hl (by decide) rfl (fun ls hl => ?_)
                refine lv_aload_n hx hb dX2_firstHeir_18 rfl (lv_at hl 2 rfl) ?_
                refine lv_iload hx hb dX2_firstHeir_19 (lv_at hl 0 rfl) ?_
                refine co_rV (As := [.int (tat 3 (σ 1) n 2)]) (rest := []) S (c_X2_isAlive l G a σ ρ (tat 3 (σ 1) n 2)) (cwV 1 hts gX2_firstHeir_X2_isAlive rfl rfl rfl (by decide +kernel) ⟨Nat.le_of_ble_eq_true rfl, Nat.le_of_ble_eq_true rfl⟩) hK hP (va_recv hK hP (ci := 1) (q0 := 0) rfl rfl) rfl hl.1 rfl (Nat.le_of_ble_eq_true rfl) dX2_firstHeir_21 ⟨Nat.zero_le _, Nat.zero_le _⟩ ?_
                refine co_ifeq (tgt := 42) S dX2_firstHeir_24 (by decide) (fun c_58 => ?_) (fun c_58 => ?_)
                · refine lv_iinc (v := 3) (lv' := [(3, .int 3), (4, .int (tat 3 (σ 1) n 2)), (0, .ref (a 0)), (1, .int n), (2, .int x)]) hx hb dX2_firstHeir_42 hl (k := 1) rfl (by decide) (by decide) rfl (fun ls hl => ?_)
                  refine lv_goto (tgt := 2) hx hb dX2_firstHeir_45 (by decide) ?_
                  refine lv_iload_n hx hb dX2_firstHeir_2 rfl (lv_at hl 0 rfl) ?_
                  refine lv_iconst (v := 3) hx hb dX2_firstHeir_3 (by decide) ?_
                  refine lv_icmp_ge (tgt := 48) hx hb dX2_firstHeir_4 (by decide) (fun c_59 => ?_) (fun c_59 => ?_)
                  · refine lv_iconst (v := (-1)) hx hb dX2_firstHeir_48 (by decide) ?_
                    exact co_endR S hr hlocks dX2_firstHeir_49 (by simp only [heir, hrS, c_1, c_2, c_28, (eq_true c_54), c_55, c_56, c_57, c_58, c_59, eq_self, Bool.false_eq_true, ↓reduceIte])
                  · exact absurd (by decide) c_59
                · refine lv_iload hx hb dX2_firstHeir_27 (lv_at hl 0 rfl) ?_
                  refine lv_iload_n hx hb dX2_firstHeir_29 rfl (lv_at hl 3 rfl) ?_
                  refine lv_icmp_eq (tgt := 42) hx hb dX2_firstHeir_30 (by decide) (fun c_60 => ?_) (fun c_60 => ?_)
                  · refine lv_iinc (v := 3) (lv' := [(3, .int 3), (4, .int (tat 3 (σ 1) n 2)), (0, .ref (a 0)), (1, .int n), (2, .int x)]) hx hb dX2_firstHeir_42 hl (k := 1) rfl (by decide) (by decide) rfl (fun ls hl => ?_)
                    refine lv_goto (tgt := 2) hx hb dX2_firstHeir_45 (by decide) ?_
                    refine lv_iload_n hx hb dX2_firstHeir_2 rfl (lv_at hl 0 rfl) ?_
                    refine lv_iconst (v := 3) hx hb dX2_firstHeir_3 (by decide) ?_
                    refine lv_icmp_ge (tgt := 48) hx hb dX2_firstHeir_4 (by decide) (fun c_61 => ?_) (fun c_61 => ?_)
                    · refine lv_iconst (v := (-1)) hx hb dX2_firstHeir_48 (by decide) ?_
                      exact co_endR S hr hlocks dX2_firstHeir_49 (by simp only [heir, hrS, c_1, c_2, c_28, (eq_true c_54), c_55, c_56, c_57, c_58, (eq_true c_60), c_61, eq_self, Bool.false_eq_true, ↓reduceIte])
                    · exact absurd (by decide) c_61
                  · refine lv_iload hx hb dX2_firstHeir_33 (lv_at hl 0 rfl) ?_
                    refine lv_iload_n hx hb dX2_firstHeir_35 rfl (lv_at hl 4 rfl) ?_
                    refine lv_icmp_eq (tgt := 42) hx hb dX2_firstHeir_36 (by decide) (fun c_62 => ?_) (fun c_62 => ?_)
                    · refine lv_iinc (v := 3) (lv' := [(3, .int 3), (4, .int (tat 3 (σ 1) n 2)), (0, .ref (a 0)), (1, .int n), (2, .int x)]) hx hb dX2_firstHeir_42 hl (k := 1) rfl (by decide) (by decide) rfl (fun ls hl => ?_)
                      refine lv_goto (tgt := 2) hx hb dX2_firstHeir_45 (by decide) ?_
                      refine lv_iload_n hx hb dX2_firstHeir_2 rfl (lv_at hl 0 rfl) ?_
                      refine lv_iconst (v := 3) hx hb dX2_firstHeir_3 (by decide) ?_
                      refine lv_icmp_ge (tgt := 48) hx hb dX2_firstHeir_4 (by decide) (fun c_63 => ?_) (fun c_63 => ?_)
                      · refine lv_iconst (v := (-1)) hx hb dX2_firstHeir_48 (by decide) ?_
                        exact co_endR S hr hlocks dX2_firstHeir_49 (by simp only [heir, hrS, c_1, c_2, c_28, (eq_true c_54), c_55, c_56, c_57, c_58, c_60, (eq_true c_62), c_63, eq_self, Bool.false_eq_true, ↓reduceIte])
                      · exact absurd (by decide) c_63
                    · refine lv_iload hx hb dX2_firstHeir_39 (lv_at hl 0 rfl) ?_
                      exact co_endR S hr hlocks dX2_firstHeir_41 (by simp only [heir, hrS, c_1, c_2, c_28, (eq_true c_54), c_55, c_56, c_57, c_58, c_60, c_62, eq_self, Bool.false_eq_true, ↓reduceIte])
            · refine lv_iload hx hb dX2_firstHeir_27 (lv_at hl 0 rfl) ?_
              refine lv_iload_n hx hb dX2_firstHeir_29 rfl (lv_at hl 3 rfl) ?_
              refine lv_icmp_eq (tgt := 42) hx hb dX2_firstHeir_30 (by decide) (fun c_64 => ?_) (fun c_64 => ?_)
              · refine lv_iinc (v := 2) (lv' := [(3, .int 2), (4, .int (tat 3 (σ 1) n 1)), (0, .ref (a 0)), (1, .int n), (2, .int x)]) hx hb dX2_firstHeir_42 hl (k := 1) rfl (by decide) (by decide) rfl (fun ls hl => ?_)
                refine lv_goto (tgt := 2) hx hb dX2_firstHeir_45 (by decide) ?_
                refine lv_iload_n hx hb dX2_firstHeir_2 rfl (lv_at hl 0 rfl) ?_
                refine lv_iconst (v := 3) hx hb dX2_firstHeir_3 (by decide) ?_
                refine lv_icmp_ge (tgt := 48) hx hb dX2_firstHeir_4 (by decide) (fun c_65 => ?_) (fun c_65 => ?_)
                · exact absurd c_65 (by decide)
                · refine lv_aload_n hx hb dX2_firstHeir_7 rfl (lv_at hl 2 rfl) ?_
                  refine va_get (D := G.1) (ci := 1) (v := .ref (a 2)) (C := RX2) (T := TX2) (N := 12) hx hb hts uX2 hown hK hP 0 rfl rfl 1 (by decide) (hts (.fieldLink RX2 18 "ChordOverlay" "successors" "LChordOverlay$Table;") (by decide +kernel)) (fun _ h9 => h9) rfl dX2_firstHeir_8 ?_
                  refine lv_iload_n hx hb dX2_firstHeir_11 rfl (lv_at hl 3 rfl) ?_
                  refine lv_iload_n hx hb dX2_firstHeir_12 rfl (lv_at hl 0 rfl) ?_
                  refine co_rV (As := [.int n, .int 2]) (rest := []) S (c_X1_at l G (a 2) (a 3) 3 (σ 1) n 2 (by decide)) (cwV 2 hts gX2_firstHeir_X1_at rfl rfl rfl (by decide +kernel) ⟨Nat.le_of_ble_eq_true rfl, Nat.le_of_ble_eq_true rfl⟩) hK (pG_perm hP [2, 3] rfl) (va_recv hK hP (ci := 0) (q0 := 2) rfl rfl) rfl hl.1 rfl (Nat.le_of_ble_eq_true rfl) dX2_firstHeir_13 ⟨Nat.zero_le _, Nat.zero_le _⟩ ?_
                  refine lv_istore (lv' := [(4, .int (tat 3 (σ 1) n 2)), (3, .int 2), (0, .ref (a 0)), (1, .int n), (2, .int x)]) hx hb dX2_firstHeir_16 hl (by decide) rfl (fun ls hl => ?_)
                  refine lv_aload_n hx hb dX2_firstHeir_18 rfl (lv_at hl 2 rfl) ?_
                  refine lv_iload hx hb dX2_firstHeir_19 (lv_at hl 0 rfl) ?_
                  refine co_rV (As := [.int (tat 3 (σ 1) n 2)]) (rest := []) S (c_X2_isAlive l G a σ ρ (tat 3 (σ 1) n 2)) (cwV 1 hts gX2_firstHeir_X2_isAlive rfl rfl rfl (by decide +kernel) ⟨Nat.le_of_ble_eq_true rfl, Nat.le_of_ble_eq_true rfl⟩) hK hP (va_recv hK hP (ci := 1) (q0 := 0) rfl rfl) rfl hl.1 rfl (Nat.le_of_ble_eq_true rfl) dX2_firstHeir_21 ⟨Nat.zero_le _, Nat.zero_le _⟩ ?_
                  refine co_ifeq (tgt := 42) S dX2_firstHeir_24 (by decide) (fun c_66 => ?_) (fun c_66 => ?_)
                  · refine lv_iinc (v := 3) (lv' := [(3, .int 3), (4, .int (tat 3 (σ 1) n 2)), (0, .ref (a 0)), (1, .int n), (2, .int x)]) hx hb dX2_firstHeir_42 hl (k := 1) rfl (by decide) (by decide) rfl (fun ls hl => ?_)
                    refine lv_goto (tgt := 2) hx hb dX2_firstHeir_45 (by decide) ?_
                    refine lv_iload_n hx hb dX2_firstHeir_2 rfl (lv_at hl 0 rfl) ?_
                    refine lv_iconst (v := 3) hx hb dX2_firstHeir_3 (by decide) ?_
                    refine lv_icmp_ge (tgt := 48) hx hb dX2_firstHeir_4 (by decide) (fun c_67 => ?_) (fun c_67 => ?_)
                    · refine lv_iconst (v := (-1)) hx hb dX2_firstHeir_48 (by decide) ?_
                      exact co_endR S hr hlocks dX2_firstHeir_49 (by simp only [heir, hrS, c_1, c_2, c_28, (eq_true c_54), c_55, c_56, (eq_true c_64), c_65, c_66, c_67, eq_self, Bool.false_eq_true, ↓reduceIte])
                    · exact absurd (by decide) c_67
                  · refine lv_iload hx hb dX2_firstHeir_27 (lv_at hl 0 rfl) ?_
                    refine lv_iload_n hx hb dX2_firstHeir_29 rfl (lv_at hl 3 rfl) ?_
                    refine lv_icmp_eq (tgt := 42) hx hb dX2_firstHeir_30 (by decide) (fun c_68 => ?_) (fun c_68 => ?_)
                    · refine lv_iinc (v := 3) (lv' := [(3, .int 3), (4, .int (tat 3 (σ 1) n 2)), (0, .ref (a 0)), (1, .int n), (2, .int x)]) hx hb dX2_firstHeir_42 hl (k := 1) rfl (by decide) (by decide) rfl (fun ls hl => ?_)
                      refine lv_goto (tgt := 2) hx hb dX2_firstHeir_45 (by decide) ?_
                      refine lv_iload_n hx hb dX2_firstHeir_2 rfl (lv_at hl 0 rfl) ?_
                      refine lv_iconst (v := 3) hx hb dX2_firstHeir_3 (by decide) ?_
                      refine lv_icmp_ge (tgt := 48) hx hb dX2_firstHeir_4 (by decide) (fun c_69 => ?_) (fun c_69 => ?_)
                      · refine lv_iconst (v := (-1)) hx hb dX2_firstHeir_48 (by decide) ?_
                        exact co_endR S hr hlocks dX2_firstHeir_49 (by simp only [heir, hrS, c_1, c_2, c_28, (eq_true c_54), c_55, c_56, (eq_true c_64), c_65, c_66, (eq_true c_68), c_69, eq_self, Bool.false_eq_true, ↓reduceIte])
                      · exact absurd (by decide) c_69
                    · refine lv_iload hx hb dX2_firstHeir_33 (lv_at hl 0 rfl) ?_
                      refine lv_iload_n hx hb dX2_firstHeir_35 rfl (lv_at hl 4 rfl) ?_
                      refine lv_icmp_eq (tgt := 42) hx hb dX2_firstHeir_36 (by decide) (fun c_70 => ?_) (fun c_70 => ?_)
                      · refine lv_iinc (v := 3) (lv' := [(3, .int 3), (4, .int (tat 3 (σ 1) n 2)), (0, .ref (a 0)), (1, .int n), (2, .int x)]) hx hb dX2_firstHeir_42 hl (k := 1) rfl (by decide) (by decide) rfl (fun ls hl => ?_)
                        refine lv_goto (tgt := 2) hx hb dX2_firstHeir_45 (by decide) ?_
                        refine lv_iload_n hx hb dX2_firstHeir_2 rfl (lv_at hl 0 rfl) ?_
                        refine lv_iconst (v := 3) hx hb dX2_firstHeir_3 (by decide) ?_
                        refine lv_icmp_ge (tgt := 48) hx hb dX2_firstHeir_4 (by decide) (fun c_71 => ?_) (fun c_71 => ?_)
                        · refine lv_iconst (v := (-1)) hx hb dX2_firstHeir_48 (by decide) ?_
                          exact co_endR S hr hlocks dX2_firstHeir_49 (by simp only [heir, hrS, c_1, c_2, c_28, (eq_true c_54), c_55, c_56, (eq_true c_64), c_65, c_66, c_68, (eq_true c_70), c_71, eq_self, Bool.false_eq_true, ↓reduceIte])
                        · exact absurd (by decide) c_71
                      · refine lv_iload hx hb dX2_firstHeir_39 (lv_at hl 0 rfl) ?_
                        exact co_endR S hr hlocks dX2_firstHeir_41 (by simp only [heir, hrS, c_1, c_2, c_28, (eq_true c_54), c_55, c_56, (eq_true c_64), c_65, c_66, c_68, c_70, eq_self, Bool.false_eq_true, ↓reduceIte])
              · refine lv_iload hx hb dX2_firstHeir_33 (lv_at hl 0 rfl) ?_
                refine lv_iload_n hx hb dX2_firstHeir_35 rfl (lv_at hl 4 rfl) ?_
                refine lv_icmp_eq (tgt := 42) hx hb dX2_firstHeir_36 (by decide) (fun c_72 => ?_) (fun c_72 => ?_)
                · refine lv_iinc (v := 2) (lv' := [(3, .int 2), (4, .int (tat 3 (σ 1) n 1)), (0, .ref (a 0)), (1, .int n), (2, .int x)]) hx hb dX2_firstHeir_42 hl (k := 1) rfl (by decide) (by decide) rfl (fun ls hl => ?_)
                  refine lv_goto (tgt := 2) hx hb dX2_firstHeir_45 (by decide) ?_
                  refine lv_iload_n hx hb dX2_firstHeir_2 rfl (lv_at hl 0 rfl) ?_
                  refine lv_iconst (v := 3) hx hb dX2_firstHeir_3 (by decide) ?_
                  refine lv_icmp_ge (tgt := 48) hx hb dX2_firstHeir_4 (by decide) (fun c_73 => ?_) (fun c_73 => ?_)
                  · exact absurd c_73 (by decide)
                  · refine lv_aload_n hx hb dX2_firstHeir_7 rfl (lv_at hl 2 rfl) ?_
                    refine va_get (D := G.1) (ci := 1) (v := .ref (a 2)) (C := RX2) (T := TX2) (N := 12) hx hb hts uX2 hown hK hP 0 rfl rfl 1 (by decide) (hts (.fieldLink RX2 18 "ChordOverlay" "successors" "LChordOverlay$Table;") (by decide +kernel)) (fun _ h9 => h9) rfl dX2_firstHeir_8 ?_
                    refine lv_iload_n hx hb dX2_firstHeir_11 rfl (lv_at hl 3 rfl) ?_
                    refine lv_iload_n hx hb dX2_firstHeir_12 rfl (lv_at hl 0 rfl) ?_
                    refine co_rV (As := [.int n, .int 2]) (rest := []) S (c_X1_at l G (a 2) (a 3) 3 (σ 1) n 2 (by decide)) (cwV 2 hts gX2_firstHeir_X1_at rfl rfl rfl (by decide +kernel) ⟨Nat.le_of_ble_eq_true rfl, Nat.le_of_ble_eq_true rfl⟩) hK (pG_perm hP [2, 3] rfl) (va_recv hK hP (ci := 0) (q0 := 2) rfl rfl) rfl hl.1 rfl (Nat.le_of_ble_eq_true rfl) dX2_firstHeir_13 ⟨Nat.zero_le _, Nat.zero_le _⟩ ?_
                    refine lv_istore (lv' := [(4, .int (tat 3 (σ 1) n 2)), (3, .int 2), (0, .ref (a 0)), (1, .int n), (2, .int x)]) hx hb dX2_firstHeir_16 hl (by decide) rfl (fun ls hl => ?_)
                    refine lv_aload_n hx hb dX2_firstHeir_18 rfl (lv_at hl 2 rfl) ?_
                    refine lv_iload hx hb dX2_firstHeir_19 (lv_at hl 0 rfl) ?_
                    refine co_rV (As := [.int (tat 3 (σ 1) n 2)]) (rest := []) S (c_X2_isAlive l G a σ ρ (tat 3 (σ 1) n 2)) (cwV 1 hts gX2_firstHeir_X2_isAlive rfl rfl rfl (by decide +kernel) ⟨Nat.le_of_ble_eq_true rfl, Nat.le_of_ble_eq_true rfl⟩) hK hP (va_recv hK hP (ci := 1) (q0 := 0) rfl rfl) rfl hl.1 rfl (Nat.le_of_ble_eq_true rfl) dX2_firstHeir_21 ⟨Nat.zero_le _, Nat.zero_le _⟩ ?_
                    refine co_ifeq (tgt := 42) S dX2_firstHeir_24 (by decide) (fun c_74 => ?_) (fun c_74 => ?_)
                    · refine lv_iinc (v := 3) (lv' := [(3, .int 3), (4, .int (tat 3 (σ 1) n 2)), (0, .ref (a 0)), (1, .int n), (2, .int x)]) hx hb dX2_firstHeir_42 hl (k := 1) rfl (by decide) (by decide) rfl (fun ls hl => ?_)
                      refine lv_goto (tgt := 2) hx hb dX2_firstHeir_45 (by decide) ?_
                      refine lv_iload_n hx hb dX2_firstHeir_2 rfl (lv_at hl 0 rfl) ?_
                      refine lv_iconst (v := 3) hx hb dX2_firstHeir_3 (by decide) ?_
                      refine lv_icmp_ge (tgt := 48) hx hb dX2_firstHeir_4 (by decide) (fun c_75 => ?_) (fun c_75 => ?_)
                      · refine lv_iconst (v := (-1)) hx hb dX2_firstHeir_48 (by decide) ?_
                        exact co_endR S hr hlocks dX2_firstHeir_49 (by simp only [heir, hrS, c_1, c_2, c_28, (eq_true c_54), c_55, c_56, c_64, (eq_true c_72), c_73, c_74, c_75, eq_self, Bool.false_eq_true, ↓reduceIte])
                      · exact absurd (by decide) c_75
                    · refine lv_iload hx hb dX2_firstHeir_27 (lv_at hl 0 rfl) ?_
                      refine lv_iload_n hx hb dX2_firstHeir_29 rfl (lv_at hl 3 rfl) ?_
                      refine lv_icmp_eq (tgt := 42) hx hb dX2_firstHeir_30 (by decide) (fun c_76 => ?_) (fun c_76 => ?_)
                      · refine lv_iinc (v := 3) (lv' := [(3, .int 3), (4, .int (tat 3 (σ 1) n 2)), (0, .ref (a 0)), (1, .int n), (2, .int x)]) hx hb dX2_firstHeir_42 hl (k := 1) rfl (by decide) (by decide) rfl (fun ls hl => ?_)
                        refine lv_goto (tgt := 2) hx hb dX2_firstHeir_45 (by decide) ?_
                        refine lv_iload_n hx hb dX2_firstHeir_2 rfl (lv_at hl 0 rfl) ?_
                        refine lv_iconst (v := 3) hx hb dX2_firstHeir_3 (by decide) ?_
                        refine lv_icmp_ge (tgt := 48) hx hb dX2_firstHeir_4 (by decide) (fun c_77 => ?_) (fun c_77 => ?_)
                        · refine lv_iconst (v := (-1)) hx hb dX2_firstHeir_48 (by decide) ?_
                          exact co_endR S hr hlocks dX2_firstHeir_49 (by simp only [heir, hrS, c_1, c_2, c_28, (eq_true c_54), c_55, c_56, c_64, (eq_true c_72), c_73, c_74, (eq_true c_76), c_77, eq_self, Bool.false_eq_true, ↓reduceIte])
                        · exact absurd (by decide) c_77
                      · refine lv_iload hx hb dX2_firstHeir_33 (lv_at hl 0 rfl) ?_
                        refine lv_iload_n hx hb dX2_firstHeir_35 rfl (lv_at hl 4 rfl) ?_
                        refine lv_icmp_eq (tgt := 42) hx hb dX2_firstHeir_36 (by decide) (fun c_78 => ?_) (fun c_78 => ?_)
                        · refine lv_iinc (v := 3) (lv' := [(3, .int 3), (4, .int (tat 3 (σ 1) n 2)), (0, .ref (a 0)), (1, .int n), (2, .int x)]) hx hb dX2_firstHeir_42 hl (k := 1) rfl (by decide) (by decide) rfl (fun ls hl => ?_)
                          refine lv_goto (tgt := 2) hx hb dX2_firstHeir_45 (by decide) ?_
                          refine lv_iload_n hx hb dX2_firstHeir_2 rfl (lv_at hl 0 rfl) ?_
                          refine lv_iconst (v := 3) hx hb dX2_firstHeir_3 (by decide) ?_
                          refine lv_icmp_ge (tgt := 48) hx hb dX2_firstHeir_4 (by decide) (fun c_79 => ?_) (fun c_79 => ?_)
                          · refine lv_iconst (v := (-1)) hx hb dX2_firstHeir_48 (by decide) ?_
                            exact co_endR S hr hlocks dX2_firstHeir_49 (by simp only [heir, hrS, c_1, c_2, c_28, (eq_true c_54), c_55, c_56, c_64, (eq_true c_72), c_73, c_74, c_76, (eq_true c_78), c_79, eq_self, Bool.false_eq_true, ↓reduceIte])
                          · exact absurd (by decide) c_79
                        · refine lv_iload hx hb dX2_firstHeir_39 (lv_at hl 0 rfl) ?_
                          exact co_endR S hr hlocks dX2_firstHeir_41 (by simp only [heir, hrS, c_1, c_2, c_28, (eq_true c_54), c_55, c_56, c_64, (eq_true c_72), c_73, c_74, c_76, c_78, eq_self, Bool.false_eq_true, ↓reduceIte])
                · refine lv_iload hx hb dX2_firstHeir_39 (lv_at hl 0 rfl) ?_
                  exact co_endR S hr hlocks dX2_firstHeir_41 (by simp only [heir, hrS, c_1, c_2, c_28, (eq_true c_54), c_55, c_56, c_64, c_72, eq_self, Bool.false_eq_true, ↓reduceIte])
        · refine lv_iload hx hb dX2_firstHeir_39 (lv_at hl 0 rfl) ?_
          exact co_endR S hr hlocks dX2_firstHeir_41 (by simp only [heir, hrS, c_1, c_2, c_28, c_54, eq_self, Bool.false_eq_true, ↓reduceIte])

set_option maxRecDepth 20000 in
theorem uX2_X2_hopTowards : ∀ w ∈ u_ws RX2 TX2 12, w ∈ wsX2_hopTowards := by decide +kernel
abbrev rm_X2_hopTowards : Room := { frames := 1, cells := 0, slots := 0, locals := 23 }
set_option maxHeartbeats 4000000 in
set_option maxRecDepth 100000 in
theorem c_X2_hopTowards (l : Launch) (G : cG) (a : Nat → Nat) (σ ρ : cS) (key n nx : Int32) : MetR l yX2_hopTowards wsX2_hopTowards rm_X2_hopTowards G (wO G a σ ρ) [.ref (a 0), .int key, .int n, .int nx] (hopT (σ 0) (σ 3) key n nx 6) := by
  refine co_bodyR (cc := cX2_hopTowards) (maxL := 6) (ret := (some .int)) (by decide) rfl (Nat.le_of_ble_eq_true rfl) ?_
  intro p e s m args below meth c S hr hlocks hK hP ls hl
  have S : CallFix p m c cX2_hopTowards 6 s args wsX2_hopTowards RX2 := S
  obtain ⟨hx, hb, hml, hown, hts⟩ := id S
  have hl : lv_has ls 6 [(0, .ref (a 0)), (1, .int key), (2, .int n), (3, .int nx)] := hl
  have uX2 := uX2_X2_hopTowards
  refine lv_iconst (v := 5) hx hb dX2_hopTowards_0 (by decide) ?_
  refine lv_istore (lv' := [(4, .int 5), (0, .ref (a 0)), (1, .int key), (2, .int n), (3, .int nx)]) hx hb dX2_hopTowards_1 hl (by decide) rfl (fun ls hl => ?_)
  have LP : ∀ (d : Nat) (x : Int32), d ≤ 6 → x = nI d + Int32.ofInt (-1) → hopT (σ 0) (σ 3) key n nx d = hopT (σ 0) (σ 3) key n nx 6 → ∀ ls : Array Slot, lv_has ls 6 [(0, .ref (a 0)), (1, .int key), (2, .int n), (3, .int nx), (4, .int x)] → W p l e rm_X2_hopTowards s m args below meth c s.heap [] 0 0 (QR below (hopT (σ 0) (σ 3) key n nx 6) args s) (F0 m 3 ls []) := by
    intro d
    induction d with
    | zero =>
      intro x hd6 hx9 h9 ls hl
      refine lv_iload hx hb dX2_hopTowards_3 (lv_at hl 4 rfl) ?_
      refine lv_if_lt (tgt := 48) hx hb dX2_hopTowards_5 (by decide) (fun c_1 => ?_) (fun c_1 => ?_)
      · refine lv_iload_n hx hb dX2_hopTowards_48 rfl (lv_at hl 3 rfl) ?_
        exact co_endR S hr hlocks dX2_hopTowards_49 (by rw [← h9]; rfl)
      · exact absurd (by subst hx9; decide) c_1
    | succ d ih =>
      intro x hd6 hx9 h9 ls hl
      rw [nI_m] at hx9; subst hx9
      refine lv_iload hx hb dX2_hopTowards_3 (lv_at hl 4 rfl) ?_
      refine lv_if_lt (tgt := 48) hx hb dX2_hopTowards_5 (by decide) (fun c_2 => ?_) (fun c_2 => ?_)
      · exact absurd c_2 (nI_pos (by omega))
      · refine lv_aload_n hx hb dX2_hopTowards_8 rfl (lv_at hl 0 rfl) ?_
        refine va_get (D := G.1) (ci := 1) (v := .ref (a 6)) (C := RX2) (T := TX2) (N := 12) hx hb hts uX2 hown hK hP 0 rfl rfl 3 (by decide) (hts (.fieldLink RX2 25 "ChordOverlay" "fingers" "LChordOverlay$Table;") (by decide +kernel)) (fun _ h9 => h9) rfl dX2_hopTowards_9 ?_
        refine lv_iload_n hx hb dX2_hopTowards_12 rfl (lv_at hl 2 rfl) ?_
        refine lv_iload hx hb dX2_hopTowards_13 (lv_at hl 4 rfl) ?_
        refine co_rV (As := [.int n, .int (nI d)]) (rest := []) S (c_X1_at l G (a 6) (a 7) 6 (σ 3) n (nI d) (by decide)) (cwV 2 hts gX2_hopTowards_X1_at rfl rfl rfl (by decide +kernel) ⟨Nat.le_of_ble_eq_true rfl, Nat.le_of_ble_eq_true rfl⟩) hK (pG_perm hP [6, 7] rfl) (va_recv hK hP (ci := 0) (q0 := 6) rfl rfl) rfl hl.1 rfl (Nat.le_of_ble_eq_true rfl) dX2_hopTowards_15 ⟨Nat.zero_le _, Nat.zero_le _⟩ ?_
        refine lv_istore (lv' := [(5, .int (tat 6 (σ 3) n (nI d))), (0, .ref (a 0)), (1, .int key), (2, .int n), (3, .int nx), (4, .int (nI d))]) hx hb dX2_hopTowards_18 hl (by decide) rfl (fun ls hl => ?_)
        refine lv_aload_n hx hb dX2_hopTowards_20 rfl (lv_at hl 1 rfl) ?_
        refine lv_iload hx hb dX2_hopTowards_21 (lv_at hl 0 rfl) ?_
        refine co_rV (As := [.int (tat 6 (σ 3) n (nI d))]) (rest := []) S (c_X2_isAlive l G a σ ρ (tat 6 (σ 3) n (nI d))) (cwV 1 hts gX2_hopTowards_X2_isAlive rfl rfl rfl (by decide +kernel) ⟨Nat.le_of_ble_eq_true rfl, Nat.le_of_ble_eq_true rfl⟩) hK hP (va_recv hK hP (ci := 1) (q0 := 0) rfl rfl) rfl hl.1 rfl (Nat.le_of_ble_eq_true rfl) dX2_hopTowards_23 ⟨Nat.zero_le _, Nat.zero_le _⟩ ?_
        refine co_ifeq (tgt := 42) S dX2_hopTowards_26 (by decide) (fun c_3 => ?_) (fun c_3 => ?_)
        · refine lv_iinc (v := ((nI d) + (-1))) (lv' := [(4, .int ((nI d) + (-1))), (5, .int (tat 6 (σ 3) n (nI d))), (0, .ref (a 0)), (1, .int key), (2, .int n), (3, .int nx)]) hx hb dX2_hopTowards_42 hl (k := 5) rfl rfl (by decide) rfl (fun ls hl => ?_)
          refine lv_goto (tgt := 3) hx hb dX2_hopTowards_45 (by decide) ?_
          exact ih _ (by omega) rfl (by rw [← h9]; simp only [hopT, c_3, eq_self, Bool.false_eq_true, ↓reduceIte]) ls (lv_sub hl [2, 3, 4, 5, 0] rfl)
        · refine lv_iload hx hb dX2_hopTowards_29 (lv_at hl 0 rfl) ?_
          refine lv_iload_n hx hb dX2_hopTowards_31 rfl (lv_at hl 3 rfl) ?_
          refine lv_iload_n hx hb dX2_hopTowards_32 rfl (lv_at hl 2 rfl) ?_
          refine co_rS (As := [.int (tat 6 (σ 3) n (nI d)), .int n, .int key]) (rest := []) S (c_X0_isBetween l G (tat 6 (σ 3) n (nI d)) n key) (va_cwS 3 hts gX2_hopTowards_X0_isBetween rfl rfl rfl (by decide +kernel) ⟨Nat.le_of_ble_eq_true rfl, Nat.le_of_ble_eq_true rfl⟩) hK (pG_nil) rfl hl.1 rfl (Nat.le_of_ble_eq_true rfl) dX2_hopTowards_33 ⟨Nat.zero_le _, Nat.zero_le _⟩ ?_
          refine co_ifeq (tgt := 42) S dX2_hopTowards_36 (by decide) (fun c_4 => ?_) (fun c_4 => ?_)
          · refine lv_iinc (v := ((nI d) + (-1))) (lv' := [(4, .int ((nI d) + (-1))), (5, .int (tat 6 (σ 3) n (nI d))), (0, .ref (a 0)), (1, .int key), (2, .int n), (3, .int nx)]) hx hb dX2_hopTowards_42 hl (k := 5) rfl rfl (by decide) rfl (fun ls hl => ?_)
            refine lv_goto (tgt := 3) hx hb dX2_hopTowards_45 (by decide) ?_
            exact ih _ (by omega) rfl (by rw [← h9]; simp only [hopT, c_3, c_4, eq_self, Bool.false_eq_true, ↓reduceIte]) ls (lv_sub hl [2, 3, 4, 5, 0] rfl)
          · refine lv_iload hx hb dX2_hopTowards_39 (lv_at hl 0 rfl) ?_
            exact co_endR S hr hlocks dX2_hopTowards_41 (by rw [← h9]; simp only [hopT, c_3, c_4, eq_self, Bool.false_eq_true, ↓reduceIte])
  exact LP 6 _ (Nat.le_refl 6) (by decide) rfl ls (lv_sub hl [1, 2, 3, 4, 0] rfl)

abbrev rm_X2_firstLivingUpFrom : Room := { frames := 1, cells := 0, slots := 0, locals := 21 }
set_option maxHeartbeats 4000000 in
set_option maxRecDepth 100000 in
theorem c_X2_firstLivingUpFrom (l : Launch) (G : cG) (a : Nat → Nat) (σ ρ : cS) (x : Int32) : MetR l yX2_firstLivingUpFrom wsX2_firstLivingUpFrom rm_X2_firstLivingUpFrom G (wO G a σ ρ) [.ref (a 0), .int x] (upF (σ 0) x 64 0) := by
  refine co_bodyR (cc := cX2_firstLivingUpFrom) (maxL := 4) (ret := (some .int)) (by decide) rfl (Nat.le_of_ble_eq_true rfl) ?_
  intro p e s m args below meth c S hr hlocks hK hP ls hl
  have S : CallFix p m c cX2_firstLivingUpFrom 4 s args wsX2_firstLivingUpFrom RX2 := S
  obtain ⟨hx, hb, hml, hown, hts⟩ := id S
  have hl : lv_has ls 4 [(0, .ref (a 0)), (1, .int x)] := hl
  refine lv_iconst (v := 0) hx hb dX2_firstLivingUpFrom_0 (by decide) ?_
  refine lv_istore_n (lv' := [(2, .int 0), (0, .ref (a 0)), (1, .int x)]) hx hb dX2_firstLivingUpFrom_1 rfl hl (by decide) rfl (fun ls hl => ?_)
  have LP : ∀ (d : Nat) (k : Nat), k + d = 64 → upF (σ 0) x d k = upF (σ 0) x 64 0 → ∀ ls : Array Slot, lv_has ls 4 [(0, .ref (a 0)), (1, .int x), (2, .int (nI k))] → W p l e rm_X2_firstLivingUpFrom s m args below meth c s.heap [] 0 0 (QR below (upF (σ 0) x 64 0) args s) (F0 m 2 ls []) := by
    intro d
    induction d with
    | zero =>
      intro k hk h9 ls hl
      refine lv_iload_n hx hb dX2_firstLivingUpFrom_2 rfl (lv_at hl 2 rfl) ?_
      refine lv_bipush (v := 64) hx hb dX2_firstLivingUpFrom_3 (by decide) ?_
      refine lv_icmp_ge (tgt := 30) hx hb dX2_firstLivingUpFrom_5 (by decide) (fun c_1 => ?_) (fun c_1 => ?_)
      · refine lv_iconst (v := (-1)) hx hb dX2_firstLivingUpFrom_30 (by decide) ?_
        exact co_endR S hr hlocks dX2_firstLivingUpFrom_31 (by rw [← h9]; rfl)
      · exact absurd (nI_le (a := 64) (b := k) (by omega) (by omega)) c_1
    | succ d ih =>
      intro k hk h9 ls hl
      refine lv_iload_n hx hb dX2_firstLivingUpFrom_2 rfl (lv_at hl 2 rfl) ?_
      refine lv_bipush (v := 64) hx hb dX2_firstLivingUpFrom_3 (by decide) ?_
      refine lv_icmp_ge (tgt := 30) hx hb dX2_firstLivingUpFrom_5 (by decide) (fun c_2 => ?_) (fun c_2 => ?_)
      · exact absurd c_2 (nI_ge (a := k) (b := 64) (by omega) (by omega))
      · refine lv_iload_n hx hb dX2_firstLivingUpFrom_8 rfl (lv_at hl 1 rfl) ?_
        refine lv_iload_n hx hb dX2_firstLivingUpFrom_9 rfl (lv_at hl 2 rfl) ?_
        refine co_rS (As := [.int x, .int (nI k)]) (rest := []) S (c_X0_onward l G x (nI k)) (va_cwS 2 hts gX2_firstLivingUpFrom_X0_onward rfl rfl rfl (by decide +kernel) ⟨Nat.le_of_ble_eq_true rfl, Nat.le_of_ble_eq_true rfl⟩) hK (pG_nil) rfl hl.1 rfl (Nat.le_of_ble_eq_true rfl) dX2_firstLivingUpFrom_10 ⟨Nat.zero_le _, Nat.zero_le _⟩ ?_
        refine lv_istore_n (lv' := [(3, .int (onw x (nI k))), (0, .ref (a 0)), (1, .int x), (2, .int (nI k))]) hx hb dX2_firstLivingUpFrom_13 rfl hl (by decide) rfl (fun ls hl => ?_)
        refine lv_aload_n hx hb dX2_firstLivingUpFrom_14 rfl (lv_at hl 1 rfl) ?_
        refine lv_iload_n hx hb dX2_firstLivingUpFrom_15 rfl (lv_at hl 0 rfl) ?_
        refine co_rV (As := [.int (onw x (nI k))]) (rest := []) S (c_X2_isAlive l G a σ ρ (onw x (nI k))) (cwV 1 hts gX2_firstLivingUpFrom_X2_isAlive rfl rfl rfl (by decide +kernel) ⟨Nat.le_of_ble_eq_true rfl, Nat.le_of_ble_eq_true rfl⟩) hK hP (va_recv hK hP (ci := 1) (q0 := 0) rfl rfl) rfl hl.1 rfl (Nat.le_of_ble_eq_true rfl) dX2_firstLivingUpFrom_16 ⟨Nat.zero_le _, Nat.zero_le _⟩ ?_
        refine co_ifeq (tgt := 24) S dX2_firstLivingUpFrom_19 (by decide) (fun c_3 => ?_) (fun c_3 => ?_)
        · refine lv_iinc (v := (nI (k + 1))) (lv' := [(2, .int (nI (k + 1))), (3, .int (onw x (nI k))), (0, .ref (a 0)), (1, .int x)]) hx hb dX2_firstLivingUpFrom_24 hl (k := 3) rfl (nI_1 k) (by decide) rfl (fun ls hl => ?_)
          refine lv_goto (tgt := 2) hx hb dX2_firstLivingUpFrom_27 (by decide) ?_
          exact ih (k + 1) (by omega) (by rw [← h9]; simp only [upF, c_3, eq_self, Bool.false_eq_true, ↓reduceIte]) ls (lv_sub hl [2, 3, 0] rfl)
        · refine lv_iload_n hx hb dX2_firstLivingUpFrom_22 rfl (lv_at hl 0 rfl) ?_
          exact co_endR S hr hlocks dX2_firstLivingUpFrom_23 (by rw [← h9]; simp only [upF, c_3, eq_self, Bool.false_eq_true, ↓reduceIte])
  exact LP 64 0 rfl rfl ls (lv_sub hl [1, 2, 0] rfl)

abbrev rm_X2_firstLivingDownFrom : Room := { frames := 1, cells := 0, slots := 0, locals := 21 }
set_option maxHeartbeats 4000000 in
set_option maxRecDepth 100000 in
theorem c_X2_firstLivingDownFrom (l : Launch) (G : cG) (a : Nat → Nat) (σ ρ : cS) (x : Int32) : MetR l yX2_firstLivingDownFrom wsX2_firstLivingDownFrom rm_X2_firstLivingDownFrom G (wO G a σ ρ) [.ref (a 0), .int x] (dnF (σ 0) x 64 0) := by
  refine co_bodyR (cc := cX2_firstLivingDownFrom) (maxL := 4) (ret := (some .int)) (by decide) rfl (Nat.le_of_ble_eq_true rfl) ?_
  intro p e s m args below meth c S hr hlocks hK hP ls hl
  have S : CallFix p m c cX2_firstLivingDownFrom 4 s args wsX2_firstLivingDownFrom RX2 := S
  obtain ⟨hx, hb, hml, hown, hts⟩ := id S
  have hl : lv_has ls 4 [(0, .ref (a 0)), (1, .int x)] := hl
  refine lv_iconst (v := 0) hx hb dX2_firstLivingDownFrom_0 (by decide) ?_
  refine lv_istore_n (lv' := [(2, .int 0), (0, .ref (a 0)), (1, .int x)]) hx hb dX2_firstLivingDownFrom_1 rfl hl (by decide) rfl (fun ls hl => ?_)
  have LP : ∀ (d : Nat) (k : Nat), k + d = 64 → dnF (σ 0) x d k = dnF (σ 0) x 64 0 → ∀ ls : Array Slot, lv_has ls 4 [(0, .ref (a 0)), (1, .int x), (2, .int (nI k))] → W p l e rm_X2_firstLivingDownFrom s m args below meth c s.heap [] 0 0 (QR below (dnF (σ 0) x 64 0) args s) (F0 m 2 ls []) := by
    intro d
    induction d with
    | zero =>
      intro k hk h9 ls hl
      refine lv_iload_n hx hb dX2_firstLivingDownFrom_2 rfl (lv_at hl 2 rfl) ?_
      refine lv_bipush (v := 64) hx hb dX2_firstLivingDownFrom_3 (by decide) ?_
      refine lv_icmp_ge (tgt := 31) hx hb dX2_firstLivingDownFrom_5 (by decide) (fun c_1 => ?_) (fun c_1 => ?_)
      · refine lv_iconst (v := (-1)) hx hb dX2_firstLivingDownFrom_31 (by decide) ?_
        exact co_endR S hr hlocks dX2_firstLivingDownFrom_32 (by rw [← h9]; rfl)
      · exact absurd (nI_le (a := 64) (b := k) (by omega) (by omega)) c_1
    | succ d ih =>
      intro k hk h9 ls hl
      refine lv_iload_n hx hb dX2_firstLivingDownFrom_2 rfl (lv_at hl 2 rfl) ?_
      refine lv_bipush (v := 64) hx hb dX2_firstLivingDownFrom_3 (by decide) ?_
      refine lv_icmp_ge (tgt := 31) hx hb dX2_firstLivingDownFrom_5 (by decide) (fun c_2 => ?_) (fun c_2 => ?_)
      · exact absurd c_2 (nI_ge (a := k) (b := 64) (by omega) (by omega))
      · refine lv_iload_n hx hb dX2_firstLivingDownFrom_8 rfl (lv_at hl 1 rfl) ?_
        refine lv_iload_n hx hb dX2_firstLivingDownFrom_9 rfl (lv_at hl 2 rfl) ?_
        refine lv_ineg hx hb dX2_firstLivingDownFrom_10 ?_
        refine co_rS (As := [.int x, .int (-(nI k))]) (rest := []) S (c_X0_onward l G x (-(nI k))) (va_cwS 2 hts gX2_firstLivingDownFrom_X0_onward rfl rfl rfl (by decide +kernel) ⟨Nat.le_of_ble_eq_true rfl, Nat.le_of_ble_eq_true rfl⟩) hK (pG_nil) rfl hl.1 rfl (Nat.le_of_ble_eq_true rfl) dX2_firstLivingDownFrom_11 ⟨Nat.zero_le _, Nat.zero_le _⟩ ?_
        refine lv_istore_n (lv' := [(3, .int (onw x (-(nI k)))), (0, .ref (a 0)), (1, .int x), (2, .int (nI k))]) hx hb dX2_firstLivingDownFrom_14 rfl hl (by decide) rfl (fun ls hl => ?_)
        refine lv_aload_n hx hb dX2_firstLivingDownFrom_15 rfl (lv_at hl 1 rfl) ?_
        refine lv_iload_n hx hb dX2_firstLivingDownFrom_16 rfl (lv_at hl 0 rfl) ?_
        refine co_rV (As := [.int (onw x (-(nI k)))]) (rest := []) S (c_X2_isAlive l G a σ ρ (onw x (-(nI k)))) (cwV 1 hts gX2_firstLivingDownFrom_X2_isAlive rfl rfl rfl (by decide +kernel) ⟨Nat.le_of_ble_eq_true rfl, Nat.le_of_ble_eq_true rfl⟩) hK hP (va_recv hK hP (ci := 1) (q0 := 0) rfl rfl) rfl hl.1 rfl (Nat.le_of_ble_eq_true rfl) dX2_firstLivingDownFrom_17 ⟨Nat.zero_le _, Nat.zero_le _⟩ ?_
        refine co_ifeq (tgt := 25) S dX2_firstLivingDownFrom_20 (by decide) (fun c_3 => ?_) (fun c_3 => ?_)
        · refine lv_iinc (v := (nI (k + 1))) (lv' := [(2, .int (nI (k + 1))), (3, .int (onw x (-(nI k)))), (0, .ref (a 0)), (1, .int x)]) hx hb dX2_firstLivingDownFrom_25 hl (k := 3) rfl (nI_1 k) (by decide) rfl (fun ls hl => ?_)
          refine lv_goto (tgt := 2) hx hb dX2_firstLivingDownFrom_28 (by decide) ?_
          exact ih (k + 1) (by omega) (by rw [← h9]; simp only [dnF, c_3, eq_self, Bool.false_eq_true, ↓reduceIte]) ls (lv_sub hl [2, 3, 0] rfl)
        · refine lv_iload_n hx hb dX2_firstLivingDownFrom_23 rfl (lv_at hl 0 rfl) ?_
          exact co_endR S hr hlocks dX2_firstLivingDownFrom_24 (by rw [← h9]; simp only [dnF, c_3, eq_self, Bool.false_eq_true, ↓reduceIte])
  exact LP 64 0 rfl rfl ls (lv_sub hl [1, 2, 0] rfl)

set_option maxRecDepth 20000 in
theorem uX2_X2_countWrongPointersOf : ∀ w ∈ u_ws RX2 TX2 12, w ∈ wsX2_countWrongPointersOf := by decide +kernel
abbrev rm_X2_countWrongPointersOf : Room := { frames := 2, cells := 0, slots := 0, locals := 46 }
set_option maxHeartbeats 4000000 in
set_option maxRecDepth 100000 in
theorem c_X2_countWrongPointersOf (l : Launch) (G : cG) (a : Nat → Nat) (σ ρ : cS) (n : Int32) : MetR l yX2_countWrongPointersOf wsX2_countWrongPointersOf rm_X2_countWrongPointersOf G (wO G a σ ρ) [.ref (a 0), .int n] (wrg σ n) := by
  refine co_bodyR (cc := cX2_countWrongPointersOf) (maxL := 4) (ret := (some .int)) (by decide) rfl (Nat.le_of_ble_eq_true rfl) ?_
  intro p e s m args below meth c S hr hlocks hK hP ls hl
  have S : CallFix p m c cX2_countWrongPointersOf 4 s args wsX2_countWrongPointersOf RX2 := S
  obtain ⟨hx, hb, hml, hown, hts⟩ := id S
  have hl : lv_has ls 4 [(0, .ref (a 0)), (1, .int n)] := hl
  have uX2 := uX2_X2_countWrongPointersOf
  refine lv_iconst (v := 0) hx hb dX2_countWrongPointersOf_0 (by decide) ?_
  refine lv_istore_n (lv' := [(2, .int 0), (0, .ref (a 0)), (1, .int n)]) hx hb dX2_countWrongPointersOf_1 rfl hl (by decide) rfl (fun ls hl => ?_)
  refine lv_aload_n hx hb dX2_countWrongPointersOf_2 rfl (lv_at hl 1 rfl) ?_
  refine lv_iload_n hx hb dX2_countWrongPointersOf_3 rfl (lv_at hl 2 rfl) ?_
  refine co_rV (As := [.int n]) (rest := []) S (c_X2_firstLivingSuccessor l G a σ ρ n) (cwV 1 hts gX2_countWrongPointersOf_X2_firstLivingSuccessor rfl rfl rfl (by decide +kernel) ⟨Nat.le_of_ble_eq_true rfl, Nat.le_of_ble_eq_true rfl⟩) hK hP (va_recv hK hP (ci := 1) (q0 := 0) rfl rfl) rfl hl.1 rfl (Nat.le_of_ble_eq_true rfl) dX2_countWrongPointersOf_4 ⟨Nat.zero_le _, Nat.zero_le _⟩ ?_
  refine lv_aload_n hx hb dX2_countWrongPointersOf_7 rfl (lv_at hl 1 rfl) ?_
  refine lv_iload_n hx hb dX2_countWrongPointersOf_8 rfl (lv_at hl 2 rfl) ?_
  refine lv_iconst (v := 1) hx hb dX2_countWrongPointersOf_9 (by decide) ?_
  refine co_rS (As := [.int n, .int 1]) (rest := [.ref (a 0), .int (lsF (σ 0) (σ 1) n)]) S (c_X0_onward l G n 1) (va_cwS 2 hts gX2_countWrongPointersOf_X0_onward rfl rfl rfl (by decide +kernel) ⟨Nat.le_of_ble_eq_true rfl, Nat.le_of_ble_eq_true rfl⟩) hK (pG_nil) rfl hl.1 rfl (Nat.le_of_ble_eq_true rfl) dX2_countWrongPointersOf_10 ⟨Nat.zero_le _, Nat.zero_le _⟩ ?_
  refine co_rV (As := [.int (onw n 1)]) (rest := [.int (lsF (σ 0) (σ 1) n)]) S (c_X2_firstLivingUpFrom l G a σ ρ (onw n 1)) (cwV 1 hts gX2_countWrongPointersOf_X2_firstLivingUpFrom rfl rfl rfl (by decide +kernel) ⟨Nat.le_of_ble_eq_true rfl, Nat.le_of_ble_eq_true rfl⟩) hK hP (va_recv hK hP (ci := 1) (q0 := 0) rfl rfl) rfl hl.1 rfl (Nat.le_of_ble_eq_true rfl) dX2_countWrongPointersOf_13 ⟨Nat.zero_le _, Nat.zero_le _⟩ ?_
  refine lv_icmp_eq (tgt := 22) hx hb dX2_countWrongPointersOf_16 (by decide) (fun c_1 => ?_) (fun c_1 => ?_)
  · refine lv_aload_n hx hb dX2_countWrongPointersOf_22 rfl (lv_at hl 1 rfl) ?_
    refine va_get (D := G.1) (ci := 1) (v := .ref (a 4)) (C := RX2) (T := TX2) (N := 12) hx hb hts uX2 hown hK hP 0 rfl rfl 2 (by decide) (hts (.fieldLink RX2 22 "ChordOverlay" "predecessors" "LChordOverlay$Table;") (by decide +kernel)) (fun _ h9 => h9) rfl dX2_countWrongPointersOf_23 ?_
    refine lv_iload_n hx hb dX2_countWrongPointersOf_26 rfl (lv_at hl 2 rfl) ?_
    refine lv_iconst (v := 0) hx hb dX2_countWrongPointersOf_27 (by decide) ?_
    refine co_rV (As := [.int n, .int 0]) (rest := []) S (c_X1_at l G (a 4) (a 5) 1 (σ 2) n 0 (by decide)) (cwV 2 hts gX2_countWrongPointersOf_X1_at rfl rfl rfl (by decide +kernel) ⟨Nat.le_of_ble_eq_true rfl, Nat.le_of_ble_eq_true rfl⟩) hK (pG_perm hP [4, 5] rfl) (va_recv hK hP (ci := 0) (q0 := 4) rfl rfl) rfl hl.1 rfl (Nat.le_of_ble_eq_true rfl) dX2_countWrongPointersOf_28 ⟨Nat.zero_le _, Nat.zero_le _⟩ ?_
    refine lv_aload_n hx hb dX2_countWrongPointersOf_31 rfl (lv_at hl 1 rfl) ?_
    refine lv_iload_n hx hb dX2_countWrongPointersOf_32 rfl (lv_at hl 2 rfl) ?_
    refine lv_iconst (v := (-1)) hx hb dX2_countWrongPointersOf_33 (by decide) ?_
    refine co_rS (As := [.int n, .int (-1)]) (rest := [.ref (a 0), .int (tat 1 (σ 2) n 0)]) S (c_X0_onward l G n (-1)) (va_cwS 2 hts gX2_countWrongPointersOf_X0_onward rfl rfl rfl (by decide +kernel) ⟨Nat.le_of_ble_eq_true rfl, Nat.le_of_ble_eq_true rfl⟩) hK (pG_nil) rfl hl.1 rfl (Nat.le_of_ble_eq_true rfl) dX2_countWrongPointersOf_34 ⟨Nat.zero_le _, Nat.zero_le _⟩ ?_
    refine co_rV (As := [.int (onw n (-1))]) (rest := [.int (tat 1 (σ 2) n 0)]) S (c_X2_firstLivingDownFrom l G a σ ρ (onw n (-1))) (cwV 1 hts gX2_countWrongPointersOf_X2_firstLivingDownFrom rfl rfl rfl (by decide +kernel) ⟨Nat.le_of_ble_eq_true rfl, Nat.le_of_ble_eq_true rfl⟩) hK hP (va_recv hK hP (ci := 1) (q0 := 0) rfl rfl) rfl hl.1 rfl (Nat.le_of_ble_eq_true rfl) dX2_countWrongPointersOf_37 ⟨Nat.zero_le _, Nat.zero_le _⟩ ?_
    refine lv_icmp_eq (tgt := 46) hx hb dX2_countWrongPointersOf_40 (by decide) (fun c_2 => ?_) (fun c_2 => ?_)
    · refine lv_iconst (v := 0) hx hb dX2_countWrongPointersOf_46 (by decide) ?_
      refine lv_istore_n (lv' := [(3, .int 0), (2, .int 0), (0, .ref (a 0)), (1, .int n)]) hx hb dX2_countWrongPointersOf_47 rfl hl (by decide) rfl (fun ls hl => ?_)
      have LP : ∀ (d : Nat) (k : Nat) (x : Int32), k + d = 6 → x = wF (σ 0) (σ 3) n (w2S (σ 0) (σ 2) n (w1S (σ 0) (σ 1) n)) k → ∀ ls : Array Slot, lv_has ls 4 [(0, .ref (a 0)), (1, .int n), (2, .int x), (3, .int (nI k))] → W p l e rm_X2_countWrongPointersOf s m args below meth c s.heap [] 0 0 (QR below (wrg σ n) args s) (F0 m 48 ls []) := by
        intro d
        induction d with
        | zero =>
          intro k x hk hx9 ls hl
          refine lv_iload_n hx hb dX2_countWrongPointersOf_48 rfl (lv_at hl 3 rfl) ?_
          refine lv_bipush (v := 6) hx hb dX2_countWrongPointersOf_49 (by decide) ?_
          refine lv_icmp_ge (tgt := 84) hx hb dX2_countWrongPointersOf_51 (by decide) (fun c_3 => ?_) (fun c_3 => ?_)
          · refine lv_iload_n hx hb dX2_countWrongPointersOf_84 rfl (lv_at hl 2 rfl) ?_
            exact co_endR S hr hlocks dX2_countWrongPointersOf_85 (by rw [hx9, show k = 6 by omega]; rfl)
          · exact absurd (nI_le (a := 6) (b := k) (by omega) (by omega)) c_3
        | succ d ih =>
          intro k x hk hx9 ls hl
          refine lv_iload_n hx hb dX2_countWrongPointersOf_48 rfl (lv_at hl 3 rfl) ?_
          refine lv_bipush (v := 6) hx hb dX2_countWrongPointersOf_49 (by decide) ?_
          refine lv_icmp_ge (tgt := 84) hx hb dX2_countWrongPointersOf_51 (by decide) (fun c_4 => ?_) (fun c_4 => ?_)
          · exact absurd c_4 (nI_ge (a := k) (b := 6) (by omega) (by omega))
          · refine lv_aload_n hx hb dX2_countWrongPointersOf_54 rfl (lv_at hl 0 rfl) ?_
            refine va_get (D := G.1) (ci := 1) (v := .ref (a 6)) (C := RX2) (T := TX2) (N := 12) hx hb hts uX2 hown hK hP 0 rfl rfl 3 (by decide) (hts (.fieldLink RX2 25 "ChordOverlay" "fingers" "LChordOverlay$Table;") (by decide +kernel)) (fun _ h9 => h9) rfl dX2_countWrongPointersOf_55 ?_
            refine lv_iload_n hx hb dX2_countWrongPointersOf_58 rfl (lv_at hl 1 rfl) ?_
            refine lv_iload_n hx hb dX2_countWrongPointersOf_59 rfl (lv_at hl 3 rfl) ?_
            refine co_rV (As := [.int n, .int (nI k)]) (rest := []) S (c_X1_at l G (a 6) (a 7) 6 (σ 3) n (nI k) (by decide)) (cwV 2 hts gX2_countWrongPointersOf_X1_at rfl rfl rfl (by decide +kernel) ⟨Nat.le_of_ble_eq_true rfl, Nat.le_of_ble_eq_true rfl⟩) hK (pG_perm hP [6, 7] rfl) (va_recv hK hP (ci := 0) (q0 := 6) rfl rfl) rfl hl.1 rfl (Nat.le_of_ble_eq_true rfl) dX2_countWrongPointersOf_60 ⟨Nat.zero_le _, Nat.zero_le _⟩ ?_
            refine lv_aload_n hx hb dX2_countWrongPointersOf_63 rfl (lv_at hl 0 rfl) ?_
            refine lv_iload_n hx hb dX2_countWrongPointersOf_64 rfl (lv_at hl 1 rfl) ?_
            refine lv_iload_n hx hb dX2_countWrongPointersOf_65 rfl (lv_at hl 3 rfl) ?_
            refine co_rS (As := [.int n, .int (nI k)]) (rest := [.ref (a 0), .int (tat 6 (σ 3) n (nI k))]) S (c_X0_fingerStart l G n (nI k)) (va_cwS 2 hts gX2_countWrongPointersOf_X0_fingerStart rfl rfl rfl (by decide +kernel) ⟨Nat.le_of_ble_eq_true rfl, Nat.le_of_ble_eq_true rfl⟩) hK (pG_nil) rfl hl.1 rfl (Nat.le_of_ble_eq_true rfl) dX2_countWrongPointersOf_66 ⟨Nat.zero_le _, Nat.zero_le _⟩ ?_
            refine co_rV (As := [.int (fgs n (nI k))]) (rest := [.int (tat 6 (σ 3) n (nI k))]) S (c_X2_firstLivingUpFrom l G a σ ρ (fgs n (nI k))) (cwV 1 hts gX2_countWrongPointersOf_X2_firstLivingUpFrom rfl rfl rfl (by decide +kernel) ⟨Nat.le_of_ble_eq_true rfl, Nat.le_of_ble_eq_true rfl⟩) hK hP (va_recv hK hP (ci := 1) (q0 := 0) rfl rfl) rfl hl.1 rfl (Nat.le_of_ble_eq_true rfl) dX2_countWrongPointersOf_69 ⟨Nat.zero_le _, Nat.zero_le _⟩ ?_
            refine lv_icmp_eq (tgt := 78) hx hb dX2_countWrongPointersOf_72 (by decide) (fun c_5 => ?_) (fun c_5 => ?_)
            · refine lv_iinc (v := (nI (k + 1))) (lv' := [(3, .int (nI (k + 1))), (0, .ref (a 0)), (1, .int n), (2, .int x)]) hx hb dX2_countWrongPointersOf_78 hl (k := 3) rfl (nI_1 k) (by decide) rfl (fun ls hl => ?_)
              refine lv_goto (tgt := 48) hx hb dX2_countWrongPointersOf_81 (by decide) ?_
              exact ih (k + 1) _ (by omega) (by subst hx9; simp only [wF, (eq_true c_5), eq_self, Bool.false_eq_true, ↓reduceIte]) ls (lv_sub hl [1, 2, 3, 0] rfl)
            · refine lv_iinc (v := (x + 1)) (lv' := [(2, .int (x + 1)), (0, .ref (a 0)), (1, .int n), (3, .int (nI k))]) hx hb dX2_countWrongPointersOf_75 hl (k := 2) rfl rfl (by decide) rfl (fun ls hl => ?_)
              refine lv_iinc (v := (nI (k + 1))) (lv' := [(3, .int (nI (k + 1))), (2, .int (x + 1)), (0, .ref (a 0)), (1, .int n)]) hx hb dX2_countWrongPointersOf_78 hl (k := 3) rfl (nI_1 k) (by decide) rfl (fun ls hl => ?_)
              refine lv_goto (tgt := 48) hx hb dX2_countWrongPointersOf_81 (by decide) ?_
              exact ih (k + 1) _ (by omega) (by subst hx9; simp only [wF, c_5, eq_self, Bool.false_eq_true, ↓reduceIte]) ls (lv_sub hl [2, 3, 1, 0] rfl)
      exact LP 6 0 _ rfl (by simp only [wF, w1S, w2S, (eq_true c_1), (eq_true c_2), ↓reduceIte] <;> decide) ls (lv_sub hl [2, 3, 1, 0] rfl)
    · refine lv_iinc (v := 1) (lv' := [(2, .int 1), (0, .ref (a 0)), (1, .int n)]) hx hb dX2_countWrongPointersOf_43 hl (k := 0) rfl (by decide) (by decide) rfl (fun ls hl => ?_)
      refine lv_iconst (v := 0) hx hb dX2_countWrongPointersOf_46 (by decide) ?_
      refine lv_istore_n (lv' := [(3, .int 0), (2, .int 1), (0, .ref (a 0)), (1, .int n)]) hx hb dX2_countWrongPointersOf_47 rfl hl (by decide) rfl (fun ls hl => ?_)
      have LP : ∀ (d : Nat) (k : Nat) (x : Int32), k + d = 6 → x = wF (σ 0) (σ 3) n (w2S (σ 0) (σ 2) n (w1S (σ 0) (σ 1) n)) k → ∀ ls : Array Slot, lv_has ls 4 [(0, .ref (a 0)), (1, .int n), (2, .int x), (3, .int (nI k))] → W p l e rm_X2_countWrongPointersOf s m args below meth c s.heap [] 0 0 (QR below (wrg σ n) args s) (F0 m 48 ls []) := by
        intro d
        induction d with
        | zero =>
          intro k x hk hx9 ls hl
          refine lv_iload_n hx hb dX2_countWrongPointersOf_48 rfl (lv_at hl 3 rfl) ?_
          refine lv_bipush (v := 6) hx hb dX2_countWrongPointersOf_49 (by decide) ?_
          refine lv_icmp_ge (tgt := 84) hx hb dX2_countWrongPointersOf_51 (by decide) (fun c_6 => ?_) (fun c_6 => ?_)
          · refine lv_iload_n hx hb dX2_countWrongPointersOf_84 rfl (lv_at hl 2 rfl) ?_
            exact co_endR S hr hlocks dX2_countWrongPointersOf_85 (by rw [hx9, show k = 6 by omega]; rfl)
          · exact absurd (nI_le (a := 6) (b := k) (by omega) (by omega)) c_6
        | succ d ih =>
          intro k x hk hx9 ls hl
          refine lv_iload_n hx hb dX2_countWrongPointersOf_48 rfl (lv_at hl 3 rfl) ?_
          refine lv_bipush (v := 6) hx hb dX2_countWrongPointersOf_49 (by decide) ?_
          refine lv_icmp_ge (tgt := 84) hx hb dX2_countWrongPointersOf_51 (by decide) (fun c_7 => ?_) (fun c_7 => ?_)
          · exact absurd c_7 (nI_ge (a := k) (b := 6) (by omega) (by omega))
          · refine lv_aload_n hx hb dX2_countWrongPointersOf_54 rfl (lv_at hl 0 rfl) ?_
            refine va_get (D := G.1) (ci := 1) (v := .ref (a 6)) (C := RX2) (T := TX2) (N := 12) hx hb hts uX2 hown hK hP 0 rfl rfl 3 (by decide) (hts (.fieldLink RX2 25 "ChordOverlay" "fingers" "LChordOverlay$Table;") (by decide +kernel)) (fun _ h9 => h9) rfl dX2_countWrongPointersOf_55 ?_
            refine lv_iload_n hx hb dX2_countWrongPointersOf_58 rfl (lv_at hl 1 rfl) ?_
            refine lv_iload_n hx hb dX2_countWrongPointersOf_59 rfl (lv_at hl 3 rfl) ?_
            refine co_rV (As := [.int n, .int (nI k)]) (rest := []) S (c_X1_at l G (a 6) (a 7) 6 (σ 3) n (nI k) (by decide)) (cwV 2 hts gX2_countWrongPointersOf_X1_at rfl rfl rfl (by decide +kernel) ⟨Nat.le_of_ble_eq_true rfl, Nat.le_of_ble_eq_true rfl⟩) hK (pG_perm hP [6, 7] rfl) (va_recv hK hP (ci := 0) (q0 := 6) rfl rfl) rfl hl.1 rfl (Nat.le_of_ble_eq_true rfl) dX2_countWrongPointersOf_60 ⟨Nat.zero_le _, Nat.zero_le _⟩ ?_
            refine lv_aload_n hx hb dX2_countWrongPointersOf_63 rfl (lv_at hl 0 rfl) ?_
            refine lv_iload_n hx hb dX2_countWrongPointersOf_64 rfl (lv_at hl 1 rfl) ?_
            refine lv_iload_n hx hb dX2_countWrongPointersOf_65 rfl (lv_at hl 3 rfl) ?_
            refine co_rS (As := [.int n, .int (nI k)]) (rest := [.ref (a 0), .int (tat 6 (σ 3) n (nI k))]) S (c_X0_fingerStart l G n (nI k)) (va_cwS 2 hts gX2_countWrongPointersOf_X0_fingerStart rfl rfl rfl (by decide +kernel) ⟨Nat.le_of_ble_eq_true rfl, Nat.le_of_ble_eq_true rfl⟩) hK (pG_nil) rfl hl.1 rfl (Nat.le_of_ble_eq_true rfl) dX2_countWrongPointersOf_66 ⟨Nat.zero_le _, Nat.zero_le _⟩ ?_
            refine co_rV (As := [.int (fgs n (nI k))]) (rest := [.int (tat 6 (σ 3) n (nI k))]) S (c_X2_firstLivingUpFrom l G a σ ρ (fgs n (nI k))) (cwV 1 hts gX2_countWrongPointersOf_X2_firstLivingUpFrom rfl rfl rfl (by decide +kernel) ⟨Nat.le_of_ble_eq_true rfl, Nat.le_of_ble_eq_true rfl⟩) hK hP (va_recv hK hP (ci := 1) (q0 := 0) rfl rfl) rfl hl.1 rfl (Nat.le_of_ble_eq_true rfl) dX2_countWrongPointersOf_69 ⟨Nat.zero_le _, Nat.zero_le _⟩ ?_
            refine lv_icmp_eq (tgt := 78) hx hb dX2_countWrongPointersOf_72 (by decide) (fun c_8 => ?_) (fun c_8 => ?_)
            · refine lv_iinc (v := (nI (k + 1))) (lv' := [(3, .int (nI (k + 1))), (0, .ref (a 0)), (1, .int n), (2, .int x)]) hx hb dX2_countWrongPointersOf_78 hl (k := 3) rfl (nI_1 k) (by decide) rfl (fun ls hl => ?_)
              refine lv_goto (tgt := 48) hx hb dX2_countWrongPointersOf_81 (by decide) ?_
              exact ih (k + 1) _ (by omega) (by subst hx9; simp only [wF, (eq_true c_8), eq_self, Bool.false_eq_true, ↓reduceIte]) ls (lv_sub hl [1, 2, 3, 0] rfl)
            · refine lv_iinc (v := (x + 1)) (lv' := [(2, .int (x + 1)), (0, .ref (a 0)), (1, .int n), (3, .int (nI k))]) hx hb dX2_countWrongPointersOf_75 hl (k := 2) rfl rfl (by decide) rfl (fun ls hl => ?_)
              refine lv_iinc (v := (nI (k + 1))) (lv' := [(3, .int (nI (k + 1))), (2, .int (x + 1)), (0, .ref (a 0)), (1, .int n)]) hx hb dX2_countWrongPointersOf_78 hl (k := 3) rfl (nI_1 k) (by decide) rfl (fun ls hl => ?_)
              refine lv_goto (tgt := 48) hx hb dX2_countWrongPointersOf_81 (by decide) ?_
              exact ih (k + 1) _ (by omega) (by subst hx9; simp only [wF, c_8, eq_self, Bool.false_eq_true, ↓reduceIte]) ls (lv_sub hl [2, 3, 1, 0] rfl)
      exact LP 6 0 _ rfl (by simp only [wF, w1S, w2S, (eq_true c_1), c_2, ↓reduceIte] <;> decide) ls (lv_sub hl [2, 3, 1, 0] rfl)
  · refine lv_iinc (v := 1) (lv' := [(2, .int 1), (0, .ref (a 0)), (1, .int n)]) hx hb dX2_countWrongPointersOf_19 hl (k := 0) rfl (by decide) (by decide) rfl (fun ls hl => ?_)
    refine lv_aload_n hx hb dX2_countWrongPointersOf_22 rfl (lv_at hl 1 rfl) ?_
    refine va_get (D := G.1) (ci := 1) (v := .ref (a 4)) (C := RX2) (T := TX2) (N := 12) hx hb hts uX2 hown hK hP 0 rfl rfl 2 (by decide) (hts (.fieldLink RX2 22 "ChordOverlay" "predecessors" "LChordOverlay$Table;") (by decide +kernel)) (fun _ h9 => h9) rfl dX2_countWrongPointersOf_23 ?_
    refine lv_iload_n hx hb dX2_countWrongPointersOf_26 rfl (lv_at hl 2 rfl) ?_
    refine lv_iconst (v := 0) hx hb dX2_countWrongPointersOf_27 (by decide) ?_
    refine co_rV (As := [.int n, .int 0]) (rest := []) S (c_X1_at l G (a 4) (a 5) 1 (σ 2) n 0 (by decide)) (cwV 2 hts gX2_countWrongPointersOf_X1_at rfl rfl rfl (by decide +kernel) ⟨Nat.le_of_ble_eq_true rfl, Nat.le_of_ble_eq_true rfl⟩) hK (pG_perm hP [4, 5] rfl) (va_recv hK hP (ci := 0) (q0 := 4) rfl rfl) rfl hl.1 rfl (Nat.le_of_ble_eq_true rfl) dX2_countWrongPointersOf_28 ⟨Nat.zero_le _, Nat.zero_le _⟩ ?_
    refine lv_aload_n hx hb dX2_countWrongPointersOf_31 rfl (lv_at hl 1 rfl) ?_
    refine lv_iload_n hx hb dX2_countWrongPointersOf_32 rfl (lv_at hl 2 rfl) ?_
    refine lv_iconst (v := (-1)) hx hb dX2_countWrongPointersOf_33 (by decide) ?_
    refine co_rS (As := [.int n, .int (-1)]) (rest := [.ref (a 0), .int (tat 1 (σ 2) n 0)]) S (c_X0_onward l G n (-1)) (va_cwS 2 hts gX2_countWrongPointersOf_X0_onward rfl rfl rfl (by decide +kernel) ⟨Nat.le_of_ble_eq_true rfl, Nat.le_of_ble_eq_true rfl⟩) hK (pG_nil) rfl hl.1 rfl (Nat.le_of_ble_eq_true rfl) dX2_countWrongPointersOf_34 ⟨Nat.zero_le _, Nat.zero_le _⟩ ?_
    refine co_rV (As := [.int (onw n (-1))]) (rest := [.int (tat 1 (σ 2) n 0)]) S (c_X2_firstLivingDownFrom l G a σ ρ (onw n (-1))) (cwV 1 hts gX2_countWrongPointersOf_X2_firstLivingDownFrom rfl rfl rfl (by decide +kernel) ⟨Nat.le_of_ble_eq_true rfl, Nat.le_of_ble_eq_true rfl⟩) hK hP (va_recv hK hP (ci := 1) (q0 := 0) rfl rfl) rfl hl.1 rfl (Nat.le_of_ble_eq_true rfl) dX2_countWrongPointersOf_37 ⟨Nat.zero_le _, Nat.zero_le _⟩ ?_
    refine lv_icmp_eq (tgt := 46) hx hb dX2_countWrongPointersOf_40 (by decide) (fun c_9 => ?_) (fun c_9 => ?_)
    · refine lv_iconst (v := 0) hx hb dX2_countWrongPointersOf_46 (by decide) ?_
      refine lv_istore_n (lv' := [(3, .int 0), (2, .int 1), (0, .ref (a 0)), (1, .int n)]) hx hb dX2_countWrongPointersOf_47 rfl hl (by decide) rfl (fun ls hl => ?_)
      have LP : ∀ (d : Nat) (k : Nat) (x : Int32), k + d = 6 → x = wF (σ 0) (σ 3) n (w2S (σ 0) (σ 2) n (w1S (σ 0) (σ 1) n)) k → ∀ ls : Array Slot, lv_has ls 4 [(0, .ref (a 0)), (1, .int n), (2, .int x), (3, .int (nI k))] → W p l e rm_X2_countWrongPointersOf s m args below meth c s.heap [] 0 0 (QR below (wrg σ n) args s) (F0 m 48 ls []) := by
        intro d
        induction d with
        | zero =>
          intro k x hk hx9 ls hl
          refine lv_iload_n hx hb dX2_countWrongPointersOf_48 rfl (lv_at hl 3 rfl) ?_
          refine lv_bipush (v := 6) hx hb dX2_countWrongPointersOf_49 (by decide) ?_
          refine lv_icmp_ge (tgt := 84) hx hb dX2_countWrongPointersOf_51 (by decide) (fun c_10 => ?_) (fun c_10 => ?_)
          · refine lv_iload_n hx hb dX2_countWrongPointersOf_84 rfl (lv_at hl 2 rfl) ?_
            exact co_endR S hr hlocks dX2_countWrongPointersOf_85 (by rw [hx9, show k = 6 by omega]; rfl)
          · exact absurd (nI_le (a := 6) (b := k) (by omega) (by omega)) c_10
        | succ d ih =>
          intro k x hk hx9 ls hl
          refine lv_iload_n hx hb dX2_countWrongPointersOf_48 rfl (lv_at hl 3 rfl) ?_
          refine lv_bipush (v := 6) hx hb dX2_countWrongPointersOf_49 (by decide) ?_
          refine lv_icmp_ge (tgt := 84) hx hb dX2_countWrongPointersOf_51 (by decide) (fun c_11 => ?_) (fun c_11 => ?_)
          · exact absurd c_11 (nI_ge (a := k) (b := 6) (by omega) (by omega))
          · refine lv_aload_n hx hb dX2_countWrongPointersOf_54 rfl (lv_at hl 0 rfl) ?_
            refine va_get (D := G.1) (ci := 1) (v := .ref (a 6)) (C := RX2) (T := TX2) (N := 12) hx hb hts uX2 hown hK hP 0 rfl rfl 3 (by decide) (hts (.fieldLink RX2 25 "ChordOverlay" "fingers" "LChordOverlay$Table;") (by decide +kernel)) (fun _ h9 => h9) rfl dX2_countWrongPointersOf_55 ?_
            refine lv_iload_n hx hb dX2_countWrongPointersOf_58 rfl (lv_at hl 1 rfl) ?_
            refine lv_iload_n hx hb dX2_countWrongPointersOf_59 rfl (lv_at hl 3 rfl) ?_
            refine co_rV (As := [.int n, .int (nI k)]) (rest := []) S (c_X1_at l G (a 6) (a 7) 6 (σ 3) n (nI k) (by decide)) (cwV 2 hts gX2_countWrongPointersOf_X1_at rfl rfl rfl (by decide +kernel) ⟨Nat.le_of_ble_eq_true rfl, Nat.le_of_ble_eq_true rfl⟩) hK (pG_perm hP [6, 7] rfl) (va_recv hK hP (ci := 0) (q0 := 6) rfl rfl) rfl hl.1 rfl (Nat.le_of_ble_eq_true rfl) dX2_countWrongPointersOf_60 ⟨Nat.zero_le _, Nat.zero_le _⟩ ?_
            refine lv_aload_n hx hb dX2_countWrongPointersOf_63 rfl (lv_at hl 0 rfl) ?_
            refine lv_iload_n hx hb dX2_countWrongPointersOf_64 rfl (lv_at hl 1 rfl) ?_
            refine lv_iload_n hx hb dX2_countWrongPointersOf_65 rfl (lv_at hl 3 rfl) ?_
            refine co_rS (As := [.int n, .int (nI k)]) (rest := [.ref (a 0), .int (tat 6 (σ 3) n (nI k))]) S (c_X0_fingerStart l G n (nI k)) (va_cwS 2 hts gX2_countWrongPointersOf_X0_fingerStart rfl rfl rfl (by decide +kernel) ⟨Nat.le_of_ble_eq_true rfl, Nat.le_of_ble_eq_true rfl⟩) hK (pG_nil) rfl hl.1 rfl (Nat.le_of_ble_eq_true rfl) dX2_countWrongPointersOf_66 ⟨Nat.zero_le _, Nat.zero_le _⟩ ?_
            refine co_rV (As := [.int (fgs n (nI k))]) (rest := [.int (tat 6 (σ 3) n (nI k))]) S (c_X2_firstLivingUpFrom l G a σ ρ (fgs n (nI k))) (cwV 1 hts gX2_countWrongPointersOf_X2_firstLivingUpFrom rfl rfl rfl (by decide +kernel) ⟨Nat.le_of_ble_eq_true rfl, Nat.le_of_ble_eq_true rfl⟩) hK hP (va_recv hK hP (ci := 1) (q0 := 0) rfl rfl) rfl hl.1 rfl (Nat.le_of_ble_eq_true rfl) dX2_countWrongPointersOf_69 ⟨Nat.zero_le _, Nat.zero_le _⟩ ?_
            refine lv_icmp_eq (tgt := 78) hx hb dX2_countWrongPointersOf_72 (by decide) (fun c_12 => ?_) (fun c_12 => ?_)
            · refine lv_iinc (v := (nI (k + 1))) (lv' := [(3, .int (nI (k + 1))), (0, .ref (a 0)), (1, .int n), (2, .int x)]) hx hb dX2_countWrongPointersOf_78 hl (k := 3) rfl (nI_1 k) (by decide) rfl (fun ls hl => ?_)
              refine lv_goto (tgt := 48) hx hb dX2_countWrongPointersOf_81 (by decide) ?_
              exact ih (k + 1) _ (by omega) (by subst hx9; simp only [wF, (eq_true c_12), eq_self, Bool.false_eq_true, ↓reduceIte]) ls (lv_sub hl [1, 2, 3, 0] rfl)
            · refine lv_iinc (v := (x + 1)) (lv' := [(2, .int (x + 1)), (0, .ref (a 0)), (1, .int n), (3, .int (nI k))]) hx hb dX2_countWrongPointersOf_75 hl (k := 2) rfl rfl (by decide) rfl (fun ls hl => ?_)
              refine lv_iinc (v := (nI (k + 1))) (lv' := [(3, .int (nI (k + 1))), (2, .int (x + 1)), (0, .ref (a 0)), (1, .int n)]) hx hb dX2_countWrongPointersOf_78 hl (k := 3) rfl (nI_1 k) (by decide) rfl (fun ls hl => ?_)
              refine lv_goto (tgt := 48) hx hb dX2_countWrongPointersOf_81 (by decide) ?_
              exact ih (k + 1) _ (by omega) (by subst hx9; simp only [wF, c_12, eq_self, Bool.false_eq_true, ↓reduceIte]) ls (lv_sub hl [2, 3, 1, 0] rfl)
      exact LP 6 0 _ rfl (by simp only [wF, w1S, w2S, c_1, (eq_true c_9), ↓reduceIte] <;> decide) ls (lv_sub hl [2, 3, 1, 0] rfl)
    · refine lv_iinc (v := 2) (lv' := [(2, .int 2), (0, .ref (a 0)), (1, .int n)]) hx hb dX2_countWrongPointersOf_43 hl (k := 0) rfl (by decide) (by decide) rfl (fun ls hl => ?_)
      refine lv_iconst (v := 0) hx hb dX2_countWrongPointersOf_46 (by decide) ?_
      refine lv_istore_n (lv' := [(3, .int 0), (2, .int 2), (0, .ref (a 0)), (1, .int n)]) hx hb dX2_countWrongPointersOf_47 rfl hl (by decide) rfl (fun ls hl => ?_)
      have LP : ∀ (d : Nat) (k : Nat) (x : Int32), k + d = 6 → x = wF (σ 0) (σ 3) n (w2S (σ 0) (σ 2) n (w1S (σ 0) (σ 1) n)) k → ∀ ls : Array Slot, lv_has ls 4 [(0, .ref (a 0)), (1, .int n), (2, .int x), (3, .int (nI k))] → W p l e rm_X2_countWrongPointersOf s m args below meth c s.heap [] 0 0 (QR below (wrg σ n) args s) (F0 m 48 ls []) := by
        intro d
        induction d with
        | zero =>
          intro k x hk hx9 ls hl
          refine lv_iload_n hx hb dX2_countWrongPointersOf_48 rfl (lv_at hl 3 rfl) ?_
          refine lv_bipush (v := 6) hx hb dX2_countWrongPointersOf_49 (by decide) ?_
          refine lv_icmp_ge (tgt := 84) hx hb dX2_countWrongPointersOf_51 (by decide) (fun c_13 => ?_) (fun c_13 => ?_)
          · refine lv_iload_n hx hb dX2_countWrongPointersOf_84 rfl (lv_at hl 2 rfl) ?_
            exact co_endR S hr hlocks dX2_countWrongPointersOf_85 (by rw [hx9, show k = 6 by omega]; rfl)
          · exact absurd (nI_le (a := 6) (b := k) (by omega) (by omega)) c_13
        | succ d ih =>
          intro k x hk hx9 ls hl
          refine lv_iload_n hx hb dX2_countWrongPointersOf_48 rfl (lv_at hl 3 rfl) ?_
          refine lv_bipush (v := 6) hx hb dX2_countWrongPointersOf_49 (by decide) ?_
          refine lv_icmp_ge (tgt := 84) hx hb dX2_countWrongPointersOf_51 (by decide) (fun c_14 => ?_) (fun c_14 => ?_)
          · exact absurd c_14 (nI_ge (a := k) (b := 6) (by omega) (by omega))
          · refine lv_aload_n hx hb dX2_countWrongPointersOf_54 rfl (lv_at hl 0 rfl) ?_
            refine va_get (D := G.1) (ci := 1) (v := .ref (a 6)) (C := RX2) (T := TX2) (N := 12) hx hb hts uX2 hown hK hP 0 rfl rfl 3 (by decide) (hts (.fieldLink RX2 25 "ChordOverlay" "fingers" "LChordOverlay$Table;") (by decide +kernel)) (fun _ h9 => h9) rfl dX2_countWrongPointersOf_55 ?_
            refine lv_iload_n hx hb dX2_countWrongPointersOf_58 rfl (lv_at hl 1 rfl) ?_
            refine lv_iload_n hx hb dX2_countWrongPointersOf_59 rfl (lv_at hl 3 rfl) ?_
            refine co_rV (As := [.int n, .int (nI k)]) (rest := []) S (c_X1_at l G (a 6) (a 7) 6 (σ 3) n (nI k) (by decide)) (cwV 2 hts gX2_countWrongPointersOf_X1_at rfl rfl rfl (by decide +kernel) ⟨Nat.le_of_ble_eq_true rfl, Nat.le_of_ble_eq_true rfl⟩) hK (pG_perm hP [6, 7] rfl) (va_recv hK hP (ci := 0) (q0 := 6) rfl rfl) rfl hl.1 rfl (Nat.le_of_ble_eq_true rfl) dX2_countWrongPointersOf_60 ⟨Nat.zero_le _, Nat.zero_le _⟩ ?_
            refine lv_aload_n hx hb dX2_countWrongPointersOf_63 rfl (lv_at hl 0 rfl) ?_
            refine lv_iload_n hx hb dX2_countWrongPointersOf_64 rfl (lv_at hl 1 rfl) ?_
            refine lv_iload_n hx hb dX2_countWrongPointersOf_65 rfl (lv_at hl 3 rfl) ?_
            refine co_rS (As := [.int n, .int (nI k)]) (rest := [.ref (a 0), .int (tat 6 (σ 3) n (nI k))]) S (c_X0_fingerStart l G n (nI k)) (va_cwS 2 hts gX2_countWrongPointersOf_X0_fingerStart rfl rfl rfl (by decide +kernel) ⟨Nat.le_of_ble_eq_true rfl, Nat.le_of_ble_eq_true rfl⟩) hK (pG_nil) rfl hl.1 rfl (Nat.le_of_ble_eq_true rfl) dX2_countWrongPointersOf_66 ⟨Nat.zero_le _, Nat.zero_le _⟩ ?_
            refine co_rV (As := [.int (fgs n (nI k))]) (rest := [.int (tat 6 (σ 3) n (nI k))]) S (c_X2_firstLivingUpFrom l G a σ ρ (fgs n (nI k))) (cwV 1 hts gX2_countWrongPointersOf_X2_firstLivingUpFrom rfl rfl rfl (by decide +kernel) ⟨Nat.le_of_ble_eq_true rfl, Nat.le_of_ble_eq_true rfl⟩) hK hP (va_recv hK hP (ci := 1) (q0 := 0) rfl rfl) rfl hl.1 rfl (Nat.le_of_ble_eq_true rfl) dX2_countWrongPointersOf_69 ⟨Nat.zero_le _, Nat.zero_le _⟩ ?_
            refine lv_icmp_eq (tgt := 78) hx hb dX2_countWrongPointersOf_72 (by decide) (fun c_15 => ?_) (fun c_15 => ?_)
            · refine lv_iinc (v := (nI (k + 1))) (lv' := [(3, .int (nI (k + 1))), (0, .ref (a 0)), (1, .int n), (2, .int x)]) hx hb dX2_countWrongPointersOf_78 hl (k := 3) rfl (nI_1 k) (by decide) rfl (fun ls hl => ?_)
              refine lv_goto (tgt := 48) hx hb dX2_countWrongPointersOf_81 (by decide) ?_
              exact ih (k + 1) _ (by omega) (by subst hx9; simp only [wF, (eq_true c_15), eq_self, Bool.false_eq_true, ↓reduceIte]) ls (lv_sub hl [1, 2, 3, 0] rfl)
            · refine lv_iinc (v := (x + 1)) (lv' := [(2, .int (x + 1)), (0, .ref (a 0)), (1, .int n), (3, .int (nI k))]) hx hb dX2_countWrongPointersOf_75 hl (k := 2) rfl rfl (by decide) rfl (fun ls hl => ?_)
              refine lv_iinc (v := (nI (k + 1))) (lv' := [(3, .int (nI (k + 1))), (2, .int (x + 1)), (0, .ref (a 0)), (1, .int n)]) hx hb dX2_countWrongPointersOf_78 hl (k := 3) rfl (nI_1 k) (by decide) rfl (fun ls hl => ?_)
              refine lv_goto (tgt := 48) hx hb dX2_countWrongPointersOf_81 (by decide) ?_
              exact ih (k + 1) _ (by omega) (by subst hx9; simp only [wF, c_15, eq_self, Bool.false_eq_true, ↓reduceIte]) ls (lv_sub hl [2, 3, 1, 0] rfl)
      exact LP 6 0 _ rfl (by simp only [wF, w1S, w2S, c_1, c_9, ↓reduceIte] <;> decide) ls (lv_sub hl [2, 3, 1, 0] rfl)

abbrev rm_X2_countWrongPointers : Room := { frames := 3, cells := 0, slots := 0, locals := 69 }
set_option maxHeartbeats 4000000 in
set_option maxRecDepth 100000 in
theorem c_X2_countWrongPointers (l : Launch) (G : cG) (a : Nat → Nat) (σ ρ : cS) : MetR l yX2_countWrongPointers wsX2_countWrongPointers rm_X2_countWrongPointers G (wO G a σ ρ) [.ref (a 0)] (cwp σ 64) := by
  refine co_bodyR (cc := cX2_countWrongPointers) (maxL := 3) (ret := (some .int)) (by decide) rfl (Nat.le_of_ble_eq_true rfl) ?_
  intro p e s m args below meth c S hr hlocks hK hP ls hl
  have S : CallFix p m c cX2_countWrongPointers 3 s args wsX2_countWrongPointers RX2 := S
  obtain ⟨hx, hb, hml, hown, hts⟩ := id S
  have hl : lv_has ls 3 [(0, .ref (a 0))] := hl
  refine lv_iconst (v := 0) hx hb dX2_countWrongPointers_0 (by decide) ?_
  refine lv_istore_n (lv' := [(1, .int 0), (0, .ref (a 0))]) hx hb dX2_countWrongPointers_1 rfl hl (by decide) rfl (fun ls hl => ?_)
  refine lv_iconst (v := 0) hx hb dX2_countWrongPointers_2 (by decide) ?_
  refine lv_istore_n (lv' := [(2, .int 0), (1, .int 0), (0, .ref (a 0))]) hx hb dX2_countWrongPointers_3 rfl hl (by decide) rfl (fun ls hl => ?_)
  have LP : ∀ (d : Nat) (k : Nat) (x : Int32), k + d = 64 → x = cwp σ k → ∀ ls : Array Slot, lv_has ls 3 [(0, .ref (a 0)), (1, .int x), (2, .int (nI k))] → W p l e rm_X2_countWrongPointers s m args below meth c s.heap [] 0 0 (QR below (cwp σ 64) args s) (F0 m 4 ls []) := by
    intro d
    induction d with
    | zero =>
      intro k x hk hx9 ls hl
      refine lv_iload_n hx hb dX2_countWrongPointers_4 rfl (lv_at hl 2 rfl) ?_
      refine lv_bipush (v := 64) hx hb dX2_countWrongPointers_5 (by decide) ?_
      refine lv_icmp_ge (tgt := 32) hx hb dX2_countWrongPointers_7 (by decide) (fun c_1 => ?_) (fun c_1 => ?_)
      · refine lv_iload_n hx hb dX2_countWrongPointers_32 rfl (lv_at hl 1 rfl) ?_
        exact co_endR S hr hlocks dX2_countWrongPointers_33 (by rw [hx9, show k = 64 by omega])
      · exact absurd (nI_le (a := 64) (b := k) (by omega) (by omega)) c_1
    | succ d ih =>
      intro k x hk hx9 ls hl
      refine lv_iload_n hx hb dX2_countWrongPointers_4 rfl (lv_at hl 2 rfl) ?_
      refine lv_bipush (v := 64) hx hb dX2_countWrongPointers_5 (by decide) ?_
      refine lv_icmp_ge (tgt := 32) hx hb dX2_countWrongPointers_7 (by decide) (fun c_2 => ?_) (fun c_2 => ?_)
      · exact absurd c_2 (nI_ge (a := k) (b := 64) (by omega) (by omega))
      · refine lv_aload_n hx hb dX2_countWrongPointers_10 rfl (lv_at hl 0 rfl) ?_
        refine lv_iload_n hx hb dX2_countWrongPointers_11 rfl (lv_at hl 2 rfl) ?_
        refine co_rV (As := [.int (nI k)]) (rest := []) S (c_X2_isAlive l G a σ ρ (nI k)) (cwV 1 hts gX2_countWrongPointers_X2_isAlive rfl rfl rfl (by decide +kernel) ⟨Nat.le_of_ble_eq_true rfl, Nat.le_of_ble_eq_true rfl⟩) hK hP (va_recv hK hP (ci := 1) (q0 := 0) rfl rfl) rfl hl.1 rfl (Nat.le_of_ble_eq_true rfl) dX2_countWrongPointers_12 ⟨Nat.zero_le _, Nat.zero_le _⟩ ?_
        refine co_ifeq (tgt := 26) S dX2_countWrongPointers_15 (by decide) (fun c_3 => ?_) (fun c_3 => ?_)
        · refine lv_iinc (v := (nI (k + 1))) (lv' := [(2, .int (nI (k + 1))), (0, .ref (a 0)), (1, .int x)]) hx hb dX2_countWrongPointers_26 hl (k := 2) rfl (nI_1 k) (by decide) rfl (fun ls hl => ?_)
          refine lv_goto (tgt := 4) hx hb dX2_countWrongPointers_29 (by decide) ?_
          exact ih (k + 1) _ (by omega) (by subst hx9; simp only [cwp, c_3, eq_self, Bool.false_eq_true, ↓reduceIte]) ls (lv_sub hl [1, 2, 0] rfl)
        · refine lv_iload_n hx hb dX2_countWrongPointers_18 rfl (lv_at hl 1 rfl) ?_
          refine lv_aload_n hx hb dX2_countWrongPointers_19 rfl (lv_at hl 0 rfl) ?_
          refine lv_iload_n hx hb dX2_countWrongPointers_20 rfl (lv_at hl 2 rfl) ?_
          refine co_rV (As := [.int (nI k)]) (rest := [.int x]) S (c_X2_countWrongPointersOf l G a σ ρ (nI k)) (cwV 1 hts gX2_countWrongPointers_X2_countWrongPointersOf rfl rfl rfl (by decide +kernel) ⟨Nat.le_of_ble_eq_true rfl, Nat.le_of_ble_eq_true rfl⟩) hK hP (va_recv hK hP (ci := 1) (q0 := 0) rfl rfl) rfl hl.1 rfl (Nat.le_of_ble_eq_true rfl) dX2_countWrongPointers_21 ⟨Nat.zero_le _, Nat.zero_le _⟩ ?_
          refine lv_iadd hx hb dX2_countWrongPointers_24 ?_
          refine lv_istore_n (lv' := [(1, .int (x + (wrg σ (nI k)))), (0, .ref (a 0)), (2, .int (nI k))]) hx hb dX2_countWrongPointers_25 rfl hl (by decide) rfl (fun ls hl => ?_)
          refine lv_iinc (v := (nI (k + 1))) (lv' := [(2, .int (nI (k + 1))), (1, .int (x + (wrg σ (nI k)))), (0, .ref (a 0))]) hx hb dX2_countWrongPointers_26 hl (k := 2) rfl (nI_1 k) (by decide) rfl (fun ls hl => ?_)
          refine lv_goto (tgt := 4) hx hb dX2_countWrongPointers_29 (by decide) ?_
          exact ih (k + 1) _ (by omega) (by subst hx9; simp only [cwp, c_3, eq_self, Bool.false_eq_true, ↓reduceIte]) ls (lv_sub hl [2, 1, 0] rfl)
  exact LP 64 0 _ rfl rfl ls (lv_sub hl [2, 1, 0] rfl)
end
section
theorem zz_look : True := trivial
end
