section
-- ===== PART A: goes FIRST, ahead of the names: the tables' words, and 'selects' of the private methods out of them =====
/-- a private method of a class that the tables say can be made, by its rows of tables_1 -/
def lw_okq (q : MethodName × Nat) : Prop := (q.1.cls ≠ "java/lang/invoke/MethodHandle" ∧ q.1.cls ≠ "java/lang/invoke/VarHandle") ∧ Cond.instantiable q.1.cls q.2 ∈ tables_1 ∧ Cond.privateMethod q.1 ∈ tables_1 ∧ Cond.instanceMethod q.1 ∈ tables_1
theorem lw_p0 : lw_okq (⟨"PointShares$Setup", "mendCut", "()V"⟩, 11) := ⟨⟨by decide +kernel, by decide +kernel⟩, List.mem_of_getElem? (i := 20) (by decide +kernel), List.mem_of_getElem? (i := 253) (by decide +kernel), List.mem_of_getElem? (i := 254) (by decide +kernel)⟩
theorem lw_p1 : lw_okq (⟨"PointShares", "isParty", "(I)Z"⟩, 8) := ⟨⟨by decide +kernel, by decide +kernel⟩, List.mem_of_getElem? (i := 12) (by decide +kernel), List.mem_of_getElem? (i := 269) (by decide +kernel), List.mem_of_getElem? (i := 270) (by decide +kernel)⟩
theorem lw_p2 : lw_okq (⟨"PointShares", "isThing", "(I)Z"⟩, 8) := ⟨⟨by decide +kernel, by decide +kernel⟩, List.mem_of_getElem? (i := 12) (by decide +kernel), List.mem_of_getElem? (i := 273) (by decide +kernel), List.mem_of_getElem? (i := 274) (by decide +kernel)⟩
theorem lw_p3 : lw_okq (⟨"PointShares", "areTwo", "(II)Z"⟩, 8) := ⟨⟨by decide +kernel, by decide +kernel⟩, List.mem_of_getElem? (i := 12) (by decide +kernel), List.mem_of_getElem? (i := 314) (by decide +kernel), List.mem_of_getElem? (i := 315) (by decide +kernel)⟩
theorem lw_p4 : lw_okq (⟨"PointShares$Adjustment", "giveFirst", "([I[III)J"⟩, 10) := ⟨⟨by decide +kernel, by decide +kernel⟩, List.mem_of_getElem? (i := 93) (by decide +kernel), List.mem_of_getElem? (i := 325) (by decide +kernel), List.mem_of_getElem? (i := 326) (by decide +kernel)⟩
theorem lw_p5 : lw_okq (⟨"PointShares$Adjustment", "moveToPoor", "([I[IJ)V"⟩, 10) := ⟨⟨by decide +kernel, by decide +kernel⟩, List.mem_of_getElem? (i := 93) (by decide +kernel), List.mem_of_getElem? (i := 329) (by decide +kernel), List.mem_of_getElem? (i := 330) (by decide +kernel)⟩
theorem lw_p6 : lw_okq (⟨"PointShares$Adjustment", "nextToMove", "([I[I)I"⟩, 10) := ⟨⟨by decide +kernel, by decide +kernel⟩, List.mem_of_getElem? (i := 93) (by decide +kernel), List.mem_of_getElem? (i := 333) (by decide +kernel), List.mem_of_getElem? (i := 334) (by decide +kernel)⟩
theorem lw_p7 : lw_okq (⟨"PointShares$Adjustment", "setAlike", "([I)V"⟩, 10) := ⟨⟨by decide +kernel, by decide +kernel⟩, List.mem_of_getElem? (i := 93) (by decide +kernel), List.mem_of_getElem? (i := 340) (by decide +kernel), List.mem_of_getElem? (i := 341) (by decide +kernel)⟩
theorem lw_p8 : lw_okq (⟨"PointShares", "doClause", "(II)I"⟩, 8) := ⟨⟨by decide +kernel, by decide +kernel⟩, List.mem_of_getElem? (i := 12) (by decide +kernel), List.mem_of_getElem? (i := 384) (by decide +kernel), List.mem_of_getElem? (i := 385) (by decide +kernel)⟩
theorem lw_p9 : lw_okq (⟨"PointShares", "claimOf", "(I)I"⟩, 8) := ⟨⟨by decide +kernel, by decide +kernel⟩, List.mem_of_getElem? (i := 12) (by decide +kernel), List.mem_of_getElem? (i := 434) (by decide +kernel), List.mem_of_getElem? (i := 435) (by decide +kernel)⟩
theorem lw_p10 : lw_okq (⟨"PointShares", "firstUnheld", "(I)I"⟩, 8) := ⟨⟨by decide +kernel, by decide +kernel⟩, List.mem_of_getElem? (i := 12) (by decide +kernel), List.mem_of_getElem? (i := 438) (by decide +kernel), List.mem_of_getElem? (i := 439) (by decide +kernel)⟩
theorem lw_p11 : lw_okq (⟨"PointShares", "firstEnvied", "(I)I"⟩, 8) := ⟨⟨by decide +kernel, by decide +kernel⟩, List.mem_of_getElem? (i := 12) (by decide +kernel), List.mem_of_getElem? (i := 442) (by decide +kernel), List.mem_of_getElem? (i := 443) (by decide +kernel)⟩
theorem lw_p12 : lw_okq (⟨"PointShares", "causeOf", "(II)I"⟩, 8) := ⟨⟨by decide +kernel, by decide +kernel⟩, List.mem_of_getElem? (i := 12) (by decide +kernel), List.mem_of_getElem? (i := 446) (by decide +kernel), List.mem_of_getElem? (i := 447) (by decide +kernel)⟩
theorem lw_p13 : lw_okq (⟨"PointShares", "secondCauseOf", "(II)I"⟩, 8) := ⟨⟨by decide +kernel, by decide +kernel⟩, List.mem_of_getElem? (i := 12) (by decide +kernel), List.mem_of_getElem? (i := 460) (by decide +kernel), List.mem_of_getElem? (i := 461) (by decide +kernel)⟩
theorem lw_p14 : lw_okq (⟨"PointShares", "enviousBits", "()I"⟩, 8) := ⟨⟨by decide +kernel, by decide +kernel⟩, List.mem_of_getElem? (i := 12) (by decide +kernel), List.mem_of_getElem? (i := 476) (by decide +kernel), List.mem_of_getElem? (i := 477) (by decide +kernel)⟩
theorem lw_p15 : lw_okq (⟨"PointShares$WholeWays", "poorest", "()I"⟩, 10) := ⟨⟨by decide +kernel, by decide +kernel⟩, List.mem_of_getElem? (i := 142) (by decide +kernel), List.mem_of_getElem? (i := 489) (by decide +kernel), List.mem_of_getElem? (i := 490) (by decide +kernel)⟩
def lw_privs_1 : List (MethodName × Nat) := [(⟨"PointShares$Setup", "mendCut", "()V"⟩, 11), (⟨"PointShares", "isParty", "(I)Z"⟩, 8), (⟨"PointShares", "isThing", "(I)Z"⟩, 8), (⟨"PointShares", "areTwo", "(II)Z"⟩, 8), (⟨"PointShares$Adjustment", "giveFirst", "([I[III)J"⟩, 10), (⟨"PointShares$Adjustment", "moveToPoor", "([I[IJ)V"⟩, 10), (⟨"PointShares$Adjustment", "nextToMove", "([I[I)I"⟩, 10), (⟨"PointShares$Adjustment", "setAlike", "([I)V"⟩, 10), (⟨"PointShares", "doClause", "(II)I"⟩, 8), (⟨"PointShares", "claimOf", "(I)I"⟩, 8), (⟨"PointShares", "firstUnheld", "(I)I"⟩, 8), (⟨"PointShares", "firstEnvied", "(I)I"⟩, 8), (⟨"PointShares", "causeOf", "(II)I"⟩, 8), (⟨"PointShares", "secondCauseOf", "(II)I"⟩, 8), (⟨"PointShares", "enviousBits", "()I"⟩, 8), (⟨"PointShares$WholeWays", "poorest", "()I"⟩, 10)]
theorem lw_r1 : ∀ q ∈ lw_privs_1, lw_okq q := List.forall_mem_cons.mpr ⟨lw_p0, List.forall_mem_cons.mpr ⟨lw_p1, List.forall_mem_cons.mpr ⟨lw_p2, List.forall_mem_cons.mpr ⟨lw_p3, List.forall_mem_cons.mpr ⟨lw_p4, List.forall_mem_cons.mpr ⟨lw_p5, List.forall_mem_cons.mpr ⟨lw_p6, List.forall_mem_cons.mpr ⟨lw_p7, List.forall_mem_cons.mpr ⟨lw_p8, List.forall_mem_cons.mpr ⟨lw_p9, List.forall_mem_cons.mpr ⟨lw_p10, List.forall_mem_cons.mpr ⟨lw_p11, List.forall_mem_cons.mpr ⟨lw_p12, List.forall_mem_cons.mpr ⟨lw_p13, List.forall_mem_cons.mpr ⟨lw_p14, List.forall_mem_cons.mpr ⟨lw_p15, fun _ h => absurd h List.not_mem_nil⟩⟩⟩⟩⟩⟩⟩⟩⟩⟩⟩⟩⟩⟩⟩⟩
theorem lw_p16 : lw_okq (⟨"PointShares$WholeWays", "keep", "(I)V"⟩, 10) := ⟨⟨by decide +kernel, by decide +kernel⟩, List.mem_of_getElem? (i := 142) (by decide +kernel), List.mem_of_getElem? (i := 493) (by decide +kernel), List.mem_of_getElem? (i := 494) (by decide +kernel)⟩
theorem lw_p17 : lw_okq (⟨"PointShares$WholeWays", "denyOthers", "(III)V"⟩, 10) := ⟨⟨by decide +kernel, by decide +kernel⟩, List.mem_of_getElem? (i := 142) (by decide +kernel), List.mem_of_getElem? (i := 498) (by decide +kernel), List.mem_of_getElem? (i := 499) (by decide +kernel)⟩
theorem lw_p18 : lw_okq (⟨"PointShares", "triedFitsSeen", "()Z"⟩, 8) := ⟨⟨by decide +kernel, by decide +kernel⟩, List.mem_of_getElem? (i := 12) (by decide +kernel), List.mem_of_getElem? (i := 563) (by decide +kernel), List.mem_of_getElem? (i := 564) (by decide +kernel)⟩
theorem lw_p19 : lw_okq (⟨"PointShares", "letHappen", "(II)V"⟩, 8) := ⟨⟨by decide +kernel, by decide +kernel⟩, List.mem_of_getElem? (i := 12) (by decide +kernel), List.mem_of_getElem? (i := 585) (by decide +kernel), List.mem_of_getElem? (i := 586) (by decide +kernel)⟩
theorem lw_p20 : lw_okq (⟨"PointSharesModel", "holds", "(II)V"⟩, 23) := ⟨⟨by decide +kernel, by decide +kernel⟩, List.mem_of_getElem? (i := 658) (by decide +kernel), List.mem_of_getElem? (i := 748) (by decide +kernel), List.mem_of_getElem? (i := 749) (by decide +kernel)⟩
theorem lw_p21 : lw_okq (⟨"PointSharesModel", "isParty", "(I)Z"⟩, 23) := ⟨⟨by decide +kernel, by decide +kernel⟩, List.mem_of_getElem? (i := 658) (by decide +kernel), List.mem_of_getElem? (i := 756) (by decide +kernel), List.mem_of_getElem? (i := 757) (by decide +kernel)⟩
theorem lw_p22 : lw_okq (⟨"PointSharesModel", "isThing", "(I)Z"⟩, 23) := ⟨⟨by decide +kernel, by decide +kernel⟩, List.mem_of_getElem? (i := 658) (by decide +kernel), List.mem_of_getElem? (i := 760) (by decide +kernel), List.mem_of_getElem? (i := 761) (by decide +kernel)⟩
theorem lw_p23 : lw_okq (⟨"PointSharesModel", "pointsOf", "(II)I"⟩, 23) := ⟨⟨by decide +kernel, by decide +kernel⟩, List.mem_of_getElem? (i := 658) (by decide +kernel), List.mem_of_getElem? (i := 765) (by decide +kernel), List.mem_of_getElem? (i := 766) (by decide +kernel)⟩
theorem lw_p24 : lw_okq (⟨"PointSharesModel", "allOf", "(I)I"⟩, 23) := ⟨⟨by decide +kernel, by decide +kernel⟩, List.mem_of_getElem? (i := 658) (by decide +kernel), List.mem_of_getElem? (i := 777) (by decide +kernel), List.mem_of_getElem? (i := 778) (by decide +kernel)⟩
theorem lw_p25 : lw_okq (⟨"PointSharesModel", "splits", "()I"⟩, 23) := ⟨⟨by decide +kernel, by decide +kernel⟩, List.mem_of_getElem? (i := 658) (by decide +kernel), List.mem_of_getElem? (i := 792) (by decide +kernel), List.mem_of_getElem? (i := 793) (by decide +kernel)⟩
theorem lw_p26 : lw_okq (⟨"PointSharesModel", "splits", "(IIJJ)V"⟩, 23) := ⟨⟨by decide +kernel, by decide +kernel⟩, List.mem_of_getElem? (i := 658) (by decide +kernel), List.mem_of_getElem? (i := 796) (by decide +kernel), List.mem_of_getElem? (i := 797) (by decide +kernel)⟩
theorem lw_p27 : lw_okq (⟨"PointSharesModel", "heldUp", "(II)I"⟩, 23) := ⟨⟨by decide +kernel, by decide +kernel⟩, List.mem_of_getElem? (i := 658) (by decide +kernel), List.mem_of_getElem? (i := 818) (by decide +kernel), List.mem_of_getElem? (i := 819) (by decide +kernel)⟩
theorem lw_p28 : lw_okq (⟨"PointSharesModel", "worth", "(II)J"⟩, 23) := ⟨⟨by decide +kernel, by decide +kernel⟩, List.mem_of_getElem? (i := 658) (by decide +kernel), List.mem_of_getElem? (i := 826) (by decide +kernel), List.mem_of_getElem? (i := 827) (by decide +kernel)⟩
theorem lw_p29 : lw_okq (⟨"PointSharesModel", "lowOfAll", "()J"⟩, 23) := ⟨⟨by decide +kernel, by decide +kernel⟩, List.mem_of_getElem? (i := 658) (by decide +kernel), List.mem_of_getElem? (i := 830) (by decide +kernel), List.mem_of_getElem? (i := 831) (by decide +kernel)⟩
theorem lw_p30 : lw_okq (⟨"PointSharesModel", "claimOf", "(I)I"⟩, 23) := ⟨⟨by decide +kernel, by decide +kernel⟩, List.mem_of_getElem? (i := 658) (by decide +kernel), List.mem_of_getElem? (i := 838) (by decide +kernel), List.mem_of_getElem? (i := 839) (by decide +kernel)⟩
theorem lw_p31 : lw_okq (⟨"PointSharesModel", "firstWanting", "(I)I"⟩, 23) := ⟨⟨by decide +kernel, by decide +kernel⟩, List.mem_of_getElem? (i := 658) (by decide +kernel), List.mem_of_getElem? (i := 842) (by decide +kernel), List.mem_of_getElem? (i := 843) (by decide +kernel)⟩
def lw_privs_2 : List (MethodName × Nat) := [(⟨"PointShares$WholeWays", "keep", "(I)V"⟩, 10), (⟨"PointShares$WholeWays", "denyOthers", "(III)V"⟩, 10), (⟨"PointShares", "triedFitsSeen", "()Z"⟩, 8), (⟨"PointShares", "letHappen", "(II)V"⟩, 8), (⟨"PointSharesModel", "holds", "(II)V"⟩, 23), (⟨"PointSharesModel", "isParty", "(I)Z"⟩, 23), (⟨"PointSharesModel", "isThing", "(I)Z"⟩, 23), (⟨"PointSharesModel", "pointsOf", "(II)I"⟩, 23), (⟨"PointSharesModel", "allOf", "(I)I"⟩, 23), (⟨"PointSharesModel", "splits", "()I"⟩, 23), (⟨"PointSharesModel", "splits", "(IIJJ)V"⟩, 23), (⟨"PointSharesModel", "heldUp", "(II)I"⟩, 23), (⟨"PointSharesModel", "worth", "(II)J"⟩, 23), (⟨"PointSharesModel", "lowOfAll", "()J"⟩, 23), (⟨"PointSharesModel", "claimOf", "(I)I"⟩, 23), (⟨"PointSharesModel", "firstWanting", "(I)I"⟩, 23)]
theorem lw_r2 : ∀ q ∈ lw_privs_2, lw_okq q := List.forall_mem_cons.mpr ⟨lw_p16, List.forall_mem_cons.mpr ⟨lw_p17, List.forall_mem_cons.mpr ⟨lw_p18, List.forall_mem_cons.mpr ⟨lw_p19, List.forall_mem_cons.mpr ⟨lw_p20, List.forall_mem_cons.mpr ⟨lw_p21, List.forall_mem_cons.mpr ⟨lw_p22, List.forall_mem_cons.mpr ⟨lw_p23, List.forall_mem_cons.mpr ⟨lw_p24, List.forall_mem_cons.mpr ⟨lw_p25, List.forall_mem_cons.mpr ⟨lw_p26, List.forall_mem_cons.mpr ⟨lw_p27, List.forall_mem_cons.mpr ⟨lw_p28, List.forall_mem_cons.mpr ⟨lw_p29, List.forall_mem_cons.mpr ⟨lw_p30, List.forall_mem_cons.mpr ⟨lw_p31, fun _ h => absurd h List.not_mem_nil⟩⟩⟩⟩⟩⟩⟩⟩⟩⟩⟩⟩⟩⟩⟩⟩
theorem lw_p32 : lw_okq (⟨"PointSharesModel", "isWanting", "(II)Z"⟩, 23) := ⟨⟨by decide +kernel, by decide +kernel⟩, List.mem_of_getElem? (i := 658) (by decide +kernel), List.mem_of_getElem? (i := 846) (by decide +kernel), List.mem_of_getElem? (i := 847) (by decide +kernel)⟩
theorem lw_p33 : lw_okq (⟨"PointSharesModel", "envied", "(I)I"⟩, 23) := ⟨⟨by decide +kernel, by decide +kernel⟩, List.mem_of_getElem? (i := 658) (by decide +kernel), List.mem_of_getElem? (i := 850) (by decide +kernel), List.mem_of_getElem? (i := 851) (by decide +kernel)⟩
theorem lw_p34 : lw_okq (⟨"PointSharesModel", "causeOf", "(II)I"⟩, 23) := ⟨⟨by decide +kernel, by decide +kernel⟩, List.mem_of_getElem? (i := 658) (by decide +kernel), List.mem_of_getElem? (i := 854) (by decide +kernel), List.mem_of_getElem? (i := 855) (by decide +kernel)⟩
theorem lw_p35 : lw_okq (⟨"PointSharesModel", "bitsOf", "(I)I"⟩, 23) := ⟨⟨by decide +kernel, by decide +kernel⟩, List.mem_of_getElem? (i := 658) (by decide +kernel), List.mem_of_getElem? (i := 858) (by decide +kernel), List.mem_of_getElem? (i := 859) (by decide +kernel)⟩
theorem lw_p36 : lw_okq (⟨"PointSharesModel", "doesHold", "(II)Z"⟩, 23) := ⟨⟨by decide +kernel, by decide +kernel⟩, List.mem_of_getElem? (i := 658) (by decide +kernel), List.mem_of_getElem? (i := 862) (by decide +kernel), List.mem_of_getElem? (i := 863) (by decide +kernel)⟩
theorem lw_p37 : lw_okq (⟨"PointSharesModel", "ones", "(I)I"⟩, 23) := ⟨⟨by decide +kernel, by decide +kernel⟩, List.mem_of_getElem? (i := 658) (by decide +kernel), List.mem_of_getElem? (i := 866) (by decide +kernel), List.mem_of_getElem? (i := 867) (by decide +kernel)⟩
theorem lw_p38 : lw_okq (⟨"PointSharesModel", "areTwo", "(II)Z"⟩, 23) := ⟨⟨by decide +kernel, by decide +kernel⟩, List.mem_of_getElem? (i := 658) (by decide +kernel), List.mem_of_getElem? (i := 874) (by decide +kernel), List.mem_of_getElem? (i := 875) (by decide +kernel)⟩
theorem lw_p39 : lw_okq (⟨"PointSharesModel", "byRatio", "(III)I"⟩, 23) := ⟨⟨by decide +kernel, by decide +kernel⟩, List.mem_of_getElem? (i := 658) (by decide +kernel), List.mem_of_getElem? (i := 882) (by decide +kernel), List.mem_of_getElem? (i := 883) (by decide +kernel)⟩
theorem lw_p40 : lw_okq (⟨"PointSharesModel", "aheadBy", "(III)I"⟩, 23) := ⟨⟨by decide +kernel, by decide +kernel⟩, List.mem_of_getElem? (i := 658) (by decide +kernel), List.mem_of_getElem? (i := 886) (by decide +kernel), List.mem_of_getElem? (i := 887) (by decide +kernel)⟩
theorem lw_p41 : lw_okq (⟨"PointSharesModel", "isAhead", "(IIII)Z"⟩, 23) := ⟨⟨by decide +kernel, by decide +kernel⟩, List.mem_of_getElem? (i := 658) (by decide +kernel), List.mem_of_getElem? (i := 890) (by decide +kernel), List.mem_of_getElem? (i := 891) (by decide +kernel)⟩
theorem lw_p42 : lw_okq (⟨"PointSharesModel", "adjusts", "(II)Z"⟩, 23) := ⟨⟨by decide +kernel, by decide +kernel⟩, List.mem_of_getElem? (i := 658) (by decide +kernel), List.mem_of_getElem? (i := 898) (by decide +kernel), List.mem_of_getElem? (i := 899) (by decide +kernel)⟩
theorem lw_p43 : lw_okq (⟨"PointSharesModel", "moreOf", "(IIZ)I"⟩, 23) := ⟨⟨by decide +kernel, by decide +kernel⟩, List.mem_of_getElem? (i := 658) (by decide +kernel), List.mem_of_getElem? (i := 902) (by decide +kernel), List.mem_of_getElem? (i := 903) (by decide +kernel)⟩
theorem lw_p44 : lw_okq (⟨"PointSharesModel", "sumOf", "(IZ)I"⟩, 23) := ⟨⟨by decide +kernel, by decide +kernel⟩, List.mem_of_getElem? (i := 658) (by decide +kernel), List.mem_of_getElem? (i := 906) (by decide +kernel), List.mem_of_getElem? (i := 907) (by decide +kernel)⟩
theorem lw_p45 : lw_okq (⟨"PointSharesModel", "movesAll", "(Z)V"⟩, 23) := ⟨⟨by decide +kernel, by decide +kernel⟩, List.mem_of_getElem? (i := 658) (by decide +kernel), List.mem_of_getElem? (i := 910) (by decide +kernel), List.mem_of_getElem? (i := 911) (by decide +kernel)⟩
theorem lw_p46 : lw_okq (⟨"PointSharesModel", "bitsSo", "(Z)I"⟩, 23) := ⟨⟨by decide +kernel, by decide +kernel⟩, List.mem_of_getElem? (i := 658) (by decide +kernel), List.mem_of_getElem? (i := 914) (by decide +kernel), List.mem_of_getElem? (i := 915) (by decide +kernel)⟩
theorem lw_p47 : lw_okq (⟨"PointSharesModel", "doesHoldSo", "(ZI)Z"⟩, 23) := ⟨⟨by decide +kernel, by decide +kernel⟩, List.mem_of_getElem? (i := 658) (by decide +kernel), List.mem_of_getElem? (i := 918) (by decide +kernel), List.mem_of_getElem? (i := 919) (by decide +kernel)⟩
def lw_privs_3 : List (MethodName × Nat) := [(⟨"PointSharesModel", "isWanting", "(II)Z"⟩, 23), (⟨"PointSharesModel", "envied", "(I)I"⟩, 23), (⟨"PointSharesModel", "causeOf", "(II)I"⟩, 23), (⟨"PointSharesModel", "bitsOf", "(I)I"⟩, 23), (⟨"PointSharesModel", "doesHold", "(II)Z"⟩, 23), (⟨"PointSharesModel", "ones", "(I)I"⟩, 23), (⟨"PointSharesModel", "areTwo", "(II)Z"⟩, 23), (⟨"PointSharesModel", "byRatio", "(III)I"⟩, 23), (⟨"PointSharesModel", "aheadBy", "(III)I"⟩, 23), (⟨"PointSharesModel", "isAhead", "(IIII)Z"⟩, 23), (⟨"PointSharesModel", "adjusts", "(II)Z"⟩, 23), (⟨"PointSharesModel", "moreOf", "(IIZ)I"⟩, 23), (⟨"PointSharesModel", "sumOf", "(IZ)I"⟩, 23), (⟨"PointSharesModel", "movesAll", "(Z)V"⟩, 23), (⟨"PointSharesModel", "bitsSo", "(Z)I"⟩, 23), (⟨"PointSharesModel", "doesHoldSo", "(ZI)Z"⟩, 23)]
theorem lw_r3 : ∀ q ∈ lw_privs_3, lw_okq q := List.forall_mem_cons.mpr ⟨lw_p32, List.forall_mem_cons.mpr ⟨lw_p33, List.forall_mem_cons.mpr ⟨lw_p34, List.forall_mem_cons.mpr ⟨lw_p35, List.forall_mem_cons.mpr ⟨lw_p36, List.forall_mem_cons.mpr ⟨lw_p37, List.forall_mem_cons.mpr ⟨lw_p38, List.forall_mem_cons.mpr ⟨lw_p39, List.forall_mem_cons.mpr ⟨lw_p40, List.forall_mem_cons.mpr ⟨lw_p41, List.forall_mem_cons.mpr ⟨lw_p42, List.forall_mem_cons.mpr ⟨lw_p43, List.forall_mem_cons.mpr ⟨lw_p44, List.forall_mem_cons.mpr ⟨lw_p45, List.forall_mem_cons.mpr ⟨lw_p46, List.forall_mem_cons.mpr ⟨lw_p47, fun _ h => absurd h List.not_mem_nil⟩⟩⟩⟩⟩⟩⟩⟩⟩⟩⟩⟩⟩⟩⟩⟩
theorem lw_p48 : lw_okq (⟨"PointSharesModel", "alikeOf", "(II)J"⟩, 23) := ⟨⟨by decide +kernel, by decide +kernel⟩, List.mem_of_getElem? (i := 658) (by decide +kernel), List.mem_of_getElem? (i := 926) (by decide +kernel), List.mem_of_getElem? (i := 927) (by decide +kernel)⟩
theorem lw_p49 : lw_okq (⟨"PointSharesModel", "searches", "()V"⟩, 23) := ⟨⟨by decide +kernel, by decide +kernel⟩, List.mem_of_getElem? (i := 658) (by decide +kernel), List.mem_of_getElem? (i := 942) (by decide +kernel), List.mem_of_getElem? (i := 943) (by decide +kernel)⟩
theorem lw_p50 : lw_okq (⟨"PointSharesModel", "wayWorth", "(I)I"⟩, 23) := ⟨⟨by decide +kernel, by decide +kernel⟩, List.mem_of_getElem? (i := 658) (by decide +kernel), List.mem_of_getElem? (i := 947) (by decide +kernel), List.mem_of_getElem? (i := 948) (by decide +kernel)⟩
theorem lw_p51 : lw_okq (⟨"PointSharesModel", "nextWay", "()Z"⟩, 23) := ⟨⟨by decide +kernel, by decide +kernel⟩, List.mem_of_getElem? (i := 658) (by decide +kernel), List.mem_of_getElem? (i := 952) (by decide +kernel), List.mem_of_getElem? (i := 953) (by decide +kernel)⟩
theorem lw_p52 : lw_okq (⟨"PointSharesModel", "withoutHolder", "()I"⟩, 23) := ⟨⟨by decide +kernel, by decide +kernel⟩, List.mem_of_getElem? (i := 658) (by decide +kernel), List.mem_of_getElem? (i := 964) (by decide +kernel), List.mem_of_getElem? (i := 965) (by decide +kernel)⟩
theorem lw_p53 : lw_okq (⟨"PointSharesModel", "envious", "()I"⟩, 23) := ⟨⟨by decide +kernel, by decide +kernel⟩, List.mem_of_getElem? (i := 658) (by decide +kernel), List.mem_of_getElem? (i := 968) (by decide +kernel), List.mem_of_getElem? (i := 969) (by decide +kernel)⟩
theorem lw_p54 : lw_okq (⟨"PointSharesModel", "readsAll", "()I"⟩, 23) := ⟨⟨by decide +kernel, by decide +kernel⟩, List.mem_of_getElem? (i := 658) (by decide +kernel), List.mem_of_getElem? (i := 981) (by decide +kernel), List.mem_of_getElem? (i := 982) (by decide +kernel)⟩
theorem lw_p55 : lw_okq (⟨"PointSharesModel", "readsClause", "(I)Z"⟩, 23) := ⟨⟨by decide +kernel, by decide +kernel⟩, List.mem_of_getElem? (i := 658) (by decide +kernel), List.mem_of_getElem? (i := 985) (by decide +kernel), List.mem_of_getElem? (i := 986) (by decide +kernel)⟩
theorem lw_p56 : lw_okq (⟨"PointSharesModel", "isDigit", "()Z"⟩, 23) := ⟨⟨by decide +kernel, by decide +kernel⟩, List.mem_of_getElem? (i := 658) (by decide +kernel), List.mem_of_getElem? (i := 992) (by decide +kernel), List.mem_of_getElem? (i := 993) (by decide +kernel)⟩
theorem lw_p57 : lw_okq (⟨"PointSharesModel", "does", "(I)I"⟩, 23) := ⟨⟨by decide +kernel, by decide +kernel⟩, List.mem_of_getElem? (i := 658) (by decide +kernel), List.mem_of_getElem? (i := 998) (by decide +kernel), List.mem_of_getElem? (i := 999) (by decide +kernel)⟩
theorem lw_p58 : lw_okq (⟨"PointSharesModel", "isSeenSo", "()Z"⟩, 23) := ⟨⟨by decide +kernel, by decide +kernel⟩, List.mem_of_getElem? (i := 658) (by decide +kernel), List.mem_of_getElem? (i := 1015) (by decide +kernel), List.mem_of_getElem? (i := 1016) (by decide +kernel)⟩
theorem lw_p59 : lw_okq (⟨"PointSharesModel", "happens", "(II)V"⟩, 23) := ⟨⟨by decide +kernel, by decide +kernel⟩, List.mem_of_getElem? (i := 658) (by decide +kernel), List.mem_of_getElem? (i := 1037) (by decide +kernel), List.mem_of_getElem? (i := 1038) (by decide +kernel)⟩
theorem lw_p60 : lw_okq (⟨"PointSharesModel", "afterNow", "(I)J"⟩, 23) := ⟨⟨by decide +kernel, by decide +kernel⟩, List.mem_of_getElem? (i := 658) (by decide +kernel), List.mem_of_getElem? (i := 1041) (by decide +kernel), List.mem_of_getElem? (i := 1042) (by decide +kernel)⟩
def lw_privs_4 : List (MethodName × Nat) := [(⟨"PointSharesModel", "alikeOf", "(II)J"⟩, 23), (⟨"PointSharesModel", "searches", "()V"⟩, 23), (⟨"PointSharesModel", "wayWorth", "(I)I"⟩, 23), (⟨"PointSharesModel", "nextWay", "()Z"⟩, 23), (⟨"PointSharesModel", "withoutHolder", "()I"⟩, 23), (⟨"PointSharesModel", "envious", "()I"⟩, 23), (⟨"PointSharesModel", "readsAll", "()I"⟩, 23), (⟨"PointSharesModel", "readsClause", "(I)Z"⟩, 23), (⟨"PointSharesModel", "isDigit", "()Z"⟩, 23), (⟨"PointSharesModel", "does", "(I)I"⟩, 23), (⟨"PointSharesModel", "isSeenSo", "()Z"⟩, 23), (⟨"PointSharesModel", "happens", "(II)V"⟩, 23), (⟨"PointSharesModel", "afterNow", "(I)J"⟩, 23)]
theorem lw_r4 : ∀ q ∈ lw_privs_4, lw_okq q := List.forall_mem_cons.mpr ⟨lw_p48, List.forall_mem_cons.mpr ⟨lw_p49, List.forall_mem_cons.mpr ⟨lw_p50, List.forall_mem_cons.mpr ⟨lw_p51, List.forall_mem_cons.mpr ⟨lw_p52, List.forall_mem_cons.mpr ⟨lw_p53, List.forall_mem_cons.mpr ⟨lw_p54, List.forall_mem_cons.mpr ⟨lw_p55, List.forall_mem_cons.mpr ⟨lw_p56, List.forall_mem_cons.mpr ⟨lw_p57, List.forall_mem_cons.mpr ⟨lw_p58, List.forall_mem_cons.mpr ⟨lw_p59, List.forall_mem_cons.mpr ⟨lw_p60, fun _ h => absurd h List.not_mem_nil⟩⟩⟩⟩⟩⟩⟩⟩⟩⟩⟩⟩⟩
def lw_privs : List (MethodName × Nat) := lw_privs_1 ++ (lw_privs_2 ++ (lw_privs_3 ++ (lw_privs_4)))
def lw_tbl : List Cond := k2_sels lw_privs ++ tables_1
theorem lw_privs_ok : ∀ q ∈ lw_privs, lw_okq q := by
  show ∀ q ∈ lw_privs_1 ++ (lw_privs_2 ++ (lw_privs_3 ++ (lw_privs_4))), lw_okq q
  exact List.forall_mem_append.mpr ⟨lw_r1, List.forall_mem_append.mpr ⟨lw_r2, List.forall_mem_append.mpr ⟨lw_r3, lw_r4⟩⟩⟩
def RX0 : String := "PointShares$Adjustment"
def TX0 : u_T := fun k => match k with
  | 0 => ("PointShares$Adjustment", "owner", "[I", true)
  | 1 => ("PointShares$Adjustment", "things", "I", false)
  | 2 => ("PointShares$Adjustment", "rich", "I", false)
  | 3 => ("PointShares$Adjustment", "poor", "I", false)
  | 4 => ("PointShares$Adjustment", "moved", "I", false)
  | 5 => ("PointShares$Adjustment", "cut", "I", false)
  | 6 => ("PointShares$Adjustment", "cutUp", "J", false)
  | 7 => ("PointShares$Adjustment", "cutLow", "J", false)
  | 8 => ("PointShares$Adjustment", "alikeUp", "J", false)
  | _ => ("PointShares$Adjustment", "alikeLow", "J", false)
def tyX0 : Nat → FieldType := fun k => match k with
  | 0 => .array .int
  | 1 => .int
  | 2 => .int
  | 3 => .int
  | 4 => .int
  | 5 => .int
  | 6 => .long
  | 7 => .long
  | 8 => .long
  | _ => .long
theorem nmX0 : ∀ a, a < 10 → ∀ b, b < 10 → a ≠ b → (TX0 a).2.1 ≠ (TX0 b).2.1 := by decide +kernel
theorem tyX0_ok : ∀ k, k < 10 → parseFieldDescriptor (TX0 k).2.2.1 = some (tyX0 k) := by decide +kernel
def RX1 : String := "PointShares$Rows"
def TX1 : u_T := fun k => match k with
  | 0 => ("PointShares$Rows", "left", "[I", true)
  | 1 => ("PointShares$Rows", "right", "[I", true)
  | _ => ("PointShares$Rows", "size", "I", false)
def tyX1 : Nat → FieldType := fun k => match k with
  | 0 => .array .int
  | 1 => .array .int
  | _ => .int
theorem nmX1 : ∀ a, a < 3 → ∀ b, b < 3 → a ≠ b → (TX1 a).2.1 ≠ (TX1 b).2.1 := by decide +kernel
theorem tyX1_ok : ∀ k, k < 3 → parseFieldDescriptor (TX1 k).2.2.1 = some (tyX1 k) := by decide +kernel
def RX2 : String := "PointShares$Setup"
def TX2 : u_T := fun k => match k with
  | 0 => ("PointShares$Setup", "n", "I", false)
  | 1 => ("PointShares$Setup", "things", "I", false)
  | 2 => ("PointShares$Setup", "points", "[[I", true)
  | 3 => ("PointShares$Setup", "first", "[I", true)
  | 4 => ("PointShares$Setup", "cut", "I", false)
  | 5 => ("PointShares$Setup", "second", "I", false)
  | 6 => ("PointShares$Setup", "cutUp", "J", false)
  | 7 => ("PointShares$Setup", "cutLow", "J", false)
  | 8 => ("PointShares$Setup", "seen", "LPointShares$Rows;", true)
  | 9 => ("PointShares$Setup", "events", "LPointShares$Rows;", true)
  | _ => ("PointShares$Setup", "book", "LPointShares$Rows;", true)
def tyX2 : Nat → FieldType := fun k => match k with
  | 0 => .int
  | 1 => .int
  | 2 => .array (.array .int)
  | 3 => .array .int
  | 4 => .int
  | 5 => .int
  | 6 => .long
  | 7 => .long
  | 8 => .object "PointShares$Rows"
  | 9 => .object "PointShares$Rows"
  | _ => .object "PointShares$Rows"
theorem nmX2 : ∀ a, a < 11 → ∀ b, b < 11 → a ≠ b → (TX2 a).2.1 ≠ (TX2 b).2.1 := by decide +kernel
theorem tyX2_ok : ∀ k, k < 11 → parseFieldDescriptor (TX2 k).2.2.1 = some (tyX2 k) := by decide +kernel
def RX3 : String := "PointShares$Tape"
def TX3 : u_T := fun k => match k with
  | 0 => ("PointShares$Tape", "sort", "I", false)
  | 1 => ("PointShares$Tape", "length", "I", false)
  | _ => ("PointShares$Tape", "items", "[J", true)
def tyX3 : Nat → FieldType := fun k => match k with
  | 0 => .int
  | 1 => .int
  | _ => .array .long
theorem nmX3 : ∀ a, a < 3 → ∀ b, b < 3 → a ≠ b → (TX3 a).2.1 ≠ (TX3 b).2.1 := by decide +kernel
theorem tyX3_ok : ∀ k, k < 3 → parseFieldDescriptor (TX3 k).2.2.1 = some (tyX3 k) := by decide +kernel
def RX4 : String := "PointShares$Text"
def TX4 : u_T := fun k => match k with
  | 0 => ("PointShares$Text", "signs", "[B", true)
  | _ => ("PointShares$Text", "size", "I", false)
def tyX4 : Nat → FieldType := fun k => match k with
  | 0 => .array .byte
  | _ => .int
theorem nmX4 : ∀ a, a < 2 → ∀ b, b < 2 → a ≠ b → (TX4 a).2.1 ≠ (TX4 b).2.1 := by decide +kernel
theorem tyX4_ok : ∀ k, k < 2 → parseFieldDescriptor (TX4 k).2.2.1 = some (tyX4 k) := by decide +kernel
def RX5 : String := "PointShares$WholeWays"
def TX5 : u_T := fun k => match k with
  | 0 => ("PointShares$WholeWays", "points", "[[I", false)
  | 1 => ("PointShares$WholeWays", "n", "I", false)
  | 2 => ("PointShares$WholeWays", "things", "I", false)
  | 3 => ("PointShares$WholeWays", "given", "[I", true)
  | 4 => ("PointShares$WholeWays", "total", "[I", true)
  | 5 => ("PointShares$WholeWays", "reach", "[I", true)
  | 6 => ("PointShares$WholeWays", "best", "[I", true)
  | 7 => ("PointShares$WholeWays", "bestUp", "J", false)
  | 8 => ("PointShares$WholeWays", "bestLow", "J", false)
  | _ => ("PointShares$WholeWays", "bestPoorest", "I", false)
def tyX5 : Nat → FieldType := fun k => match k with
  | 0 => .array (.array .int)
  | 1 => .int
  | 2 => .int
  | 3 => .array .int
  | 4 => .array .int
  | 5 => .array .int
  | 6 => .array .int
  | 7 => .long
  | 8 => .long
  | _ => .int
theorem nmX5 : ∀ a, a < 10 → ∀ b, b < 10 → a ≠ b → (TX5 a).2.1 ≠ (TX5 b).2.1 := by decide +kernel
theorem tyX5_ok : ∀ k, k < 10 → parseFieldDescriptor (TX5 k).2.2.1 = some (tyX5 k) := by decide +kernel
def RX6 : String := "PointShares"
def TX6 : u_T := fun k => match k with
  | 0 => ("PointShares", "now", "LPointShares$Setup;", true)
  | 1 => ("PointShares", "kept", "LPointShares$Setup;", true)
  | 2 => ("PointShares", "isKept", "Z", false)
  | 3 => ("PointShares", "adjustment", "LPointShares$Adjustment;", true)
  | 4 => ("PointShares", "wholeWays", "LPointShares$WholeWays;", true)
  | 5 => ("PointShares", "tried", "[[I", true)
  | 6 => ("PointShares", "text", "LPointShares$Text;", true)
  | _ => ("PointShares", "tapes", "[LPointShares$Tape;", true)
def tyX6 : Nat → FieldType := fun k => match k with
  | 0 => .object "PointShares$Setup"
  | 1 => .object "PointShares$Setup"
  | 2 => .boolean
  | 3 => .object "PointShares$Adjustment"
  | 4 => .object "PointShares$WholeWays"
  | 5 => .array (.array .int)
  | 6 => .object "PointShares$Text"
  | _ => .array (.object "PointShares$Tape")
theorem nmX6 : ∀ a, a < 8 → ∀ b, b < 8 → a ≠ b → (TX6 a).2.1 ≠ (TX6 b).2.1 := by decide +kernel
theorem tyX6_ok : ∀ k, k < 8 → parseFieldDescriptor (TX6 k).2.2.1 = some (tyX6 k) := by decide +kernel
def RX7 : String := "PointSharesModel"
def TX7 : u_T := fun k => match k with
  | 0 => ("PointSharesModel", "now", "[I", true)
  | 1 => ("PointSharesModel", "image", "[I", true)
  | 2 => ("PointSharesModel", "aside", "[I", true)
  | 3 => ("PointSharesModel", "hasImage", "Z", false)
  | 4 => ("PointSharesModel", "isFirsts", "[Z", true)
  | 5 => ("PointSharesModel", "cut", "I", false)
  | 6 => ("PointSharesModel", "cutUp", "J", false)
  | 7 => ("PointSharesModel", "cutLow", "J", false)
  | 8 => ("PointSharesModel", "moved", "I", false)
  | 9 => ("PointSharesModel", "rich", "I", false)
  | 10 => ("PointSharesModel", "poor", "I", false)
  | 11 => ("PointSharesModel", "way", "[I", true)
  | 12 => ("PointSharesModel", "best", "[I", true)
  | 13 => ("PointSharesModel", "leastUp", "J", false)
  | 14 => ("PointSharesModel", "leastLow", "J", false)
  | 15 => ("PointSharesModel", "leastParty", "I", false)
  | 16 => ("PointSharesModel", "text", "[I", true)
  | 17 => ("PointSharesModel", "length", "I", false)
  | 18 => ("PointSharesModel", "at", "I", false)
  | 19 => ("PointSharesModel", "clause", "[I", true)
  | 20 => ("PointSharesModel", "sorts", "[I", true)
  | 21 => ("PointSharesModel", "sizes", "[I", true)
  | _ => ("PointSharesModel", "items", "[J", true)
def tyX7 : Nat → FieldType := fun k => match k with
  | 0 => .array .int
  | 1 => .array .int
  | 2 => .array .int
  | 3 => .boolean
  | 4 => .array .boolean
  | 5 => .int
  | 6 => .long
  | 7 => .long
  | 8 => .int
  | 9 => .int
  | 10 => .int
  | 11 => .array .int
  | 12 => .array .int
  | 13 => .long
  | 14 => .long
  | 15 => .int
  | 16 => .array .int
  | 17 => .int
  | 18 => .int
  | 19 => .array .int
  | 20 => .array .int
  | 21 => .array .int
  | _ => .array .long
theorem nmX7 : ∀ a, a < 23 → ∀ b, b < 23 → a ≠ b → (TX7 a).2.1 ≠ (TX7 b).2.1 := by decide +kernel
theorem tyX7_ok : ∀ k, k < 23 → parseFieldDescriptor (TX7 k).2.2.1 = some (tyX7 k) := by decide +kernel
def RJ6 : String := "java/lang/Integer"
def RL : String := "PointSharesLaw"
abbrev vwCl : List vw_C := [(RX0, TX0, 10), (RX1, TX1, 3), (RX2, TX2, 11), (RX3, TX3, 3), (RX4, TX4, 2), (RX5, TX5, 10), (RX6, TX6, 8), (RX7, TX7, 23)]
end
section
/-! values: (0, x) an int, (1, x) a long, (2, c) a reference to cell c, (3, _) nothing; numbers stand for their residues -/
abbrev zV : Type := Nat × Int
abbrev vI (x : Int) : zV := (0, x)
abbrev vL (x : Int) : zV := (1, x)
abbrev vR (x : Int) : zV := (2, x)
abbrev vU : zV := (3, 0)
abbrev zM : Type := Int → Int → Int
abbrev zCE : Type := Nat × Nat × Int × Instr
abbrev zMTr : Type := MethodName × ByteArray × Nat × Option FieldType × Nat × Bool × Nat × Nat × Nat × List zCE
def c32 (x : Int) : Int := (Int32.ofInt x).toInt
def c64 (x : Int) : Int := (Int64.ofInt x).toInt
def zU (σ : zM) (c j v : Int) : zM := fun c' j' => if c' = c ∧ j' = j then v else σ c' j'
def zCpy (σ : zM) (a sp d dp n : Int) : zM := fun c j => if c = d ∧ dp ≤ j ∧ j < dp + n then σ a (sp + (j - dp)) else σ c j
def zkill : List zV → List zV
  | [] => []
  | _ :: ls => vU :: ls
def zput : List zV → Nat → zV → List zV
  | [], _, _ => []
  | _ :: ls, 0, v => v :: (if v.1 = 1 then zkill ls else ls)
  | a :: ls, 1, v => (if a.1 = 1 then vU else a) :: zput ls 0 v
  | a :: ls, n + 2, v => a :: zput ls (n + 1) v
/-! the cells: what each is: (0, n) ints, (1, n) longs, (2, n) bytes, (3, n) booleans, (4, n) rows of ints, (5, n) tapes, (10 + class, fields) -/
def zSHP : List (Nat × Nat) := [(16, 8),
  (12, 11), (4, 4), (0, 6), (0, 6), (0, 6), (0, 6), (0, 6), (11, 3), (0, 5), (0, 5), (11, 3), (0, 8), (0, 8), (11, 3), (0, 8), (0, 8),
  (12, 11), (4, 4), (0, 6), (0, 6), (0, 6), (0, 6), (0, 6), (11, 3), (0, 5), (0, 5), (11, 3), (0, 8), (0, 8), (11, 3), (0, 8), (0, 8),
  (10, 10), (0, 6), (15, 10), (0, 6), (0, 4), (0, 4), (0, 6), (4, 4), (0, 6), (0, 6), (0, 6), (0, 6), (14, 2), (2, 100),
  (5, 6), (13, 3), (1, 60), (13, 3), (1, 60), (13, 3), (1, 60), (13, 3), (1, 60), (13, 3), (1, 60), (13, 3), (1, 60),
  (17, 23), (0, 82), (0, 82), (0, 82), (3, 6), (0, 6), (0, 6), (0, 100), (0, 56), (0, 6), (0, 6), (1, 360)]
def zshp (c : Int) : Nat × Nat := if 0 ≤ c then zSHP.getD c.toNat (99, 0) else (99, 0)
/-- the kinds of the fields of each class: 0 int, 1 boolean, 2 long, 3 a fixed cell, 4 a cell that may change -/
def zFK : List (List Nat) := [[3, 0, 0, 0, 0, 0, 2, 2, 2, 2], [3, 3, 0], [0, 0, 3, 3, 0, 0, 2, 2, 3, 3, 3], [0, 0, 3], [3, 0], [4, 0, 0, 3, 3, 3, 3, 2, 2, 0], [3, 3, 1, 3, 3, 3, 3, 3], [3, 3, 3, 1, 3, 0, 2, 2, 0, 0, 0, 3, 3, 2, 2, 0, 3, 0, 0, 3, 3, 3, 3]]
def zfk (ci j : Nat) : Nat := (zFK.getD ci []).getD j 9
/-- the fixed cell in field j of cell c -/
def zRF : List (Nat × List Nat) := [(0, [1, 17, 0, 33, 35, 40, 45, 47]), (1, [0, 0, 2, 7, 0, 0, 0, 0, 8, 11, 14]), (8, [9, 10, 0]), (11, [12, 13, 0]), (14, [15, 16, 0]), (17, [0, 0, 18, 23, 0, 0, 0, 0, 24, 27, 30]), (24, [25, 26, 0]), (27, [28, 29, 0]), (30, [31, 32, 0]), (33, [34]), (35, [0, 0, 0, 36, 37, 38, 39]), (45, [46]), (48, [0, 0, 49]), (50, [0, 0, 51]), (52, [0, 0, 53]), (54, [0, 0, 55]), (56, [0, 0, 57]), (58, [0, 0, 59]), (60, [61, 62, 63, 0, 64, 0, 0, 0, 0, 0, 0, 65, 66, 0, 0, 0, 67, 0, 0, 68, 69, 70, 71])]
def zrf (c j : Nat) : Nat := match zRF.find? (fun q => q.1 == c) with
  | some q => q.2.getD j 0
  | none => 0
/-- the cell at place j of a row of rows -/
def zra (c j : Nat) : Nat := if c = 47 then 48 + 2 * j else c + 1 + j
end
section
def C_X0_workOut_167 : List zCE := (167, 1, 0, .aload_n 0) :: (168, 1, 0, .aload_n 1) :: (169, 1, 0, .aload_n 0) :: (170, 3, 3, .getfield 43) :: (173, 1, 0, .aaload) :: (174, 3, 4, .invokevirtual 50) :: (177, 1, 1, .iconst 1) :: (178, 1, 1, .ireturn) :: []
def C_X0_workOut_146 : List zCE := (146, 2, 0, .lload 7) :: (148, 1, 0, .lconst 0) :: (149, 1, 0, .lcmp) :: (150, 3, 167, .ifCond .ge 17) :: (153, 1, 0, .aload_n 0) :: (154, 1, 0, .aload_n 1) :: (155, 2, 0, .iload 4) :: (157, 1, 0, .aaload) :: (158, 1, 0, .aload_n 1) :: (159, 1, 0, .iload_n 3) :: (160, 1, 0, .aaload) :: (161, 2, 0, .lload 7) :: (163, 1, 0, .lneg) :: (164, 3, 2, .invokevirtual 46) :: C_X0_workOut_167
def C_X0_workOut_120 : List zCE := (120, 3, 3, .putfield 43) :: (123, 2, 0, .lload 7) :: (125, 1, 0, .lconst 0) :: (126, 1, 0, .lcmp) :: (127, 3, 146, .ifCond .le 19) :: (130, 1, 0, .aload_n 0) :: (131, 1, 0, .aload_n 1) :: (132, 1, 0, .iload_n 3) :: (133, 1, 0, .aaload) :: (134, 1, 0, .aload_n 1) :: (135, 2, 0, .iload 4) :: (137, 1, 0, .aaload) :: (138, 2, 0, .lload 7) :: (140, 3, 2, .invokevirtual 46) :: (143, 3, 167, .goto 24) :: C_X0_workOut_146
def C_X0_workOut_119 : List zCE := (119, 1, 0, .iload_n 3) :: C_X0_workOut_120
def C_X0_workOut_103 : List zCE := (103, 3, 2, .putfield 40) :: (106, 1, 0, .aload_n 0) :: (107, 2, 0, .lload 7) :: (109, 1, 0, .lconst 0) :: (110, 1, 0, .lcmp) :: (111, 3, 119, .ifCond .le 8) :: (114, 2, 0, .iload 4) :: (116, 3, 120, .goto 4) :: C_X0_workOut_119
def C_X0_workOut_101 : List zCE := (101, 2, 0, .iload 4) :: C_X0_workOut_103
def C_X0_workOut_90 : List zCE := (90, 2, 0, .lload 7) :: (92, 1, 0, .lconst 0) :: (93, 1, 0, .lcmp) :: (94, 3, 101, .ifCond .le 7) :: (97, 1, 0, .iload_n 3) :: (98, 3, 103, .goto 5) :: C_X0_workOut_101
def C_X0_workOut_42 : List zCE := (42, 1, 0, .aload_n 0) :: (43, 1, 0, .aload_n 1) :: (44, 1, 0, .iload_n 3) :: (45, 1, 0, .aaload) :: (46, 1, 0, .aload_n 1) :: (47, 2, 0, .iload 4) :: (49, 1, 0, .aaload) :: (50, 1, 0, .iload_n 3) :: (51, 2, 0, .iload 4) :: (53, 3, 1, .invokevirtual 23) :: (56, 2, 0, .lstore 7) :: (58, 1, 0, .aload_n 0) :: (59, 1, 0, .iconst 0) :: (60, 3, 4, .putfield 27) :: (63, 1, 0, .aload_n 0) :: (64, 1, (-1), .iconst (-1)) :: (65, 3, 5, .putfield 30) :: (68, 1, 0, .aload_n 0) :: (69, 1, 0, .lconst 0) :: (70, 3, 6, .putfield 33) :: (73, 1, 0, .aload_n 0) :: (74, 1, 1, .lconst 1) :: (75, 3, 7, .putfield 37) :: (78, 1, 0, .aload_n 0) :: (79, 2, 0, .lload 7) :: (81, 1, 0, .lconst 0) :: (82, 1, 0, .lcmp) :: (83, 3, 90, .ifCond .ne 7) :: (86, 1, (-1), .iconst (-1)) :: (87, 3, 103, .goto 16) :: C_X0_workOut_90
def C_X0_workOut_40 : List zCE := (40, 1, 0, .iconst 0) :: (41, 1, 1, .ireturn) :: C_X0_workOut_42
def C_X0_workOut_0 : List zCE := (0, 1, 0, .aload_n 0) :: (1, 1, 0, .iload_n 2) :: (2, 3, 1, .putfield 15) :: (5, 1, 0, .aload_n 1) :: (6, 1, 0, .iload_n 3) :: (7, 1, 0, .aaload) :: (8, 1, 0, .aload_n 0) :: (9, 3, 1, .getfield 15) :: (12, 3, 94, .invokestatic 19) :: (15, 2, 0, .istore 5) :: (17, 1, 0, .aload_n 1) :: (18, 2, 0, .iload 4) :: (20, 1, 0, .aaload) :: (21, 1, 0, .aload_n 0) :: (22, 3, 1, .getfield 15) :: (25, 3, 94, .invokestatic 19) :: (28, 2, 0, .istore 6) :: (30, 2, 0, .iload 5) :: (32, 3, 40, .ifCond .eq 8) :: (35, 2, 0, .iload 6) :: (37, 3, 42, .ifCond .ne 5) :: C_X0_workOut_40
def C_X0_giveFirst_113 : List zCE := (113, 2, 0, .lload 7) :: (115, 1, 0, .lreturn) :: []
def C_X0_giveFirst_104 : List zCE := (104, 1, 0, .ladd) :: (105, 2, 0, .lstore 7) :: (107, 3, 0, .iinc 9 1) :: (110, 3, 26, .goto (-84)) :: C_X0_giveFirst_113
def C_X0_giveFirst_95 : List zCE := (95, 1, 0, .aload_n 2) :: (96, 2, 0, .iload 9) :: (98, 1, 0, .iaload) :: (99, 1, 0, .ineg) :: (100, 2, 0, .iload 5) :: (102, 1, 0, .imul) :: (103, 1, 0, .i2l) :: C_X0_giveFirst_104
def C_X0_giveFirst_76 : List zCE := (76, 1, 0, .iastore) :: (77, 2, 0, .lload 7) :: (79, 2, 0, .iload 10) :: (81, 3, 95, .ifCond .eq 14) :: (84, 1, 0, .aload_n 1) :: (85, 2, 0, .iload 9) :: (87, 1, 0, .iaload) :: (88, 2, 0, .iload 6) :: (90, 1, 0, .imul) :: (91, 1, 0, .i2l) :: (92, 3, 104, .goto 12) :: C_X0_giveFirst_95
def C_X0_giveFirst_74 : List zCE := (74, 2, 0, .iload 4) :: C_X0_giveFirst_76
def C_X0_giveFirst_57 : List zCE := (57, 2, 0, .istore 10) :: (59, 1, 0, .aload_n 0) :: (60, 3, 0, .getfield 9) :: (63, 2, 0, .iload 9) :: (65, 2, 0, .iload 10) :: (67, 3, 74, .ifCond .eq 7) :: (70, 1, 0, .iload_n 3) :: (71, 3, 76, .goto 5) :: C_X0_giveFirst_74
def C_X0_giveFirst_56 : List zCE := (56, 1, 0, .iconst 0) :: C_X0_giveFirst_57
def C_X0_giveFirst_26 : List zCE := (26, 2, 0, .iload 9) :: (28, 1, 0, .aload_n 0) :: (29, 3, 1, .getfield 15) :: (32, 3, 113, .if_icmp .ge 81) :: (35, 1, 0, .aload_n 1) :: (36, 2, 0, .iload 9) :: (38, 1, 0, .iaload) :: (39, 2, 0, .iload 6) :: (41, 1, 0, .imul) :: (42, 1, 0, .aload_n 2) :: (43, 2, 0, .iload 9) :: (45, 1, 0, .iaload) :: (46, 2, 0, .iload 5) :: (48, 1, 0, .imul) :: (49, 3, 56, .if_icmp .lt 7) :: (52, 1, 1, .iconst 1) :: (53, 3, 57, .goto 4) :: C_X0_giveFirst_56
def C_X0_giveFirst_0 : List zCE := (0, 1, 0, .aload_n 1) :: (1, 1, 0, .aload_n 0) :: (2, 3, 1, .getfield 15) :: (5, 3, 94, .invokestatic 19) :: (8, 2, 0, .istore 5) :: (10, 1, 0, .aload_n 2) :: (11, 1, 0, .aload_n 0) :: (12, 3, 1, .getfield 15) :: (15, 3, 94, .invokestatic 19) :: (18, 2, 0, .istore 6) :: (20, 1, 0, .lconst 0) :: (21, 2, 0, .lstore 7) :: (23, 1, 0, .iconst 0) :: (24, 2, 0, .istore 9) :: C_X0_giveFirst_26
def C_X0_moveToPoor_135 : List zCE := (135, 1, 0, .return_) :: []
def C_X0_moveToPoor_101 : List zCE := (101, 1, 0, .aload_n 0) :: (102, 3, 0, .getfield 9) :: (105, 2, 0, .iload 10) :: (107, 1, 0, .aload_n 0) :: (108, 3, 3, .getfield 43) :: (111, 1, 0, .iastore) :: (112, 1, 0, .aload_n 0) :: (113, 1, 0, .dup) :: (114, 3, 4, .getfield 27) :: (117, 1, 1, .iconst 1) :: (118, 1, 0, .iadd) :: (119, 3, 4, .putfield 27) :: (122, 2, 0, .lload 7) :: (124, 2, 0, .lload 11) :: (126, 1, 0, .lsub) :: (127, 2, 0, .lstore 7) :: (129, 3, 0, .iinc 9 1) :: (132, 3, 26, .goto (-106)) :: C_X0_moveToPoor_135
def C_X0_moveToPoor_56 : List zCE := (56, 1, 0, .aload_n 1) :: (57, 2, 0, .iload 10) :: (59, 1, 0, .iaload) :: (60, 2, 0, .iload 6) :: (62, 1, 0, .imul) :: (63, 1, 0, .aload_n 2) :: (64, 2, 0, .iload 10) :: (66, 1, 0, .iaload) :: (67, 2, 0, .iload 5) :: (69, 1, 0, .imul) :: (70, 1, 0, .iadd) :: (71, 1, 0, .i2l) :: (72, 2, 0, .lstore 11) :: (74, 2, 0, .lload 11) :: (76, 2, 0, .lload 7) :: (78, 1, 0, .lcmp) :: (79, 3, 101, .ifCond .le 22) :: (82, 1, 0, .aload_n 0) :: (83, 2, 0, .iload 10) :: (85, 3, 5, .putfield 30) :: (88, 1, 0, .aload_n 0) :: (89, 2, 0, .lload 7) :: (91, 3, 6, .putfield 33) :: (94, 1, 0, .aload_n 0) :: (95, 2, 0, .lload 11) :: (97, 3, 7, .putfield 37) :: (100, 1, 0, .return_) :: C_X0_moveToPoor_101
def C_X0_moveToPoor_26 : List zCE := (26, 2, 0, .iload 9) :: (28, 1, 0, .aload_n 0) :: (29, 3, 1, .getfield 15) :: (32, 3, 135, .if_icmp .ge 103) :: (35, 2, 0, .lload 7) :: (37, 1, 0, .lconst 0) :: (38, 1, 0, .lcmp) :: (39, 3, 135, .ifCond .le 96) :: (42, 1, 0, .aload_n 0) :: (43, 1, 0, .aload_n 1) :: (44, 1, 0, .aload_n 2) :: (45, 3, 3, .invokevirtual 54) :: (48, 2, 0, .istore 10) :: (50, 2, 0, .iload 10) :: (52, 3, 56, .ifCond .ge 4) :: (55, 1, 0, .return_) :: C_X0_moveToPoor_56
def C_X0_moveToPoor_0 : List zCE := (0, 1, 0, .aload_n 1) :: (1, 1, 0, .aload_n 0) :: (2, 3, 1, .getfield 15) :: (5, 3, 94, .invokestatic 19) :: (8, 2, 0, .istore 5) :: (10, 1, 0, .aload_n 2) :: (11, 1, 0, .aload_n 0) :: (12, 3, 1, .getfield 15) :: (15, 3, 94, .invokestatic 19) :: (18, 2, 0, .istore 6) :: (20, 1, 0, .lload_n 3) :: (21, 2, 0, .lstore 7) :: (23, 1, 0, .iconst 0) :: (24, 2, 0, .istore 9) :: C_X0_moveToPoor_26
def C_X0_nextToMove_52 : List zCE := (52, 1, 0, .iload_n 3) :: (53, 1, 0, .ireturn) :: []
def C_X0_nextToMove_46 : List zCE := (46, 3, 0, .iinc 4 1) :: (49, 3, 5, .goto (-44)) :: C_X0_nextToMove_52
def C_X0_nextToMove_43 : List zCE := (43, 2, 0, .iload 4) :: (45, 1, 0, .istore_n 3) :: C_X0_nextToMove_46
def C_X0_nextToMove_5 : List zCE := (5, 2, 0, .iload 4) :: (7, 1, 0, .aload_n 0) :: (8, 3, 1, .getfield 15) :: (11, 3, 52, .if_icmp .ge 41) :: (14, 1, 0, .aload_n 0) :: (15, 3, 0, .getfield 9) :: (18, 2, 0, .iload 4) :: (20, 1, 0, .iaload) :: (21, 1, 0, .aload_n 0) :: (22, 3, 2, .getfield 40) :: (25, 3, 46, .if_icmp .ne 21) :: (28, 1, 0, .iload_n 3) :: (29, 3, 43, .ifCond .lt 14) :: (32, 1, 0, .aload_n 1) :: (33, 1, 0, .aload_n 2) :: (34, 2, 0, .iload 4) :: (36, 1, 0, .iload_n 3) :: (37, 3, 95, .invokestatic 58) :: (40, 3, 46, .ifCond .eq 6) :: C_X0_nextToMove_43
def C_X0_nextToMove_0 : List zCE := (0, 1, (-1), .iconst (-1)) :: (1, 1, 0, .istore_n 3) :: (2, 1, 0, .iconst 0) :: (3, 2, 0, .istore 4) :: C_X0_nextToMove_5
def C_X0_setAlike_72 : List zCE := (72, 1, 0, .ladd) :: (73, 3, 8, .putfield 62) :: (76, 1, 0, .aload_n 0) :: (77, 1, 0, .aload_n 1) :: (78, 1, 0, .aload_n 0) :: (79, 3, 1, .getfield 15) :: (82, 3, 94, .invokestatic 19) :: (85, 1, 0, .i2l) :: (86, 1, 0, .aload_n 0) :: (87, 3, 7, .getfield 37) :: (90, 1, 0, .lmul) :: (91, 3, 9, .putfield 65) :: (94, 1, 0, .return_) :: []
def C_X0_setAlike_60 : List zCE := (60, 1, 0, .aload_n 1) :: (61, 1, 0, .aload_n 0) :: (62, 3, 5, .getfield 30) :: (65, 1, 0, .iaload) :: (66, 1, 0, .i2l) :: (67, 1, 0, .aload_n 0) :: (68, 3, 6, .getfield 33) :: (71, 1, 0, .lmul) :: C_X0_setAlike_72
def C_X0_setAlike_42 : List zCE := (42, 1, 0, .aload_n 0) :: (43, 1, 0, .lload_n 2) :: (44, 1, 0, .aload_n 0) :: (45, 3, 7, .getfield 37) :: (48, 1, 0, .lmul) :: (49, 1, 0, .aload_n 0) :: (50, 3, 5, .getfield 30) :: (53, 3, 60, .ifCond .ge 7) :: (56, 1, 0, .lconst 0) :: (57, 3, 72, .goto 15) :: C_X0_setAlike_60
def C_X0_setAlike_36 : List zCE := (36, 3, 0, .iinc 4 1) :: (39, 3, 5, .goto (-34)) :: C_X0_setAlike_42
def C_X0_setAlike_5 : List zCE := (5, 2, 0, .iload 4) :: (7, 1, 0, .aload_n 0) :: (8, 3, 1, .getfield 15) :: (11, 3, 42, .if_icmp .ge 31) :: (14, 1, 0, .aload_n 0) :: (15, 3, 0, .getfield 9) :: (18, 2, 0, .iload 4) :: (20, 1, 0, .iaload) :: (21, 1, 0, .aload_n 0) :: (22, 3, 3, .getfield 43) :: (25, 3, 36, .if_icmp .ne 11) :: (28, 1, 0, .lload_n 2) :: (29, 1, 0, .aload_n 1) :: (30, 2, 0, .iload 4) :: (32, 1, 0, .iaload) :: (33, 1, 0, .i2l) :: (34, 1, 0, .ladd) :: (35, 1, 0, .lstore_n 2) :: C_X0_setAlike_36
def C_X0_setAlike_0 : List zCE := (0, 1, 0, .lconst 0) :: (1, 1, 0, .lstore_n 2) :: (2, 1, 0, .iconst 0) :: (3, 2, 0, .istore 4) :: C_X0_setAlike_5
def C_X0_hasSome_23 : List zCE := (23, 1, 1, .ireturn) :: []
def C_X0_hasSome_22 : List zCE := (22, 1, 0, .iconst 0) :: C_X0_hasSome_23
def C_X0_hasSome_18 : List zCE := (18, 1, 1, .iconst 1) :: (19, 3, 23, .goto 4) :: C_X0_hasSome_22
def C_X0_hasSome_0 : List zCE := (0, 1, 0, .aload_n 0) :: (1, 3, 0, .getfield 9) :: (4, 1, 0, .iload_n 2) :: (5, 1, 0, .iaload) :: (6, 1, 0, .iload_n 1) :: (7, 3, 18, .if_icmp .eq 11) :: (10, 1, 0, .aload_n 0) :: (11, 3, 5, .getfield 30) :: (14, 1, 0, .iload_n 2) :: (15, 3, 22, .if_icmp .ne 7) :: C_X0_hasSome_18
def C_X0_bitsOf_33 : List zCE := (33, 1, 0, .iload_n 2) :: (34, 1, 0, .ireturn) :: []
def C_X0_bitsOf_27 : List zCE := (27, 3, 0, .iinc 3 1) :: (30, 3, 4, .goto (-26)) :: C_X0_bitsOf_33
def C_X0_bitsOf_4 : List zCE := (4, 1, 0, .iload_n 3) :: (5, 1, 0, .aload_n 0) :: (6, 3, 1, .getfield 15) :: (9, 3, 33, .if_icmp .ge 24) :: (12, 1, 0, .aload_n 0) :: (13, 1, 0, .iload_n 1) :: (14, 1, 0, .iload_n 3) :: (15, 3, 5, .invokevirtual 68) :: (18, 3, 27, .ifCond .eq 9) :: (21, 1, 0, .iload_n 2) :: (22, 1, 1, .iconst 1) :: (23, 1, 0, .iload_n 3) :: (24, 1, 0, .ishl) :: (25, 1, 0, .ior) :: (26, 1, 0, .istore_n 2) :: C_X0_bitsOf_27
def C_X0_bitsOf_0 : List zCE := (0, 1, 0, .iconst 0) :: (1, 1, 0, .istore_n 2) :: (2, 1, 0, .iconst 0) :: (3, 1, 0, .istore_n 3) :: C_X0_bitsOf_4
def C_X1_isFull_17 : List zCE := (17, 1, 1, .ireturn) :: []
def C_X1_isFull_16 : List zCE := (16, 1, 0, .iconst 0) :: C_X1_isFull_17
def C_X1_isFull_0 : List zCE := (0, 1, 0, .aload_n 0) :: (1, 3, 34, .getfield 16) :: (4, 1, 0, .aload_n 0) :: (5, 3, 32, .getfield 7) :: (8, 1, 0, .arraylength) :: (9, 3, 16, .if_icmp .lt 7) :: (12, 1, 1, .iconst 1) :: (13, 3, 17, .goto 4) :: C_X1_isFull_16
def C_X1_append_0 : List zCE := (0, 1, 0, .aload_n 0) :: (1, 3, 32, .getfield 7) :: (4, 1, 0, .aload_n 0) :: (5, 3, 34, .getfield 16) :: (8, 1, 0, .iload_n 1) :: (9, 1, 0, .iastore) :: (10, 1, 0, .aload_n 0) :: (11, 3, 33, .getfield 13) :: (14, 1, 0, .aload_n 0) :: (15, 3, 34, .getfield 16) :: (18, 1, 0, .iload_n 2) :: (19, 1, 0, .iastore) :: (20, 1, 0, .aload_n 0) :: (21, 1, 0, .dup) :: (22, 3, 34, .getfield 16) :: (25, 1, 1, .iconst 1) :: (26, 1, 0, .iadd) :: (27, 3, 34, .putfield 16) :: (30, 1, 0, .aload_n 0) :: (31, 3, 34, .getfield 16) :: (34, 1, 0, .ireturn) :: []
def C_X1_empty_0 : List zCE := (0, 1, 0, .aload_n 0) :: (1, 1, 0, .iconst 0) :: (2, 3, 34, .putfield 16) :: (5, 1, 0, .iconst 0) :: (6, 1, 0, .ireturn) :: []
def C_X1_become_0 : List zCE := (0, 1, 0, .aload_n 1) :: (1, 3, 32, .getfield 7) :: (4, 1, 0, .iconst 0) :: (5, 1, 0, .aload_n 0) :: (6, 3, 32, .getfield 7) :: (9, 1, 0, .iconst 0) :: (10, 1, 0, .aload_n 0) :: (11, 3, 32, .getfield 7) :: (14, 1, 0, .arraylength) :: (15, 3, 9999, .invokestatic 20) :: (18, 1, 0, .aload_n 1) :: (19, 3, 33, .getfield 13) :: (22, 1, 0, .iconst 0) :: (23, 1, 0, .aload_n 0) :: (24, 3, 33, .getfield 13) :: (27, 1, 0, .iconst 0) :: (28, 1, 0, .aload_n 0) :: (29, 3, 33, .getfield 13) :: (32, 1, 0, .arraylength) :: (33, 3, 9999, .invokestatic 20) :: (36, 1, 0, .aload_n 0) :: (37, 1, 0, .aload_n 1) :: (38, 3, 34, .getfield 16) :: (41, 3, 34, .putfield 16) :: (44, 1, 0, .return_) :: []
def C_X2_beginWith_0 : List zCE := (0, 1, 0, .aload_n 0) :: (1, 1, 0, .iload_n 1) :: (2, 3, 64, .putfield 9) :: (5, 1, 0, .aload_n 0) :: (6, 1, 0, .iconst 0) :: (7, 3, 65, .putfield 49) :: (10, 1, 0, .aload_n 0) :: (11, 3, 13, .invokevirtual 52) :: (14, 1, 0, .aload_n 0) :: (15, 3, 72, .getfield 39) :: (18, 1, 0, .iconst 0) :: (19, 3, 34, .putfield 55) :: (22, 1, 0, .aload_n 0) :: (23, 3, 73, .getfield 43) :: (26, 1, 0, .iconst 0) :: (27, 3, 34, .putfield 55) :: (30, 1, 0, .aload_n 0) :: (31, 3, 74, .getfield 46) :: (34, 1, 0, .iconst 0) :: (35, 3, 34, .putfield 55) :: (38, 1, 0, .return_) :: []
def C_X2_addThing_27 : List zCE := (27, 1, 0, .aload_n 0) :: (28, 3, 67, .getfield 20) :: (31, 1, 0, .iload_n 1) :: (32, 1, (-1), .iconst (-1)) :: (33, 1, 0, .iastore) :: (34, 1, 0, .aload_n 0) :: (35, 1, 0, .dup) :: (36, 3, 65, .getfield 49) :: (39, 1, 1, .iconst 1) :: (40, 1, 0, .iadd) :: (41, 3, 65, .putfield 49) :: (44, 1, 0, .iload_n 1) :: (45, 1, 0, .ireturn) :: []
def C_X2_addThing_7 : List zCE := (7, 1, 0, .iload_n 2) :: (8, 1, 4, .iconst 4) :: (9, 3, 27, .if_icmp .ge 18) :: (12, 1, 0, .aload_n 0) :: (13, 3, 66, .getfield 17) :: (16, 1, 0, .iload_n 2) :: (17, 1, 0, .aaload) :: (18, 1, 0, .iload_n 1) :: (19, 1, 0, .iconst 0) :: (20, 1, 0, .iastore) :: (21, 3, 0, .iinc 2 1) :: (24, 3, 7, .goto (-17)) :: C_X2_addThing_27
def C_X2_addThing_0 : List zCE := (0, 1, 0, .aload_n 0) :: (1, 3, 65, .getfield 49) :: (4, 1, 0, .istore_n 1) :: (5, 1, 0, .iconst 0) :: (6, 1, 0, .istore_n 2) :: C_X2_addThing_7
def C_X2_mendCut_0 : List zCE := (0, 1, 0, .aload_n 0) :: (1, 1, (-1), .iconst (-1)) :: (2, 3, 68, .putfield 24) :: (5, 1, 0, .aload_n 0) :: (6, 1, (-1), .iconst (-1)) :: (7, 3, 69, .putfield 27) :: (10, 1, 0, .aload_n 0) :: (11, 1, 0, .lconst 0) :: (12, 3, 70, .putfield 58) :: (15, 1, 0, .aload_n 0) :: (16, 1, 1, .lconst 1) :: (17, 3, 71, .putfield 30) :: (20, 1, 0, .return_) :: []
def C_X2_giveWhole_12 : List zCE := (12, 1, 0, .aload_n 0) :: (13, 3, 67, .getfield 20) :: (16, 1, 0, .iload_n 1) :: (17, 1, 0, .iload_n 2) :: (18, 1, 0, .iastore) :: (19, 1, 0, .return_) :: []
def C_X2_giveWhole_0 : List zCE := (0, 1, 0, .aload_n 0) :: (1, 3, 68, .getfield 24) :: (4, 1, 0, .iload_n 1) :: (5, 3, 12, .if_icmp .ne 7) :: (8, 1, 0, .aload_n 0) :: (9, 3, 13, .invokevirtual 52) :: C_X2_giveWhole_12
def C_X2_cutThing_0 : List zCE := (0, 1, 0, .aload_n 0) :: (1, 1, 0, .iload_n 1) :: (2, 3, 68, .putfield 24) :: (5, 1, 0, .aload_n 0) :: (6, 1, 0, .iload_n 2) :: (7, 3, 69, .putfield 27) :: (10, 1, 0, .aload_n 0) :: (11, 1, 0, .lload_n 3) :: (12, 2, 0, .lload 5) :: (14, 1, 0, .iconst 0) :: (15, 3, 92, .invokestatic 61) :: (18, 3, 70, .putfield 58) :: (21, 1, 0, .aload_n 0) :: (22, 1, 0, .lload_n 3) :: (23, 2, 0, .lload 5) :: (25, 1, 1, .iconst 1) :: (26, 3, 92, .invokestatic 61) :: (29, 3, 71, .putfield 30) :: (32, 1, 0, .return_) :: []
def C_X2_divideBy_46 : List zCE := (46, 1, 0, .return_) :: []
def C_X2_divideBy_0 : List zCE := (0, 1, 0, .aload_n 0) :: (1, 3, 13, .invokevirtual 52) :: (4, 1, 0, .aload_n 1) :: (5, 3, 0, .getfield 65) :: (8, 1, 0, .iconst 0) :: (9, 1, 0, .aload_n 0) :: (10, 3, 67, .getfield 20) :: (13, 1, 0, .iconst 0) :: (14, 2, 6, .bipush 6) :: (16, 3, 9999, .invokestatic 70) :: (19, 1, 0, .aload_n 1) :: (20, 3, 5, .getfield 76) :: (23, 3, 46, .ifCond .lt 23) :: (26, 1, 0, .aload_n 0) :: (27, 1, 0, .aload_n 1) :: (28, 3, 5, .getfield 76) :: (31, 1, 0, .aload_n 1) :: (32, 3, 3, .getfield 77) :: (35, 1, 0, .aload_n 1) :: (36, 3, 6, .getfield 80) :: (39, 1, 0, .aload_n 1) :: (40, 3, 7, .getfield 81) :: (43, 3, 15, .invokevirtual 82) :: C_X2_divideBy_46
def C_X2_partsOf_57 : List zCE := (57, 1, 0, .lreturn) :: []
def C_X2_partsOf_53 : List zCE := (53, 1, 0, .aload_n 0) :: (54, 3, 71, .getfield 30) :: C_X2_partsOf_57
def C_X2_partsOf_33 : List zCE := (33, 1, 0, .aload_n 0) :: (34, 3, 68, .getfield 24) :: (37, 1, 0, .iload_n 2) :: (38, 3, 53, .if_icmp .ne 15) :: (41, 1, 0, .aload_n 0) :: (42, 3, 71, .getfield 30) :: (45, 1, 0, .aload_n 0) :: (46, 3, 70, .getfield 58) :: (49, 1, 0, .lsub) :: (50, 3, 57, .goto 7) :: C_X2_partsOf_53
def C_X2_partsOf_21 : List zCE := (21, 1, 0, .aload_n 0) :: (22, 3, 67, .getfield 20) :: (25, 1, 0, .iload_n 2) :: (26, 1, 0, .iaload) :: (27, 1, 0, .iload_n 1) :: (28, 3, 33, .if_icmp .eq 5) :: (31, 1, 0, .lconst 0) :: (32, 1, 0, .lreturn) :: C_X2_partsOf_33
def C_X2_partsOf_0 : List zCE := (0, 1, 0, .aload_n 0) :: (1, 3, 68, .getfield 24) :: (4, 1, 0, .iload_n 2) :: (5, 3, 21, .if_icmp .ne 16) :: (8, 1, 0, .aload_n 0) :: (9, 3, 69, .getfield 27) :: (12, 1, 0, .iload_n 1) :: (13, 3, 21, .if_icmp .ne 8) :: (16, 1, 0, .aload_n 0) :: (17, 3, 70, .getfield 58) :: (20, 1, 0, .lreturn) :: C_X2_partsOf_21
def C_X2_total_0 : List zCE := (0, 1, 0, .aload_n 0) :: (1, 3, 66, .getfield 17) :: (4, 1, 0, .iload_n 1) :: (5, 1, 0, .aaload) :: (6, 1, 0, .aload_n 0) :: (7, 3, 65, .getfield 49) :: (10, 3, 94, .invokestatic 86) :: (13, 1, 0, .ireturn) :: []
def C_X2_worth_41 : List zCE := (41, 1, 0, .lload_n 3) :: (42, 1, 0, .lreturn) :: []
def C_X2_worth_5 : List zCE := (5, 2, 0, .iload 5) :: (7, 1, 0, .aload_n 0) :: (8, 3, 65, .getfield 49) :: (11, 3, 41, .if_icmp .ge 30) :: (14, 1, 0, .lload_n 3) :: (15, 1, 0, .aload_n 0) :: (16, 3, 66, .getfield 17) :: (19, 1, 0, .iload_n 1) :: (20, 1, 0, .aaload) :: (21, 2, 0, .iload 5) :: (23, 1, 0, .iaload) :: (24, 1, 0, .i2l) :: (25, 1, 0, .aload_n 0) :: (26, 1, 0, .iload_n 2) :: (27, 2, 0, .iload 5) :: (29, 3, 17, .invokevirtual 90) :: (32, 1, 0, .lmul) :: (33, 1, 0, .ladd) :: (34, 1, 0, .lstore_n 3) :: (35, 3, 0, .iinc 5 1) :: (38, 3, 5, .goto (-33)) :: C_X2_worth_41
def C_X2_worth_0 : List zCE := (0, 1, 0, .lconst 0) :: (1, 1, 0, .lstore_n 3) :: (2, 1, 0, .iconst 0) :: (3, 2, 0, .istore 5) :: C_X2_worth_5
def C_X2_bitsOf_35 : List zCE := (35, 1, 0, .iload_n 2) :: (36, 1, 0, .ireturn) :: []
def C_X2_bitsOf_29 : List zCE := (29, 3, 0, .iinc 3 1) :: (32, 3, 4, .goto (-28)) :: C_X2_bitsOf_35
def C_X2_bitsOf_4 : List zCE := (4, 1, 0, .iload_n 3) :: (5, 1, 0, .aload_n 0) :: (6, 3, 65, .getfield 49) :: (9, 3, 35, .if_icmp .ge 26) :: (12, 1, 0, .aload_n 0) :: (13, 1, 0, .iload_n 1) :: (14, 1, 0, .iload_n 3) :: (15, 3, 17, .invokevirtual 90) :: (18, 1, 0, .lconst 0) :: (19, 1, 0, .lcmp) :: (20, 3, 29, .ifCond .le 9) :: (23, 1, 0, .iload_n 2) :: (24, 1, 1, .iconst 1) :: (25, 1, 0, .iload_n 3) :: (26, 1, 0, .ishl) :: (27, 1, 0, .ior) :: (28, 1, 0, .istore_n 2) :: C_X2_bitsOf_29
def C_X2_bitsOf_0 : List zCE := (0, 1, 0, .iconst 0) :: (1, 1, 0, .istore_n 2) :: (2, 1, 0, .iconst 0) :: (3, 1, 0, .istore_n 3) :: C_X2_bitsOf_4
def C_X2_cuts_12 : List zCE := (12, 1, 0, .ireturn) :: []
def C_X2_cuts_11 : List zCE := (11, 1, 0, .iconst 0) :: C_X2_cuts_12
def C_X2_cuts_0 : List zCE := (0, 1, 0, .aload_n 0) :: (1, 3, 68, .getfield 24) :: (4, 3, 11, .ifCond .lt 7) :: (7, 1, 1, .iconst 1) :: (8, 3, 12, .goto 4) :: C_X2_cuts_11
def C_X2_unheld_31 : List zCE := (31, 1, 0, .iload_n 1) :: (32, 1, 0, .ireturn) :: []
def C_X2_unheld_25 : List zCE := (25, 3, 0, .iinc 2 1) :: (28, 3, 4, .goto (-24)) :: C_X2_unheld_31
def C_X2_unheld_4 : List zCE := (4, 1, 0, .iload_n 2) :: (5, 1, 0, .aload_n 0) :: (6, 3, 65, .getfield 49) :: (9, 3, 31, .if_icmp .ge 22) :: (12, 1, 0, .aload_n 0) :: (13, 3, 67, .getfield 20) :: (16, 1, 0, .iload_n 2) :: (17, 1, 0, .iaload) :: (18, 1, (-1), .iconst (-1)) :: (19, 3, 25, .if_icmp .ne 6) :: (22, 3, 0, .iinc 1 1) :: C_X2_unheld_25
def C_X2_unheld_0 : List zCE := (0, 1, 0, .iconst 0) :: (1, 1, 0, .istore_n 1) :: (2, 1, 0, .iconst 0) :: (3, 1, 0, .istore_n 2) :: C_X2_unheld_4
def C_X2_become_0 : List zCE := (0, 1, 0, .aload_n 0) :: (1, 1, 0, .aload_n 1) :: (2, 3, 64, .getfield 9) :: (5, 3, 64, .putfield 9) :: (8, 1, 0, .aload_n 0) :: (9, 1, 0, .aload_n 1) :: (10, 3, 65, .getfield 49) :: (13, 3, 65, .putfield 49) :: (16, 1, 0, .aload_n 1) :: (17, 3, 66, .getfield 17) :: (20, 1, 0, .aload_n 0) :: (21, 3, 66, .getfield 17) :: (24, 3, 93, .invokestatic 94) :: (27, 1, 0, .aload_n 1) :: (28, 3, 67, .getfield 20) :: (31, 1, 0, .iconst 0) :: (32, 1, 0, .aload_n 0) :: (33, 3, 67, .getfield 20) :: (36, 1, 0, .iconst 0) :: (37, 2, 6, .bipush 6) :: (39, 3, 9999, .invokestatic 70) :: (42, 1, 0, .aload_n 0) :: (43, 1, 0, .aload_n 1) :: (44, 3, 68, .getfield 24) :: (47, 3, 68, .putfield 24) :: (50, 1, 0, .aload_n 0) :: (51, 1, 0, .aload_n 1) :: (52, 3, 69, .getfield 27) :: (55, 3, 69, .putfield 27) :: (58, 1, 0, .aload_n 0) :: (59, 1, 0, .aload_n 1) :: (60, 3, 70, .getfield 58) :: (63, 3, 70, .putfield 58) :: (66, 1, 0, .aload_n 0) :: (67, 1, 0, .aload_n 1) :: (68, 3, 71, .getfield 30) :: (71, 3, 71, .putfield 30) :: (74, 1, 0, .aload_n 0) :: (75, 3, 72, .getfield 39) :: (78, 1, 0, .aload_n 1) :: (79, 3, 72, .getfield 39) :: (82, 3, 10, .invokevirtual 98) :: (85, 1, 0, .aload_n 0) :: (86, 3, 73, .getfield 43) :: (89, 1, 0, .aload_n 1) :: (90, 3, 73, .getfield 43) :: (93, 3, 10, .invokevirtual 98) :: (96, 1, 0, .aload_n 0) :: (97, 3, 74, .getfield 46) :: (100, 1, 0, .aload_n 1) :: (101, 3, 74, .getfield 46) :: (104, 3, 10, .invokevirtual 98) :: (107, 1, 0, .return_) :: []
def C_X3_isNothing_12 : List zCE := (12, 1, 1, .ireturn) :: []
def C_X3_isNothing_11 : List zCE := (11, 1, 0, .iconst 0) :: C_X3_isNothing_12
def C_X3_isNothing_0 : List zCE := (0, 1, 0, .aload_n 0) :: (1, 3, 96, .getfield 9) :: (4, 3, 11, .ifCond .ge 7) :: (7, 1, 1, .iconst 1) :: (8, 3, 12, .goto 4) :: C_X3_isNothing_11
def C_X3_begin_34 : List zCE := (34, 1, 0, .return_) :: []
def C_X3_begin_12 : List zCE := (12, 1, 0, .iload_n 3) :: (13, 1, 0, .aload_n 0) :: (14, 3, 98, .getfield 15) :: (17, 1, 0, .arraylength) :: (18, 3, 34, .if_icmp .ge 16) :: (21, 1, 0, .aload_n 0) :: (22, 3, 98, .getfield 15) :: (25, 1, 0, .iload_n 3) :: (26, 1, 0, .lconst 0) :: (27, 1, 0, .lastore) :: (28, 3, 0, .iinc 3 1) :: (31, 3, 12, .goto (-19)) :: C_X3_begin_34
def C_X3_begin_0 : List zCE := (0, 1, 0, .aload_n 0) :: (1, 1, 0, .iload_n 1) :: (2, 3, 96, .putfield 9) :: (5, 1, 0, .aload_n 0) :: (6, 1, 0, .iload_n 2) :: (7, 3, 97, .putfield 19) :: (10, 1, 0, .iconst 0) :: (11, 1, 0, .istore_n 3) :: C_X3_begin_12
def C_X3_asItem_63 : List zCE := (63, 1, 0, .lreturn) :: []
def C_X3_asItem_62 : List zCE := (62, 1, 0, .lconst 0) :: C_X3_asItem_63
def C_X3_asItem_52 : List zCE := (52, 1, 0, .lload_n 1) :: (53, 1, 0, .lconst 0) :: (54, 1, 0, .lcmp) :: (55, 3, 62, .ifCond .eq 7) :: (58, 1, 1, .lconst 1) :: (59, 3, 63, .goto 4) :: C_X3_asItem_62
def C_X3_asItem_50 : List zCE := (50, 1, 0, .lload_n 1) :: (51, 1, 0, .lreturn) :: C_X3_asItem_52
def C_X3_asItem_46 : List zCE := (46, 1, 0, .lload_n 1) :: (47, 1, 0, .l2i) :: (48, 1, 0, .i2l) :: (49, 1, 0, .lreturn) :: C_X3_asItem_50
def C_X3_asItem_41 : List zCE := (41, 1, 0, .lload_n 1) :: (42, 1, 0, .l2i) :: (43, 1, 0, .i2s) :: (44, 1, 0, .i2l) :: (45, 1, 0, .lreturn) :: C_X3_asItem_46
def C_X3_asItem_36 : List zCE := (36, 1, 0, .lload_n 1) :: (37, 1, 0, .l2i) :: (38, 1, 0, .i2b) :: (39, 1, 0, .i2l) :: (40, 1, 0, .lreturn) :: C_X3_asItem_41
def C_X3_asItem_0 : List zCE := (0, 1, 0, .aload_n 0) :: (1, 3, 96, .getfield 9) :: (4, 32, 0, .tableswitch 48 0 3 #[32, 37, 42, 46]) :: C_X3_asItem_36
def C_X3_hasPlaces_31 : List zCE := (31, 1, 1, .ireturn) :: []
def C_X3_hasPlaces_30 : List zCE := (30, 1, 0, .iconst 0) :: C_X3_hasPlaces_31
def C_X3_hasPlaces_0 : List zCE := (0, 1, 0, .iload_n 2) :: (1, 3, 30, .ifCond .lt 29) :: (4, 1, 0, .iload_n 1) :: (5, 3, 30, .ifCond .lt 25) :: (8, 1, 0, .iload_n 2) :: (9, 1, 0, .aload_n 0) :: (10, 3, 97, .getfield 19) :: (13, 3, 30, .if_icmp .gt 17) :: (16, 1, 0, .iload_n 1) :: (17, 1, 0, .aload_n 0) :: (18, 3, 97, .getfield 19) :: (21, 1, 0, .iload_n 2) :: (22, 1, 0, .isub) :: (23, 3, 30, .if_icmp .gt 7) :: (26, 1, 1, .iconst 1) :: (27, 3, 31, .goto 4) :: C_X3_hasPlaces_30
def C_X4_append_0 : List zCE := (0, 1, 0, .aload_n 0) :: (1, 3, 128, .getfield 9) :: (4, 1, 0, .aload_n 0) :: (5, 3, 129, .getfield 15) :: (8, 1, 0, .iload_n 1) :: (9, 1, 0, .i2b) :: (10, 1, 0, .bastore) :: (11, 1, 0, .aload_n 0) :: (12, 1, 0, .dup) :: (13, 3, 129, .getfield 15) :: (16, 1, 1, .iconst 1) :: (17, 1, 0, .iadd) :: (18, 3, 129, .putfield 15) :: (21, 1, 0, .aload_n 0) :: (22, 3, 129, .getfield 15) :: (25, 1, 0, .ireturn) :: []
def C_X4_signAt_22 : List zCE := (22, 1, 0, .ireturn) :: []
def C_X4_signAt_21 : List zCE := (21, 1, (-1), .iconst (-1)) :: C_X4_signAt_22
def C_X4_signAt_0 : List zCE := (0, 1, 0, .iload_n 1) :: (1, 3, 21, .ifCond .lt 20) :: (4, 1, 0, .iload_n 1) :: (5, 1, 0, .aload_n 0) :: (6, 3, 129, .getfield 15) :: (9, 3, 21, .if_icmp .ge 12) :: (12, 1, 0, .aload_n 0) :: (13, 3, 128, .getfield 9) :: (16, 1, 0, .iload_n 1) :: (17, 1, 0, .baload) :: (18, 3, 22, .goto 4) :: C_X4_signAt_21
def C_X4_digitAt_26 : List zCE := (26, 1, 0, .ireturn) :: []
def C_X4_digitAt_25 : List zCE := (25, 1, (-1), .iconst (-1)) :: C_X4_digitAt_26
def C_X4_digitAt_0 : List zCE := (0, 1, 0, .aload_n 0) :: (1, 1, 0, .iload_n 1) :: (2, 3, 29, .invokevirtual 19) :: (5, 1, 0, .istore_n 2) :: (6, 1, 0, .iload_n 2) :: (7, 2, 48, .bipush 48) :: (9, 3, 25, .if_icmp .lt 16) :: (12, 1, 0, .iload_n 2) :: (13, 2, 57, .bipush 57) :: (15, 3, 25, .if_icmp .gt 10) :: (18, 1, 0, .iload_n 2) :: (19, 2, 48, .bipush 48) :: (21, 1, 0, .isub) :: (22, 3, 26, .goto 4) :: C_X4_digitAt_25
def C_X4_numberIn_29 : List zCE := (29, 1, 0, .iload_n 3) :: (30, 1, 0, .ireturn) :: []
def C_X4_numberIn_5 : List zCE := (5, 2, 0, .iload 4) :: (7, 1, 0, .iload_n 2) :: (8, 3, 29, .if_icmp .ge 21) :: (11, 2, 10, .bipush 10) :: (13, 1, 0, .iload_n 3) :: (14, 1, 0, .imul) :: (15, 1, 0, .aload_n 0) :: (16, 2, 0, .iload 4) :: (18, 3, 30, .invokevirtual 23) :: (21, 1, 0, .iadd) :: (22, 1, 0, .istore_n 3) :: (23, 3, 0, .iinc 4 1) :: (26, 3, 5, .goto (-21)) :: C_X4_numberIn_29
def C_X4_numberIn_0 : List zCE := (0, 1, 0, .iconst 0) :: (1, 1, 0, .istore_n 3) :: (2, 1, 0, .iload_n 1) :: (3, 2, 0, .istore 4) :: C_X4_numberIn_5
def C_X4_digitsBehind_76 : List zCE := (76, 1, (-1), .iconst (-1)) :: (77, 1, 0, .ireturn) :: []
def C_X4_digitsBehind_74 : List zCE := (74, 1, 3, .iconst 3) :: (75, 1, 0, .ireturn) :: C_X4_digitsBehind_76
def C_X4_digitsBehind_72 : List zCE := (72, 1, 2, .iconst 2) :: (73, 1, 0, .ireturn) :: C_X4_digitsBehind_74
def C_X4_digitsBehind_70 : List zCE := (70, 1, 1, .iconst 1) :: (71, 1, 0, .ireturn) :: C_X4_digitsBehind_72
def C_X4_digitsBehind_68 : List zCE := (68, 1, 0, .iconst 0) :: (69, 1, 0, .ireturn) :: C_X4_digitsBehind_70
def C_X4_digitsBehind_0 : List zCE := (0, 1, 0, .iload_n 0) :: (1, 67, 0, .tableswitch 75 104 116 #[71, 75, 75, 75, 75, 75, 69, 75, 73, 75, 75, 71, 67]) :: C_X4_digitsBehind_68
def C_X4_endOfClause_79 : List zCE := (79, 1, 0, .ireturn) :: []
def C_X4_endOfClause_78 : List zCE := (78, 1, 0, .iload_n 3) :: C_X4_endOfClause_79
def C_X4_endOfClause_54 : List zCE := (54, 1, 0, .aload_n 0) :: (55, 1, 0, .iload_n 1) :: (56, 3, 29, .invokevirtual 19) :: (59, 2, 112, .bipush 112) :: (61, 3, 78, .if_icmp .ne 17) :: (64, 1, 0, .aload_n 0) :: (65, 1, 0, .iload_n 3) :: (66, 3, 30, .invokevirtual 23) :: (69, 3, 78, .ifCond .lt 9) :: (72, 1, 0, .iload_n 3) :: (73, 1, 1, .iconst 1) :: (74, 1, 0, .iadd) :: (75, 3, 79, .goto 4) :: C_X4_endOfClause_78
def C_X4_endOfClause_48 : List zCE := (48, 3, 0, .iinc 4 1) :: (51, 3, 28, .goto (-23)) :: C_X4_endOfClause_54
def C_X4_endOfClause_28 : List zCE := (28, 2, 0, .iload 4) :: (30, 1, 0, .iload_n 3) :: (31, 3, 54, .if_icmp .ge 23) :: (34, 1, 0, .aload_n 0) :: (35, 2, 0, .iload 4) :: (37, 3, 30, .invokevirtual 23) :: (40, 3, 48, .ifCond .ge 8) :: (43, 1, (-1), .iconst (-1)) :: (44, 2, 0, .iload 4) :: (46, 1, 0, .isub) :: (47, 1, 0, .ireturn) :: C_X4_endOfClause_48
def C_X4_endOfClause_17 : List zCE := (17, 1, 0, .iload_n 1) :: (18, 1, 1, .iconst 1) :: (19, 1, 0, .iadd) :: (20, 1, 0, .iload_n 2) :: (21, 1, 0, .iadd) :: (22, 1, 0, .istore_n 3) :: (23, 1, 0, .iload_n 1) :: (24, 1, 1, .iconst 1) :: (25, 1, 0, .iadd) :: (26, 2, 0, .istore 4) :: C_X4_endOfClause_28
def C_X4_endOfClause_0 : List zCE := (0, 1, 0, .aload_n 0) :: (1, 1, 0, .iload_n 1) :: (2, 3, 29, .invokevirtual 19) :: (5, 3, 32, .invokestatic 26) :: (8, 1, 0, .istore_n 2) :: (9, 1, 0, .iload_n 2) :: (10, 3, 17, .ifCond .ge 7) :: (13, 1, (-1), .iconst (-1)) :: (14, 1, 0, .iload_n 1) :: (15, 1, 0, .isub) :: (16, 1, 0, .ireturn) :: C_X4_endOfClause_17
def C_X4_fault_62 : List zCE := (62, 1, 0, .iload_n 1) :: (63, 1, 0, .ireturn) :: []
def C_X4_fault_52 : List zCE := (52, 1, 0, .iload_n 3) :: (53, 1, 1, .iconst 1) :: (54, 1, 0, .iadd) :: (55, 1, 0, .istore_n 1) :: (56, 3, 0, .iinc 2 1) :: (59, 3, 4, .goto (-55)) :: C_X4_fault_62
def C_X4_fault_50 : List zCE := (50, 1, 0, .iload_n 3) :: (51, 1, 0, .ireturn) :: C_X4_fault_52
def C_X4_fault_34 : List zCE := (34, 1, 0, .iload_n 2) :: (35, 2, 14, .bipush 14) :: (37, 3, 50, .if_icmp .eq 13) :: (40, 1, 0, .aload_n 0) :: (41, 1, 0, .iload_n 3) :: (42, 3, 29, .invokevirtual 19) :: (45, 2, 59, .bipush 59) :: (47, 3, 52, .if_icmp .eq 5) :: C_X4_fault_50
def C_X4_fault_24 : List zCE := (24, 1, 0, .iload_n 3) :: (25, 1, 0, .aload_n 0) :: (26, 3, 129, .getfield 15) :: (29, 3, 34, .if_icmp .ne 5) :: (32, 1, (-1), .iconst (-1)) :: (33, 1, 0, .ireturn) :: C_X4_fault_34
def C_X4_fault_4 : List zCE := (4, 1, 0, .iload_n 2) :: (5, 2, 14, .bipush 14) :: (7, 3, 62, .if_icmp .gt 55) :: (10, 1, 0, .aload_n 0) :: (11, 1, 0, .iload_n 1) :: (12, 3, 33, .invokevirtual 29) :: (15, 1, 0, .istore_n 3) :: (16, 1, 0, .iload_n 3) :: (17, 3, 24, .ifCond .ge 7) :: (20, 1, (-1), .iconst (-1)) :: (21, 1, 0, .iload_n 3) :: (22, 1, 0, .isub) :: (23, 1, 0, .ireturn) :: C_X4_fault_24
def C_X4_fault_0 : List zCE := (0, 1, 0, .iconst 0) :: (1, 1, 0, .istore_n 1) :: (2, 1, 1, .iconst 1) :: (3, 1, 0, .istore_n 2) :: C_X4_fault_4
def C_X5_search_81 : List zCE := (81, 1, 0, .aload_n 0) :: (82, 3, (-1), .ldc2_w 39) :: (85, 3, 167, .putfield 41) :: (88, 1, 0, .aload_n 0) :: (89, 1, 1, .lconst 1) :: (90, 3, 168, .putfield 45) :: (93, 1, 0, .aload_n 0) :: (94, 1, 0, .iconst 0) :: (95, 3, 36, .invokestatic 48) :: (98, 1, 0, .return_) :: []
def C_X5_search_60 : List zCE := (60, 1, 0, .iastore) :: (61, 1, 0, .aload_n 0) :: (62, 3, 165, .getfield 18) :: (65, 2, 0, .iload 4) :: (67, 1, 0, .aload_n 0) :: (68, 3, 164, .getfield 15) :: (71, 2, 0, .iload 4) :: (73, 1, 0, .iaload) :: (74, 1, 0, .iastore) :: (75, 3, 0, .iinc 4 1) :: (78, 3, 18, .goto (-60)) :: C_X5_search_81
def C_X5_search_58 : List zCE := (58, 2, 0, .iload 5) :: C_X5_search_60
def C_X5_search_18 : List zCE := (18, 2, 0, .iload 4) :: (20, 1, 0, .aload_n 0) :: (21, 3, 161, .getfield 28) :: (24, 3, 81, .if_icmp .ge 57) :: (27, 1, 0, .aload_n 0) :: (28, 3, 160, .getfield 24) :: (31, 2, 0, .iload 4) :: (33, 1, 0, .aaload) :: (34, 1, 0, .aload_n 0) :: (35, 3, 162, .getfield 32) :: (38, 3, 94, .invokestatic 35) :: (41, 2, 0, .istore 5) :: (43, 1, 0, .aload_n 0) :: (44, 3, 164, .getfield 15) :: (47, 2, 0, .iload 4) :: (49, 2, 0, .iload 5) :: (51, 3, 58, .ifCond .ne 7) :: (54, 1, 1, .iconst 1) :: (55, 3, 60, .goto 5) :: C_X5_search_58
def C_X5_search_0 : List zCE := (0, 1, 0, .aload_n 0) :: (1, 1, 0, .aload_n 1) :: (2, 3, 160, .putfield 24) :: (5, 1, 0, .aload_n 0) :: (6, 1, 0, .iload_n 2) :: (7, 3, 161, .putfield 28) :: (10, 1, 0, .aload_n 0) :: (11, 1, 0, .iload_n 3) :: (12, 3, 162, .putfield 32) :: (15, 1, 0, .iconst 0) :: (16, 2, 0, .istore 4) :: C_X5_search_18
def C_X5_giveFrom0_92 : List zCE := (92, 1, 0, .return_) :: []
def C_X5_giveFrom0_50 : List zCE := (50, 1, 0, .iload_n 3) :: (51, 1, 0, .aload_n 0) :: (52, 3, 161, .getfield 28) :: (55, 3, 92, .if_icmp .ge 37) :: (58, 1, 0, .aload_n 0) :: (59, 3, 163, .getfield 9) :: (62, 1, 0, .iload_n 1) :: (63, 1, 0, .iload_n 3) :: (64, 1, 0, .iastore) :: (65, 1, 0, .aload_n 0) :: (66, 1, 0, .iload_n 1) :: (67, 1, 0, .iload_n 3) :: (68, 1, 1, .iconst 1) :: (69, 3, 46, .invokevirtual 60) :: (72, 1, 0, .aload_n 0) :: (73, 1, 0, .iload_n 1) :: (74, 1, 1, .iconst 1) :: (75, 1, 0, .iadd) :: (76, 3, 37, .invokestatic 48) :: (79, 1, 0, .aload_n 0) :: (80, 1, 0, .iload_n 1) :: (81, 1, 0, .iload_n 3) :: (82, 1, (-1), .iconst (-1)) :: (83, 3, 46, .invokevirtual 60) :: (86, 3, 0, .iinc 3 1) :: (89, 3, 50, .goto (-39)) :: C_X5_giveFrom0_92
def C_X5_giveFrom0_48 : List zCE := (48, 1, 0, .iconst 0) :: (49, 1, 0, .istore_n 3) :: C_X5_giveFrom0_50
def C_X5_giveFrom0_34 : List zCE := (34, 1, 0, .iload_n 1) :: (35, 1, 0, .aload_n 0) :: (36, 3, 162, .getfield 32) :: (39, 3, 48, .if_icmp .lt 9) :: (42, 1, 0, .aload_n 0) :: (43, 1, 0, .iload_n 2) :: (44, 3, 45, .invokevirtual 56) :: (47, 1, 0, .return_) :: C_X5_giveFrom0_48
def C_X5_giveFrom0_0 : List zCE := (0, 1, 0, .aload_n 0) :: (1, 3, 44, .invokevirtual 52) :: (4, 1, 0, .istore_n 2) :: (5, 1, 0, .aload_n 0) :: (6, 3, 165, .getfield 18) :: (9, 1, 0, .iload_n 2) :: (10, 1, 0, .iaload) :: (11, 1, 0, .i2l) :: (12, 1, 0, .aload_n 0) :: (13, 3, 168, .getfield 45) :: (16, 1, 0, .lmul) :: (17, 1, 0, .aload_n 0) :: (18, 3, 167, .getfield 41) :: (21, 1, 0, .aload_n 0) :: (22, 3, 164, .getfield 15) :: (25, 1, 0, .iload_n 2) :: (26, 1, 0, .iaload) :: (27, 1, 0, .i2l) :: (28, 1, 0, .lmul) :: (29, 1, 0, .lcmp) :: (30, 3, 34, .ifCond .gt 4) :: (33, 1, 0, .return_) :: C_X5_giveFrom0_34
def C_X5_giveFrom1_92 : List zCE := (92, 1, 0, .return_) :: []
def C_X5_giveFrom1_50 : List zCE := (50, 1, 0, .iload_n 3) :: (51, 1, 0, .aload_n 0) :: (52, 3, 161, .getfield 28) :: (55, 3, 92, .if_icmp .ge 37) :: (58, 1, 0, .aload_n 0) :: (59, 3, 163, .getfield 9) :: (62, 1, 0, .iload_n 1) :: (63, 1, 0, .iload_n 3) :: (64, 1, 0, .iastore) :: (65, 1, 0, .aload_n 0) :: (66, 1, 0, .iload_n 1) :: (67, 1, 0, .iload_n 3) :: (68, 1, 1, .iconst 1) :: (69, 3, 46, .invokevirtual 60) :: (72, 1, 0, .aload_n 0) :: (73, 1, 0, .iload_n 1) :: (74, 1, 1, .iconst 1) :: (75, 1, 0, .iadd) :: (76, 3, 38, .invokestatic 48) :: (79, 1, 0, .aload_n 0) :: (80, 1, 0, .iload_n 1) :: (81, 1, 0, .iload_n 3) :: (82, 1, (-1), .iconst (-1)) :: (83, 3, 46, .invokevirtual 60) :: (86, 3, 0, .iinc 3 1) :: (89, 3, 50, .goto (-39)) :: C_X5_giveFrom1_92
def C_X5_giveFrom1_48 : List zCE := (48, 1, 0, .iconst 0) :: (49, 1, 0, .istore_n 3) :: C_X5_giveFrom1_50
def C_X5_giveFrom1_34 : List zCE := (34, 1, 0, .iload_n 1) :: (35, 1, 0, .aload_n 0) :: (36, 3, 162, .getfield 32) :: (39, 3, 48, .if_icmp .lt 9) :: (42, 1, 0, .aload_n 0) :: (43, 1, 0, .iload_n 2) :: (44, 3, 45, .invokevirtual 56) :: (47, 1, 0, .return_) :: C_X5_giveFrom1_48
def C_X5_giveFrom1_0 : List zCE := (0, 1, 0, .aload_n 0) :: (1, 3, 44, .invokevirtual 52) :: (4, 1, 0, .istore_n 2) :: (5, 1, 0, .aload_n 0) :: (6, 3, 165, .getfield 18) :: (9, 1, 0, .iload_n 2) :: (10, 1, 0, .iaload) :: (11, 1, 0, .i2l) :: (12, 1, 0, .aload_n 0) :: (13, 3, 168, .getfield 45) :: (16, 1, 0, .lmul) :: (17, 1, 0, .aload_n 0) :: (18, 3, 167, .getfield 41) :: (21, 1, 0, .aload_n 0) :: (22, 3, 164, .getfield 15) :: (25, 1, 0, .iload_n 2) :: (26, 1, 0, .iaload) :: (27, 1, 0, .i2l) :: (28, 1, 0, .lmul) :: (29, 1, 0, .lcmp) :: (30, 3, 34, .ifCond .gt 4) :: (33, 1, 0, .return_) :: C_X5_giveFrom1_34
def C_X5_giveFrom2_92 : List zCE := (92, 1, 0, .return_) :: []
def C_X5_giveFrom2_50 : List zCE := (50, 1, 0, .iload_n 3) :: (51, 1, 0, .aload_n 0) :: (52, 3, 161, .getfield 28) :: (55, 3, 92, .if_icmp .ge 37) :: (58, 1, 0, .aload_n 0) :: (59, 3, 163, .getfield 9) :: (62, 1, 0, .iload_n 1) :: (63, 1, 0, .iload_n 3) :: (64, 1, 0, .iastore) :: (65, 1, 0, .aload_n 0) :: (66, 1, 0, .iload_n 1) :: (67, 1, 0, .iload_n 3) :: (68, 1, 1, .iconst 1) :: (69, 3, 46, .invokevirtual 60) :: (72, 1, 0, .aload_n 0) :: (73, 1, 0, .iload_n 1) :: (74, 1, 1, .iconst 1) :: (75, 1, 0, .iadd) :: (76, 3, 39, .invokestatic 48) :: (79, 1, 0, .aload_n 0) :: (80, 1, 0, .iload_n 1) :: (81, 1, 0, .iload_n 3) :: (82, 1, (-1), .iconst (-1)) :: (83, 3, 46, .invokevirtual 60) :: (86, 3, 0, .iinc 3 1) :: (89, 3, 50, .goto (-39)) :: C_X5_giveFrom2_92
def C_X5_giveFrom2_48 : List zCE := (48, 1, 0, .iconst 0) :: (49, 1, 0, .istore_n 3) :: C_X5_giveFrom2_50
def C_X5_giveFrom2_34 : List zCE := (34, 1, 0, .iload_n 1) :: (35, 1, 0, .aload_n 0) :: (36, 3, 162, .getfield 32) :: (39, 3, 48, .if_icmp .lt 9) :: (42, 1, 0, .aload_n 0) :: (43, 1, 0, .iload_n 2) :: (44, 3, 45, .invokevirtual 56) :: (47, 1, 0, .return_) :: C_X5_giveFrom2_48
def C_X5_giveFrom2_0 : List zCE := (0, 1, 0, .aload_n 0) :: (1, 3, 44, .invokevirtual 52) :: (4, 1, 0, .istore_n 2) :: (5, 1, 0, .aload_n 0) :: (6, 3, 165, .getfield 18) :: (9, 1, 0, .iload_n 2) :: (10, 1, 0, .iaload) :: (11, 1, 0, .i2l) :: (12, 1, 0, .aload_n 0) :: (13, 3, 168, .getfield 45) :: (16, 1, 0, .lmul) :: (17, 1, 0, .aload_n 0) :: (18, 3, 167, .getfield 41) :: (21, 1, 0, .aload_n 0) :: (22, 3, 164, .getfield 15) :: (25, 1, 0, .iload_n 2) :: (26, 1, 0, .iaload) :: (27, 1, 0, .i2l) :: (28, 1, 0, .lmul) :: (29, 1, 0, .lcmp) :: (30, 3, 34, .ifCond .gt 4) :: (33, 1, 0, .return_) :: C_X5_giveFrom2_34
def C_X5_giveFrom3_92 : List zCE := (92, 1, 0, .return_) :: []
def C_X5_giveFrom3_50 : List zCE := (50, 1, 0, .iload_n 3) :: (51, 1, 0, .aload_n 0) :: (52, 3, 161, .getfield 28) :: (55, 3, 92, .if_icmp .ge 37) :: (58, 1, 0, .aload_n 0) :: (59, 3, 163, .getfield 9) :: (62, 1, 0, .iload_n 1) :: (63, 1, 0, .iload_n 3) :: (64, 1, 0, .iastore) :: (65, 1, 0, .aload_n 0) :: (66, 1, 0, .iload_n 1) :: (67, 1, 0, .iload_n 3) :: (68, 1, 1, .iconst 1) :: (69, 3, 46, .invokevirtual 60) :: (72, 1, 0, .aload_n 0) :: (73, 1, 0, .iload_n 1) :: (74, 1, 1, .iconst 1) :: (75, 1, 0, .iadd) :: (76, 3, 40, .invokestatic 48) :: (79, 1, 0, .aload_n 0) :: (80, 1, 0, .iload_n 1) :: (81, 1, 0, .iload_n 3) :: (82, 1, (-1), .iconst (-1)) :: (83, 3, 46, .invokevirtual 60) :: (86, 3, 0, .iinc 3 1) :: (89, 3, 50, .goto (-39)) :: C_X5_giveFrom3_92
def C_X5_giveFrom3_48 : List zCE := (48, 1, 0, .iconst 0) :: (49, 1, 0, .istore_n 3) :: C_X5_giveFrom3_50
def C_X5_giveFrom3_34 : List zCE := (34, 1, 0, .iload_n 1) :: (35, 1, 0, .aload_n 0) :: (36, 3, 162, .getfield 32) :: (39, 3, 48, .if_icmp .lt 9) :: (42, 1, 0, .aload_n 0) :: (43, 1, 0, .iload_n 2) :: (44, 3, 45, .invokevirtual 56) :: (47, 1, 0, .return_) :: C_X5_giveFrom3_48
def C_X5_giveFrom3_0 : List zCE := (0, 1, 0, .aload_n 0) :: (1, 3, 44, .invokevirtual 52) :: (4, 1, 0, .istore_n 2) :: (5, 1, 0, .aload_n 0) :: (6, 3, 165, .getfield 18) :: (9, 1, 0, .iload_n 2) :: (10, 1, 0, .iaload) :: (11, 1, 0, .i2l) :: (12, 1, 0, .aload_n 0) :: (13, 3, 168, .getfield 45) :: (16, 1, 0, .lmul) :: (17, 1, 0, .aload_n 0) :: (18, 3, 167, .getfield 41) :: (21, 1, 0, .aload_n 0) :: (22, 3, 164, .getfield 15) :: (25, 1, 0, .iload_n 2) :: (26, 1, 0, .iaload) :: (27, 1, 0, .i2l) :: (28, 1, 0, .lmul) :: (29, 1, 0, .lcmp) :: (30, 3, 34, .ifCond .gt 4) :: (33, 1, 0, .return_) :: C_X5_giveFrom3_34
def C_X5_giveFrom4_92 : List zCE := (92, 1, 0, .return_) :: []
def C_X5_giveFrom4_50 : List zCE := (50, 1, 0, .iload_n 3) :: (51, 1, 0, .aload_n 0) :: (52, 3, 161, .getfield 28) :: (55, 3, 92, .if_icmp .ge 37) :: (58, 1, 0, .aload_n 0) :: (59, 3, 163, .getfield 9) :: (62, 1, 0, .iload_n 1) :: (63, 1, 0, .iload_n 3) :: (64, 1, 0, .iastore) :: (65, 1, 0, .aload_n 0) :: (66, 1, 0, .iload_n 1) :: (67, 1, 0, .iload_n 3) :: (68, 1, 1, .iconst 1) :: (69, 3, 46, .invokevirtual 60) :: (72, 1, 0, .aload_n 0) :: (73, 1, 0, .iload_n 1) :: (74, 1, 1, .iconst 1) :: (75, 1, 0, .iadd) :: (76, 3, 41, .invokestatic 48) :: (79, 1, 0, .aload_n 0) :: (80, 1, 0, .iload_n 1) :: (81, 1, 0, .iload_n 3) :: (82, 1, (-1), .iconst (-1)) :: (83, 3, 46, .invokevirtual 60) :: (86, 3, 0, .iinc 3 1) :: (89, 3, 50, .goto (-39)) :: C_X5_giveFrom4_92
def C_X5_giveFrom4_48 : List zCE := (48, 1, 0, .iconst 0) :: (49, 1, 0, .istore_n 3) :: C_X5_giveFrom4_50
def C_X5_giveFrom4_34 : List zCE := (34, 1, 0, .iload_n 1) :: (35, 1, 0, .aload_n 0) :: (36, 3, 162, .getfield 32) :: (39, 3, 48, .if_icmp .lt 9) :: (42, 1, 0, .aload_n 0) :: (43, 1, 0, .iload_n 2) :: (44, 3, 45, .invokevirtual 56) :: (47, 1, 0, .return_) :: C_X5_giveFrom4_48
def C_X5_giveFrom4_0 : List zCE := (0, 1, 0, .aload_n 0) :: (1, 3, 44, .invokevirtual 52) :: (4, 1, 0, .istore_n 2) :: (5, 1, 0, .aload_n 0) :: (6, 3, 165, .getfield 18) :: (9, 1, 0, .iload_n 2) :: (10, 1, 0, .iaload) :: (11, 1, 0, .i2l) :: (12, 1, 0, .aload_n 0) :: (13, 3, 168, .getfield 45) :: (16, 1, 0, .lmul) :: (17, 1, 0, .aload_n 0) :: (18, 3, 167, .getfield 41) :: (21, 1, 0, .aload_n 0) :: (22, 3, 164, .getfield 15) :: (25, 1, 0, .iload_n 2) :: (26, 1, 0, .iaload) :: (27, 1, 0, .i2l) :: (28, 1, 0, .lmul) :: (29, 1, 0, .lcmp) :: (30, 3, 34, .ifCond .gt 4) :: (33, 1, 0, .return_) :: C_X5_giveFrom4_34
def C_X5_giveFrom5_92 : List zCE := (92, 1, 0, .return_) :: []
def C_X5_giveFrom5_50 : List zCE := (50, 1, 0, .iload_n 3) :: (51, 1, 0, .aload_n 0) :: (52, 3, 161, .getfield 28) :: (55, 3, 92, .if_icmp .ge 37) :: (58, 1, 0, .aload_n 0) :: (59, 3, 163, .getfield 9) :: (62, 1, 0, .iload_n 1) :: (63, 1, 0, .iload_n 3) :: (64, 1, 0, .iastore) :: (65, 1, 0, .aload_n 0) :: (66, 1, 0, .iload_n 1) :: (67, 1, 0, .iload_n 3) :: (68, 1, 1, .iconst 1) :: (69, 3, 46, .invokevirtual 60) :: (72, 1, 0, .aload_n 0) :: (73, 1, 0, .iload_n 1) :: (74, 1, 1, .iconst 1) :: (75, 1, 0, .iadd) :: (76, 3, 42, .invokestatic 48) :: (79, 1, 0, .aload_n 0) :: (80, 1, 0, .iload_n 1) :: (81, 1, 0, .iload_n 3) :: (82, 1, (-1), .iconst (-1)) :: (83, 3, 46, .invokevirtual 60) :: (86, 3, 0, .iinc 3 1) :: (89, 3, 50, .goto (-39)) :: C_X5_giveFrom5_92
def C_X5_giveFrom5_48 : List zCE := (48, 1, 0, .iconst 0) :: (49, 1, 0, .istore_n 3) :: C_X5_giveFrom5_50
def C_X5_giveFrom5_34 : List zCE := (34, 1, 0, .iload_n 1) :: (35, 1, 0, .aload_n 0) :: (36, 3, 162, .getfield 32) :: (39, 3, 48, .if_icmp .lt 9) :: (42, 1, 0, .aload_n 0) :: (43, 1, 0, .iload_n 2) :: (44, 3, 45, .invokevirtual 56) :: (47, 1, 0, .return_) :: C_X5_giveFrom5_48
def C_X5_giveFrom5_0 : List zCE := (0, 1, 0, .aload_n 0) :: (1, 3, 44, .invokevirtual 52) :: (4, 1, 0, .istore_n 2) :: (5, 1, 0, .aload_n 0) :: (6, 3, 165, .getfield 18) :: (9, 1, 0, .iload_n 2) :: (10, 1, 0, .iaload) :: (11, 1, 0, .i2l) :: (12, 1, 0, .aload_n 0) :: (13, 3, 168, .getfield 45) :: (16, 1, 0, .lmul) :: (17, 1, 0, .aload_n 0) :: (18, 3, 167, .getfield 41) :: (21, 1, 0, .aload_n 0) :: (22, 3, 164, .getfield 15) :: (25, 1, 0, .iload_n 2) :: (26, 1, 0, .iaload) :: (27, 1, 0, .i2l) :: (28, 1, 0, .lmul) :: (29, 1, 0, .lcmp) :: (30, 3, 34, .ifCond .gt 4) :: (33, 1, 0, .return_) :: C_X5_giveFrom5_34
def C_X5_giveFrom6_92 : List zCE := (92, 1, 0, .return_) :: []
def C_X5_giveFrom6_50 : List zCE := (50, 1, 0, .iload_n 3) :: (51, 1, 0, .aload_n 0) :: (52, 3, 161, .getfield 28) :: (55, 3, 92, .if_icmp .ge 37) :: (58, 1, 0, .aload_n 0) :: (59, 3, 163, .getfield 9) :: (62, 1, 0, .iload_n 1) :: (63, 1, 0, .iload_n 3) :: (64, 1, 0, .iastore) :: (65, 1, 0, .aload_n 0) :: (66, 1, 0, .iload_n 1) :: (67, 1, 0, .iload_n 3) :: (68, 1, 1, .iconst 1) :: (69, 3, 46, .invokevirtual 60) :: (72, 1, 0, .aload_n 0) :: (73, 1, 0, .iload_n 1) :: (74, 1, 1, .iconst 1) :: (75, 1, 0, .iadd) :: (76, 3, 43, .invokestatic 48) :: (79, 1, 0, .aload_n 0) :: (80, 1, 0, .iload_n 1) :: (81, 1, 0, .iload_n 3) :: (82, 1, (-1), .iconst (-1)) :: (83, 3, 46, .invokevirtual 60) :: (86, 3, 0, .iinc 3 1) :: (89, 3, 50, .goto (-39)) :: C_X5_giveFrom6_92
def C_X5_giveFrom6_48 : List zCE := (48, 1, 0, .iconst 0) :: (49, 1, 0, .istore_n 3) :: C_X5_giveFrom6_50
def C_X5_giveFrom6_34 : List zCE := (34, 1, 0, .iload_n 1) :: (35, 1, 0, .aload_n 0) :: (36, 3, 162, .getfield 32) :: (39, 3, 48, .if_icmp .lt 9) :: (42, 1, 0, .aload_n 0) :: (43, 1, 0, .iload_n 2) :: (44, 3, 45, .invokevirtual 56) :: (47, 1, 0, .return_) :: C_X5_giveFrom6_48
def C_X5_giveFrom6_0 : List zCE := (0, 1, 0, .aload_n 0) :: (1, 3, 44, .invokevirtual 52) :: (4, 1, 0, .istore_n 2) :: (5, 1, 0, .aload_n 0) :: (6, 3, 165, .getfield 18) :: (9, 1, 0, .iload_n 2) :: (10, 1, 0, .iaload) :: (11, 1, 0, .i2l) :: (12, 1, 0, .aload_n 0) :: (13, 3, 168, .getfield 45) :: (16, 1, 0, .lmul) :: (17, 1, 0, .aload_n 0) :: (18, 3, 167, .getfield 41) :: (21, 1, 0, .aload_n 0) :: (22, 3, 164, .getfield 15) :: (25, 1, 0, .iload_n 2) :: (26, 1, 0, .iaload) :: (27, 1, 0, .i2l) :: (28, 1, 0, .lmul) :: (29, 1, 0, .lcmp) :: (30, 3, 34, .ifCond .gt 4) :: (33, 1, 0, .return_) :: C_X5_giveFrom6_34
def C_X5_giveFrom7_48 : List zCE := (48, 1, 0, .iconst 0) :: (49, 1, 0, .istore_n 3) :: (50, 1, 0, .iload_n 3) :: (51, 1, 0, .aload_n 0) :: (52, 3, 161, .getfield 28) :: (55, 3, 92, .if_icmp .ge 37) :: (58, 1, 0, .aload_n 0) :: (59, 3, 163, .getfield 9) :: (62, 1, 0, .iload_n 1) :: (63, 1, 0, .iload_n 3) :: (64, 1, 0, .iastore) :: (65, 1, 0, .aload_n 0) :: (66, 1, 0, .iload_n 1) :: (67, 1, 0, .iload_n 3) :: (68, 1, 1, .iconst 1) :: (69, 3, 46, .invokevirtual 60) :: (72, 1, 0, .aload_n 0) :: (73, 1, 0, .iload_n 1) :: (74, 1, 1, .iconst 1) :: (75, 1, 0, .iadd) :: []
def C_X5_giveFrom7_34 : List zCE := (34, 1, 0, .iload_n 1) :: (35, 1, 0, .aload_n 0) :: (36, 3, 162, .getfield 32) :: (39, 3, 48, .if_icmp .lt 9) :: (42, 1, 0, .aload_n 0) :: (43, 1, 0, .iload_n 2) :: (44, 3, 45, .invokevirtual 56) :: (47, 1, 0, .return_) :: C_X5_giveFrom7_48
def C_X5_giveFrom7_0 : List zCE := (0, 1, 0, .aload_n 0) :: (1, 3, 44, .invokevirtual 52) :: (4, 1, 0, .istore_n 2) :: (5, 1, 0, .aload_n 0) :: (6, 3, 165, .getfield 18) :: (9, 1, 0, .iload_n 2) :: (10, 1, 0, .iaload) :: (11, 1, 0, .i2l) :: (12, 1, 0, .aload_n 0) :: (13, 3, 168, .getfield 45) :: (16, 1, 0, .lmul) :: (17, 1, 0, .aload_n 0) :: (18, 3, 167, .getfield 41) :: (21, 1, 0, .aload_n 0) :: (22, 3, 164, .getfield 15) :: (25, 1, 0, .iload_n 2) :: (26, 1, 0, .iaload) :: (27, 1, 0, .i2l) :: (28, 1, 0, .lmul) :: (29, 1, 0, .lcmp) :: (30, 3, 34, .ifCond .gt 4) :: (33, 1, 0, .return_) :: C_X5_giveFrom7_34
def C_X5_poorest_49 : List zCE := (49, 1, 0, .iload_n 1) :: (50, 1, 0, .ireturn) :: []
def C_X5_poorest_43 : List zCE := (43, 3, 0, .iinc 2 1) :: (46, 3, 4, .goto (-42)) :: C_X5_poorest_49
def C_X5_poorest_4 : List zCE := (4, 1, 0, .iload_n 2) :: (5, 1, 0, .aload_n 0) :: (6, 3, 161, .getfield 28) :: (9, 3, 49, .if_icmp .ge 40) :: (12, 1, 0, .aload_n 0) :: (13, 3, 165, .getfield 18) :: (16, 1, 0, .iload_n 2) :: (17, 1, 0, .iaload) :: (18, 1, 0, .aload_n 0) :: (19, 3, 164, .getfield 15) :: (22, 1, 0, .iload_n 1) :: (23, 1, 0, .iaload) :: (24, 1, 0, .imul) :: (25, 1, 0, .aload_n 0) :: (26, 3, 165, .getfield 18) :: (29, 1, 0, .iload_n 1) :: (30, 1, 0, .iaload) :: (31, 1, 0, .aload_n 0) :: (32, 3, 164, .getfield 15) :: (35, 1, 0, .iload_n 2) :: (36, 1, 0, .iaload) :: (37, 1, 0, .imul) :: (38, 3, 43, .if_icmp .ge 5) :: (41, 1, 0, .iload_n 2) :: (42, 1, 0, .istore_n 1) :: C_X5_poorest_43
def C_X5_poorest_0 : List zCE := (0, 1, 0, .iconst 0) :: (1, 1, 0, .istore_n 1) :: (2, 1, 1, .iconst 1) :: (3, 1, 0, .istore_n 2) :: C_X5_poorest_4
def C_X5_keep_0 : List zCE := (0, 1, 0, .aload_n 0) :: (1, 3, 163, .getfield 9) :: (4, 1, 0, .iconst 0) :: (5, 1, 0, .aload_n 0) :: (6, 3, 166, .getfield 21) :: (9, 1, 0, .iconst 0) :: (10, 2, 6, .bipush 6) :: (12, 3, 9999, .invokestatic 64) :: (15, 1, 0, .aload_n 0) :: (16, 1, 0, .aload_n 0) :: (17, 3, 165, .getfield 18) :: (20, 1, 0, .iload_n 1) :: (21, 1, 0, .iaload) :: (22, 1, 0, .i2l) :: (23, 3, 167, .putfield 41) :: (26, 1, 0, .aload_n 0) :: (27, 1, 0, .aload_n 0) :: (28, 3, 164, .getfield 15) :: (31, 1, 0, .iload_n 1) :: (32, 1, 0, .iaload) :: (33, 1, 0, .i2l) :: (34, 3, 168, .putfield 45) :: (37, 1, 0, .aload_n 0) :: (38, 1, 0, .iload_n 1) :: (39, 3, 169, .putfield 70) :: (42, 1, 0, .return_) :: []
def C_X5_denyOthers_45 : List zCE := (45, 1, 0, .return_) :: []
def C_X5_denyOthers_39 : List zCE := (39, 3, 0, .iinc 4 1) :: (42, 3, 3, .goto (-39)) :: C_X5_denyOthers_45
def C_X5_denyOthers_3 : List zCE := (3, 2, 0, .iload 4) :: (5, 1, 0, .aload_n 0) :: (6, 3, 161, .getfield 28) :: (9, 3, 45, .if_icmp .ge 36) :: (12, 2, 0, .iload 4) :: (14, 1, 0, .iload_n 2) :: (15, 3, 39, .if_icmp .eq 24) :: (18, 1, 0, .aload_n 0) :: (19, 3, 165, .getfield 18) :: (22, 2, 0, .iload 4) :: (24, 1, 0, .dup2) :: (25, 1, 0, .iaload) :: (26, 1, 0, .iload_n 3) :: (27, 1, 0, .aload_n 0) :: (28, 3, 160, .getfield 24) :: (31, 2, 0, .iload 4) :: (33, 1, 0, .aaload) :: (34, 1, 0, .iload_n 1) :: (35, 1, 0, .iaload) :: (36, 1, 0, .imul) :: (37, 1, 0, .isub) :: (38, 1, 0, .iastore) :: C_X5_denyOthers_39
def C_X5_denyOthers_0 : List zCE := (0, 1, 0, .iconst 0) :: (1, 2, 0, .istore 4) :: C_X5_denyOthers_3
def C_X6_parties_13 : List zCE := (13, 1, 0, .aload_n 0) :: (14, 3, 192, .getfield 12) :: (17, 3, 64, .getfield 54) :: (20, 1, 0, .istore_n 2) :: (21, 1, 0, .aload_n 0) :: (22, 3, 192, .getfield 12) :: (25, 1, 0, .iload_n 1) :: (26, 3, 11, .invokevirtual 58) :: (29, 1, 0, .iload_n 2) :: (30, 1, 0, .ireturn) :: []
def C_X6_parties_10 : List zCE := (10, 2, (-2), .bipush (-2)) :: (12, 1, 0, .ireturn) :: C_X6_parties_13
def C_X6_parties_0 : List zCE := (0, 1, 0, .iload_n 1) :: (1, 1, 2, .iconst 2) :: (2, 3, 10, .if_icmp .lt 8) :: (5, 1, 0, .iload_n 1) :: (6, 1, 4, .iconst 4) :: (7, 3, 13, .if_icmp .le 6) :: C_X6_parties_10
def C_X6_thing_15 : List zCE := (15, 1, 0, .aload_n 0) :: (16, 3, 192, .getfield 12) :: (19, 3, 12, .invokevirtual 65) :: (22, 1, 0, .ireturn) :: []
def C_X6_thing_0 : List zCE := (0, 1, 0, .aload_n 0) :: (1, 3, 192, .getfield 12) :: (4, 3, 65, .getfield 62) :: (7, 2, 6, .bipush 6) :: (9, 3, 15, .if_icmp .lt 6) :: (12, 2, (-4), .bipush (-4)) :: (14, 1, 0, .ireturn) :: C_X6_thing_15
def C_X6_point_31 : List zCE := (31, 1, 0, .aload_n 0) :: (32, 3, 192, .getfield 12) :: (35, 3, 66, .getfield 76) :: (38, 1, 0, .iload_n 1) :: (39, 1, 0, .aaload) :: (40, 1, 0, .iload_n 2) :: (41, 1, 0, .iaload) :: (42, 2, 0, .istore 4) :: (44, 1, 0, .aload_n 0) :: (45, 3, 192, .getfield 12) :: (48, 3, 66, .getfield 76) :: (51, 1, 0, .iload_n 1) :: (52, 1, 0, .aaload) :: (53, 1, 0, .iload_n 2) :: (54, 1, 0, .iload_n 3) :: (55, 1, 0, .iastore) :: (56, 2, 0, .iload 4) :: (58, 1, 0, .ireturn) :: []
def C_X6_point_28 : List zCE := (28, 2, (-2), .bipush (-2)) :: (30, 1, 0, .ireturn) :: C_X6_point_31
def C_X6_point_18 : List zCE := (18, 1, 0, .iload_n 3) :: (19, 3, 28, .ifCond .lt 9) :: (22, 1, 0, .iload_n 3) :: (23, 2, 99, .bipush 99) :: (25, 3, 31, .if_icmp .le 6) :: C_X6_point_28
def C_X6_point_16 : List zCE := (16, 1, (-1), .iconst (-1)) :: (17, 1, 0, .ireturn) :: C_X6_point_18
def C_X6_point_0 : List zCE := (0, 1, 0, .aload_n 0) :: (1, 1, 0, .iload_n 1) :: (2, 3, 85, .invokevirtual 69) :: (5, 3, 16, .ifCond .eq 11) :: (8, 1, 0, .aload_n 0) :: (9, 1, 0, .iload_n 2) :: (10, 3, 87, .invokevirtual 73) :: (13, 3, 18, .ifCond .ne 5) :: C_X6_point_16
def C_X6_of_18 : List zCE := (18, 1, 0, .aload_n 0) :: (19, 3, 192, .getfield 12) :: (22, 3, 66, .getfield 76) :: (25, 1, 0, .iload_n 1) :: (26, 1, 0, .aaload) :: (27, 1, 0, .iload_n 2) :: (28, 1, 0, .iaload) :: (29, 1, 0, .ireturn) :: []
def C_X6_of_16 : List zCE := (16, 1, (-1), .iconst (-1)) :: (17, 1, 0, .ireturn) :: C_X6_of_18
def C_X6_of_0 : List zCE := (0, 1, 0, .aload_n 0) :: (1, 1, 0, .iload_n 1) :: (2, 3, 85, .invokevirtual 69) :: (5, 3, 16, .ifCond .eq 11) :: (8, 1, 0, .aload_n 0) :: (9, 1, 0, .iload_n 2) :: (10, 3, 87, .invokevirtual 73) :: (13, 3, 18, .ifCond .ne 5) :: C_X6_of_16
def C_X6_hold_23 : List zCE := (23, 1, 0, .aload_n 0) :: (24, 3, 192, .getfield 12) :: (27, 3, 67, .getfield 79) :: (30, 1, 0, .iload_n 1) :: (31, 1, 0, .iaload) :: (32, 1, 0, .istore_n 3) :: (33, 1, 0, .aload_n 0) :: (34, 3, 192, .getfield 12) :: (37, 1, 0, .iload_n 1) :: (38, 1, 0, .iload_n 2) :: (39, 3, 14, .invokevirtual 83) :: (42, 1, 0, .iload_n 3) :: (43, 3, 90, .invokestatic 87) :: (46, 1, 0, .ireturn) :: []
def C_X6_hold_21 : List zCE := (21, 1, (-1), .iconst (-1)) :: (22, 1, 0, .ireturn) :: C_X6_hold_23
def C_X6_hold_0 : List zCE := (0, 1, 0, .aload_n 0) :: (1, 1, 0, .iload_n 1) :: (2, 3, 87, .invokevirtual 73) :: (5, 3, 21, .ifCond .eq 16) :: (8, 1, 0, .iload_n 2) :: (9, 1, (-1), .iconst (-1)) :: (10, 3, 23, .if_icmp .eq 13) :: (13, 1, 0, .aload_n 0) :: (14, 1, 0, .iload_n 2) :: (15, 3, 85, .invokevirtual 69) :: (18, 3, 23, .ifCond .ne 5) :: C_X6_hold_21
def C_X6_split_92 : List zCE := (92, 1, 0, .aload_n 0) :: (93, 3, 192, .getfield 12) :: (96, 1, 0, .iload_n 1) :: (97, 1, 0, .iload_n 2) :: (98, 1, 0, .iload_n 3) :: (99, 1, 0, .i2l) :: (100, 2, 0, .iload 4) :: (102, 1, 0, .i2l) :: (103, 3, 15, .invokevirtual 94) :: (106, 1, 0, .aload_n 0) :: (107, 3, 192, .getfield 12) :: (110, 3, 21, .invokevirtual 98) :: (113, 1, 0, .ireturn) :: []
def C_X6_split_68 : List zCE := (68, 1, 0, .aload_n 0) :: (69, 3, 192, .getfield 12) :: (72, 3, 68, .getfield 91) :: (75, 3, 92, .ifCond .lt 17) :: (78, 1, 0, .aload_n 0) :: (79, 3, 192, .getfield 12) :: (82, 3, 68, .getfield 91) :: (85, 1, 0, .iload_n 1) :: (86, 3, 92, .if_icmp .eq 6) :: (89, 2, (-4), .bipush (-4)) :: (91, 1, 0, .ireturn) :: C_X6_split_92
def C_X6_split_65 : List zCE := (65, 2, (-3), .bipush (-3)) :: (67, 1, 0, .ireturn) :: C_X6_split_68
def C_X6_split_39 : List zCE := (39, 1, 0, .aload_n 0) :: (40, 3, 192, .getfield 12) :: (43, 3, 67, .getfield 79) :: (46, 1, 0, .iload_n 1) :: (47, 1, 0, .iaload) :: (48, 1, (-1), .iconst (-1)) :: (49, 3, 65, .if_icmp .eq 16) :: (52, 1, 0, .aload_n 0) :: (53, 3, 192, .getfield 12) :: (56, 3, 67, .getfield 79) :: (59, 1, 0, .iload_n 1) :: (60, 1, 0, .iaload) :: (61, 1, 0, .iload_n 2) :: (62, 3, 68, .if_icmp .ne 6) :: C_X6_split_65
def C_X6_split_36 : List zCE := (36, 2, (-2), .bipush (-2)) :: (38, 1, 0, .ireturn) :: C_X6_split_39
def C_X6_split_18 : List zCE := (18, 1, 0, .iload_n 3) :: (19, 1, 1, .iconst 1) :: (20, 3, 36, .if_icmp .lt 16) :: (23, 2, 0, .iload 4) :: (25, 2, 99, .bipush 99) :: (27, 3, 36, .if_icmp .gt 9) :: (30, 1, 0, .iload_n 3) :: (31, 2, 0, .iload 4) :: (33, 3, 39, .if_icmp .lt 6) :: C_X6_split_36
def C_X6_split_16 : List zCE := (16, 1, (-1), .iconst (-1)) :: (17, 1, 0, .ireturn) :: C_X6_split_18
def C_X6_split_0 : List zCE := (0, 1, 0, .aload_n 0) :: (1, 1, 0, .iload_n 1) :: (2, 3, 87, .invokevirtual 73) :: (5, 3, 16, .ifCond .eq 11) :: (8, 1, 0, .aload_n 0) :: (9, 1, 0, .iload_n 2) :: (10, 3, 85, .invokevirtual 69) :: (13, 3, 18, .ifCond .ne 5) :: C_X6_split_16
def C_X6_settle_40 : List zCE := (40, 1, 0, .aload_n 0) :: (41, 3, 192, .getfield 12) :: (44, 1, 0, .aload_n 0) :: (45, 3, 195, .getfield 24) :: (48, 3, 16, .invokevirtual 109) :: (51, 1, 0, .aload_n 0) :: (52, 3, 195, .getfield 24) :: (55, 3, 5, .getfield 113) :: (58, 3, 90, .invokestatic 87) :: (61, 1, 0, .ireturn) :: []
def C_X6_settle_11 : List zCE := (11, 1, 0, .aload_n 0) :: (12, 3, 195, .getfield 24) :: (15, 1, 0, .aload_n 0) :: (16, 3, 192, .getfield 12) :: (19, 3, 66, .getfield 76) :: (22, 1, 0, .aload_n 0) :: (23, 3, 192, .getfield 12) :: (26, 3, 65, .getfield 62) :: (29, 1, 0, .iload_n 1) :: (30, 1, 0, .iload_n 2) :: (31, 3, 0, .invokevirtual 105) :: (34, 3, 40, .ifCond .ne 6) :: (37, 2, (-3), .bipush (-3)) :: (39, 1, 0, .ireturn) :: C_X6_settle_40
def C_X6_settle_0 : List zCE := (0, 1, 0, .aload_n 0) :: (1, 1, 0, .iload_n 1) :: (2, 1, 0, .iload_n 2) :: (3, 3, 86, .invokevirtual 101) :: (6, 3, 11, .ifCond .ne 5) :: (9, 1, (-1), .iconst (-1)) :: (10, 1, 0, .ireturn) :: C_X6_settle_11
def C_X6_feed_28 : List zCE := (28, 1, 0, .aload_n 0) :: (29, 3, 198, .getfield 43) :: (32, 1, 0, .iload_n 1) :: (33, 3, 28, .invokevirtual 117) :: (36, 1, 0, .ireturn) :: []
def C_X6_feed_13 : List zCE := (13, 1, 0, .aload_n 0) :: (14, 3, 198, .getfield 43) :: (17, 3, 129, .getfield 114) :: (20, 2, 100, .bipush 100) :: (22, 3, 28, .if_icmp .lt 6) :: (25, 2, (-4), .bipush (-4)) :: (27, 1, 0, .ireturn) :: C_X6_feed_28
def C_X6_feed_10 : List zCE := (10, 2, (-2), .bipush (-2)) :: (12, 1, 0, .ireturn) :: C_X6_feed_13
def C_X6_feed_0 : List zCE := (0, 1, 0, .iload_n 1) :: (1, 3, 10, .ifCond .lt 9) :: (4, 1, 0, .iload_n 1) :: (5, 2, 127, .bipush 127) :: (7, 3, 13, .if_icmp .le 6) :: C_X6_feed_10
def C_X6_read_102 : List zCE := (102, 1, 0, .ireturn) :: []
def C_X6_read_98 : List zCE := (98, 2, (-10), .bipush (-10)) :: (100, 1, 0, .iload_n 1) :: (101, 1, 0, .isub) :: C_X6_read_102
def C_X6_read_82 : List zCE := (82, 1, 0, .aload_n 0) :: (83, 3, 198, .getfield 43) :: (86, 1, 0, .iconst 0) :: (87, 3, 129, .putfield 114) :: (90, 1, 0, .iload_n 1) :: (91, 3, 98, .ifCond .ge 7) :: (94, 1, 0, .iload_n 2) :: (95, 3, 102, .goto 7) :: C_X6_read_98
def C_X6_read_71 : List zCE := (71, 2, 0, .iload 5) :: (73, 1, 1, .iconst 1) :: (74, 1, 0, .iadd) :: (75, 1, 0, .istore_n 3) :: (76, 3, 0, .iinc 4 1) :: (79, 3, 19, .goto (-60)) :: C_X6_read_82
def C_X6_read_68 : List zCE := (68, 3, 0, .iinc 2 1) :: C_X6_read_71
def C_X6_read_19 : List zCE := (19, 2, 0, .iload 4) :: (21, 2, 14, .bipush 14) :: (23, 3, 82, .if_icmp .ge 59) :: (26, 1, 0, .iload_n 3) :: (27, 1, 0, .aload_n 0) :: (28, 3, 198, .getfield 43) :: (31, 3, 129, .getfield 114) :: (34, 3, 82, .if_icmp .ge 48) :: (37, 1, 0, .aload_n 0) :: (38, 3, 198, .getfield 43) :: (41, 1, 0, .iload_n 3) :: (42, 3, 33, .invokevirtual 123) :: (45, 2, 0, .istore 5) :: (47, 1, 0, .aload_n 0) :: (48, 1, 0, .iload_n 3) :: (49, 2, 0, .iload 5) :: (51, 3, 96, .invokevirtual 126) :: (54, 2, 0, .istore 6) :: (56, 2, 0, .iload 6) :: (58, 3, 68, .ifCond .ge 10) :: (61, 2, 0, .iload 6) :: (63, 2, (-5), .bipush (-5)) :: (65, 3, 71, .if_icmp .ne 6) :: C_X6_read_68
def C_X6_read_0 : List zCE := (0, 1, 0, .aload_n 0) :: (1, 3, 198, .getfield 43) :: (4, 3, 34, .invokevirtual 120) :: (7, 1, 0, .istore_n 1) :: (8, 1, 0, .iconst 0) :: (9, 1, 0, .istore_n 2) :: (10, 1, 0, .iload_n 1) :: (11, 3, 82, .ifCond .ge 71) :: (14, 1, 0, .iconst 0) :: (15, 1, 0, .istore_n 3) :: (16, 1, 0, .iconst 0) :: (17, 2, 0, .istore 4) :: C_X6_read_19
def C_X6_holder_62 : List zCE := (62, 1, 0, .ireturn) :: []
def C_X6_holder_60 : List zCE := (60, 2, (-5), .bipush (-5)) :: C_X6_holder_62
def C_X6_holder_36 : List zCE := (36, 1, 0, .aload_n 0) :: (37, 3, 192, .getfield 12) :: (40, 3, 68, .getfield 91) :: (43, 1, 0, .iload_n 1) :: (44, 3, 60, .if_icmp .ne 16) :: (47, 1, 0, .aload_n 0) :: (48, 3, 192, .getfield 12) :: (51, 3, 69, .getfield 130) :: (54, 3, 90, .invokestatic 87) :: (57, 3, 62, .goto 5) :: C_X6_holder_60
def C_X6_holder_19 : List zCE := (19, 1, 0, .iload_n 2) :: (20, 3, 36, .ifCond .ne 16) :: (23, 1, 0, .aload_n 0) :: (24, 3, 192, .getfield 12) :: (27, 3, 67, .getfield 79) :: (30, 1, 0, .iload_n 1) :: (31, 1, 0, .iaload) :: (32, 3, 90, .invokestatic 87) :: (35, 1, 0, .ireturn) :: C_X6_holder_36
def C_X6_holder_17 : List zCE := (17, 1, (-1), .iconst (-1)) :: (18, 1, 0, .ireturn) :: C_X6_holder_19
def C_X6_holder_0 : List zCE := (0, 1, 0, .aload_n 0) :: (1, 1, 0, .iload_n 1) :: (2, 3, 87, .invokevirtual 73) :: (5, 3, 17, .ifCond .eq 12) :: (8, 1, 0, .iload_n 2) :: (9, 3, 17, .ifCond .lt 8) :: (12, 1, 0, .iload_n 2) :: (13, 1, 1, .iconst 1) :: (14, 3, 19, .if_icmp .le 5) :: C_X6_holder_17
def C_X6_held_27 : List zCE := (27, 1, 0, .aload_n 0) :: (28, 3, 192, .getfield 12) :: (31, 1, 0, .iload_n 1) :: (32, 1, 0, .iload_n 2) :: (33, 3, 17, .invokevirtual 138) :: (36, 1, 0, .aload_n 0) :: (37, 3, 192, .getfield 12) :: (40, 3, 71, .getfield 142) :: (43, 1, 0, .iload_n 3) :: (44, 3, 92, .invokestatic 146) :: (47, 1, 0, .lreturn) :: []
def C_X6_held_23 : List zCE := (23, 3, (-9223372036854775808), .ldc2_w 136) :: (26, 1, 0, .lreturn) :: C_X6_held_27
def C_X6_held_0 : List zCE := (0, 1, 0, .aload_n 0) :: (1, 1, 0, .iload_n 1) :: (2, 3, 85, .invokevirtual 69) :: (5, 3, 23, .ifCond .eq 18) :: (8, 1, 0, .aload_n 0) :: (9, 1, 0, .iload_n 2) :: (10, 3, 87, .invokevirtual 73) :: (13, 3, 23, .ifCond .eq 10) :: (16, 1, 0, .iload_n 3) :: (17, 3, 88, .invokestatic 133) :: (20, 3, 27, .ifCond .ne 7) :: C_X6_held_23
def C_X6_share_47 : List zCE := (47, 1, 0, .aload_n 0) :: (48, 3, 192, .getfield 12) :: (51, 1, 0, .iload_n 1) :: (52, 1, 0, .iload_n 2) :: (53, 3, 19, .invokevirtual 153) :: (56, 2, 0, .lload 4) :: (58, 1, 0, .aload_n 0) :: (59, 3, 192, .getfield 12) :: (62, 3, 71, .getfield 142) :: (65, 1, 0, .lmul) :: (66, 1, 0, .iload_n 3) :: (67, 3, 92, .invokestatic 146) :: (70, 1, 0, .lreturn) :: []
def C_X6_share_27 : List zCE := (27, 1, 0, .aload_n 0) :: (28, 3, 192, .getfield 12) :: (31, 1, 0, .iload_n 1) :: (32, 3, 18, .invokevirtual 150) :: (35, 1, 0, .i2l) :: (36, 2, 0, .lstore 4) :: (38, 2, 0, .lload 4) :: (40, 1, 0, .lconst 0) :: (41, 1, 0, .lcmp) :: (42, 3, 47, .ifCond .ne 5) :: (45, 1, 1, .lconst 1) :: (46, 1, 0, .lreturn) :: C_X6_share_47
def C_X6_share_23 : List zCE := (23, 3, (-9223372036854775808), .ldc2_w 136) :: (26, 1, 0, .lreturn) :: C_X6_share_27
def C_X6_share_0 : List zCE := (0, 1, 0, .aload_n 0) :: (1, 1, 0, .iload_n 1) :: (2, 3, 85, .invokevirtual 69) :: (5, 3, 23, .ifCond .eq 18) :: (8, 1, 0, .aload_n 0) :: (9, 1, 0, .iload_n 2) :: (10, 3, 85, .invokevirtual 69) :: (13, 3, 23, .ifCond .eq 10) :: (16, 1, 0, .iload_n 3) :: (17, 3, 88, .invokestatic 133) :: (20, 3, 27, .ifCond .ne 7) :: C_X6_share_23
def C_X6_claim_54 : List zCE := (54, 1, 0, .ireturn) :: []
def C_X6_claim_52 : List zCE := (52, 2, (-5), .bipush (-5)) :: C_X6_claim_54
def C_X6_claim_38 : List zCE := (38, 1, 0, .iload_n 2) :: (39, 1, 2, .iconst 2) :: (40, 3, 52, .if_icmp .ne 12) :: (43, 1, 0, .aload_n 0) :: (44, 1, 0, .iload_n 3) :: (45, 1, 0, .iload_n 1) :: (46, 3, 99, .invokevirtual 162) :: (49, 3, 54, .goto 5) :: C_X6_claim_52
def C_X6_claim_26 : List zCE := (26, 1, 0, .iload_n 2) :: (27, 1, 1, .iconst 1) :: (28, 3, 38, .if_icmp .ne 10) :: (31, 1, 0, .aload_n 0) :: (32, 1, 0, .iload_n 3) :: (33, 1, 0, .iload_n 1) :: (34, 3, 98, .invokevirtual 159) :: (37, 1, 0, .ireturn) :: C_X6_claim_38
def C_X6_claim_14 : List zCE := (14, 1, 0, .aload_n 0) :: (15, 1, 0, .iload_n 1) :: (16, 3, 97, .invokevirtual 156) :: (19, 1, 0, .istore_n 3) :: (20, 1, 0, .iload_n 2) :: (21, 3, 26, .ifCond .ne 5) :: (24, 1, 0, .iload_n 3) :: (25, 1, 0, .ireturn) :: C_X6_claim_26
def C_X6_claim_12 : List zCE := (12, 1, (-1), .iconst (-1)) :: (13, 1, 0, .ireturn) :: C_X6_claim_14
def C_X6_claim_0 : List zCE := (0, 1, 0, .aload_n 0) :: (1, 1, 0, .iload_n 1) :: (2, 3, 85, .invokevirtual 69) :: (5, 3, 12, .ifCond .eq 7) :: (8, 1, 0, .iload_n 2) :: (9, 3, 14, .ifCond .ge 5) :: C_X6_claim_12
def C_X6_better_136 : List zCE := (136, 2, (-5), .bipush (-5)) :: (138, 1, 0, .ireturn) :: []
def C_X6_better_130 : List zCE := (130, 3, 0, .iinc 5 1) :: (133, 3, 35, .goto (-98)) :: C_X6_better_136
def C_X6_better_124 : List zCE := (124, 3, 0, .iinc 6 1) :: (127, 3, 65, .goto (-62)) :: C_X6_better_130
def C_X6_better_65 : List zCE := (65, 2, 0, .iload 6) :: (67, 1, 0, .aload_n 0) :: (68, 3, 192, .getfield 12) :: (71, 3, 65, .getfield 62) :: (74, 3, 130, .if_icmp .ge 56) :: (77, 1, 0, .aload_n 0) :: (78, 3, 192, .getfield 12) :: (81, 1, 0, .iload_n 2) :: (82, 2, 0, .iload 6) :: (84, 3, 17, .invokevirtual 138) :: (87, 1, 0, .lconst 0) :: (88, 1, 0, .lcmp) :: (89, 3, 124, .ifCond .le 35) :: (92, 1, 0, .aload_n 3) :: (93, 2, 0, .iload 5) :: (95, 1, 0, .iaload) :: (96, 2, 0, .aload 4) :: (98, 2, 0, .iload 6) :: (100, 1, 0, .iaload) :: (101, 1, 0, .imul) :: (102, 1, 0, .aload_n 3) :: (103, 2, 0, .iload 6) :: (105, 1, 0, .iaload) :: (106, 2, 0, .aload 4) :: (108, 2, 0, .iload 5) :: (110, 1, 0, .iaload) :: (111, 1, 0, .imul) :: (112, 3, 124, .if_icmp .ge 12) :: (115, 2, 10, .bipush 10) :: (117, 2, 0, .iload 5) :: (119, 1, 0, .imul) :: (120, 2, 0, .iload 6) :: (122, 1, 0, .iadd) :: (123, 1, 0, .ireturn) :: C_X6_better_124
def C_X6_better_35 : List zCE := (35, 2, 0, .iload 5) :: (37, 1, 0, .aload_n 0) :: (38, 3, 192, .getfield 12) :: (41, 3, 65, .getfield 62) :: (44, 3, 136, .if_icmp .ge 92) :: (47, 1, 0, .aload_n 0) :: (48, 3, 192, .getfield 12) :: (51, 1, 0, .iload_n 1) :: (52, 2, 0, .iload 5) :: (54, 3, 17, .invokevirtual 138) :: (57, 1, 0, .lconst 0) :: (58, 1, 0, .lcmp) :: (59, 3, 130, .ifCond .le 71) :: (62, 1, 0, .iconst 0) :: (63, 2, 0, .istore 6) :: C_X6_better_65
def C_X6_better_11 : List zCE := (11, 1, 0, .aload_n 0) :: (12, 3, 192, .getfield 12) :: (15, 3, 66, .getfield 76) :: (18, 1, 0, .iload_n 1) :: (19, 1, 0, .aaload) :: (20, 1, 0, .astore_n 3) :: (21, 1, 0, .aload_n 0) :: (22, 3, 192, .getfield 12) :: (25, 3, 66, .getfield 76) :: (28, 1, 0, .iload_n 2) :: (29, 1, 0, .aaload) :: (30, 2, 0, .astore 4) :: (32, 1, 0, .iconst 0) :: (33, 2, 0, .istore 5) :: C_X6_better_35
def C_X6_better_0 : List zCE := (0, 1, 0, .aload_n 0) :: (1, 1, 0, .iload_n 1) :: (2, 1, 0, .iload_n 2) :: (3, 3, 86, .invokevirtual 101) :: (6, 3, 11, .ifCond .ne 5) :: (9, 1, (-1), .iconst (-1)) :: (10, 1, 0, .ireturn) :: C_X6_better_11
def C_X6_told_113 : List zCE := (113, 1, (-1), .iconst (-1)) :: (114, 1, 0, .ireturn) :: []
def C_X6_told_77 : List zCE := (77, 1, 0, .aload_n 0) :: (78, 3, 196, .getfield 31) :: (81, 1, 0, .aload_n 0) :: (82, 3, 192, .getfield 12) :: (85, 3, 66, .getfield 76) :: (88, 1, 0, .aload_n 0) :: (89, 3, 192, .getfield 12) :: (92, 3, 64, .getfield 54) :: (95, 1, 0, .aload_n 0) :: (96, 3, 192, .getfield 12) :: (99, 3, 65, .getfield 62) :: (102, 3, 35, .invokevirtual 171) :: (105, 1, 0, .aload_n 0) :: (106, 3, 196, .getfield 31) :: (109, 3, 169, .getfield 175) :: (112, 1, 0, .ireturn) :: C_X6_told_113
def C_X6_told_72 : List zCE := (72, 1, 0, .aload_n 0) :: (73, 3, 102, .invokevirtual 168) :: (76, 1, 0, .ireturn) :: C_X6_told_77
def C_X6_told_64 : List zCE := (64, 1, 0, .aload_n 0) :: (65, 3, 192, .getfield 12) :: (68, 3, 22, .invokevirtual 165) :: (71, 1, 0, .ireturn) :: C_X6_told_72
def C_X6_told_56 : List zCE := (56, 1, 0, .aload_n 0) :: (57, 3, 192, .getfield 12) :: (60, 3, 21, .invokevirtual 98) :: (63, 1, 0, .ireturn) :: C_X6_told_64
def C_X6_told_48 : List zCE := (48, 1, 0, .aload_n 0) :: (49, 3, 192, .getfield 12) :: (52, 3, 65, .getfield 62) :: (55, 1, 0, .ireturn) :: C_X6_told_56
def C_X6_told_40 : List zCE := (40, 1, 0, .aload_n 0) :: (41, 3, 192, .getfield 12) :: (44, 3, 64, .getfield 54) :: (47, 1, 0, .ireturn) :: C_X6_told_48
def C_X6_told_0 : List zCE := (0, 1, 0, .iload_n 1) :: (1, 39, 0, .tableswitch 112 0 5 #[39, 47, 55, 63, 71, 76]) :: C_X6_told_40
def C_X6_all_20 : List zCE := (20, 1, 0, .ireturn) :: []
def C_X6_all_19 : List zCE := (19, 1, (-1), .iconst (-1)) :: C_X6_all_20
def C_X6_all_0 : List zCE := (0, 1, 0, .aload_n 0) :: (1, 1, 0, .iload_n 1) :: (2, 3, 85, .invokevirtual 69) :: (5, 3, 19, .ifCond .eq 14) :: (8, 1, 0, .aload_n 0) :: (9, 3, 192, .getfield 12) :: (12, 1, 0, .iload_n 1) :: (13, 3, 18, .invokevirtual 150) :: (16, 3, 20, .goto 4) :: C_X6_all_19
def C_X6_adjusted_117 : List zCE := (117, 1, 0, .aload_n 0) :: (118, 3, 195, .getfield 24) :: (121, 3, 2, .getfield 184) :: (124, 3, 90, .invokestatic 87) :: (127, 1, 0, .ireturn) :: []
def C_X6_adjusted_109 : List zCE := (109, 1, 0, .aload_n 0) :: (110, 3, 195, .getfield 24) :: (113, 3, 4, .getfield 181) :: (116, 1, 0, .ireturn) :: C_X6_adjusted_117
def C_X6_adjusted_100 : List zCE := (100, 1, 0, .aload_n 0) :: (101, 3, 195, .getfield 24) :: (104, 1, 0, .iload_n 2) :: (105, 3, 6, .invokevirtual 178) :: (108, 1, 0, .ireturn) :: C_X6_adjusted_109
def C_X6_adjusted_91 : List zCE := (91, 1, 0, .aload_n 0) :: (92, 3, 195, .getfield 24) :: (95, 1, 0, .iload_n 1) :: (96, 3, 6, .invokevirtual 178) :: (99, 1, 0, .ireturn) :: C_X6_adjusted_100
def C_X6_adjusted_80 : List zCE := (80, 1, 0, .aload_n 0) :: (81, 3, 195, .getfield 24) :: (84, 3, 5, .getfield 113) :: (87, 3, 90, .invokestatic 87) :: (90, 1, 0, .ireturn) :: C_X6_adjusted_91
def C_X6_adjusted_49 : List zCE := (49, 1, 0, .iload_n 3) :: (50, 30, 0, .tableswitch 67 0 3 #[30, 41, 50, 59]) :: C_X6_adjusted_80
def C_X6_adjusted_20 : List zCE := (20, 1, 0, .aload_n 0) :: (21, 3, 195, .getfield 24) :: (24, 1, 0, .aload_n 0) :: (25, 3, 192, .getfield 12) :: (28, 3, 66, .getfield 76) :: (31, 1, 0, .aload_n 0) :: (32, 3, 192, .getfield 12) :: (35, 3, 65, .getfield 62) :: (38, 1, 0, .iload_n 1) :: (39, 1, 0, .iload_n 2) :: (40, 3, 0, .invokevirtual 105) :: (43, 3, 49, .ifCond .ne 6) :: (46, 2, (-3), .bipush (-3)) :: (48, 1, 0, .ireturn) :: C_X6_adjusted_49
def C_X6_adjusted_18 : List zCE := (18, 1, (-1), .iconst (-1)) :: (19, 1, 0, .ireturn) :: C_X6_adjusted_20
def C_X6_adjusted_0 : List zCE := (0, 1, 0, .aload_n 0) :: (1, 1, 0, .iload_n 1) :: (2, 1, 0, .iload_n 2) :: (3, 3, 86, .invokevirtual 101) :: (6, 3, 18, .ifCond .eq 12) :: (9, 1, 0, .iload_n 3) :: (10, 3, 18, .ifCond .lt 8) :: (13, 1, 0, .iload_n 3) :: (14, 1, 4, .iconst 4) :: (15, 3, 20, .if_icmp .le 5) :: C_X6_adjusted_18
def C_X6_alike_46 : List zCE := (46, 1, 0, .aload_n 0) :: (47, 3, 195, .getfield 24) :: (50, 3, 8, .getfield 187) :: (53, 1, 0, .aload_n 0) :: (54, 3, 195, .getfield 24) :: (57, 3, 9, .getfield 190) :: (60, 1, 0, .iload_n 3) :: (61, 3, 92, .invokestatic 146) :: (64, 1, 0, .lreturn) :: []
def C_X6_alike_42 : List zCE := (42, 3, (-9223372036854775808), .ldc2_w 136) :: (45, 1, 0, .lreturn) :: C_X6_alike_46
def C_X6_alike_0 : List zCE := (0, 1, 0, .aload_n 0) :: (1, 1, 0, .iload_n 1) :: (2, 1, 0, .iload_n 2) :: (3, 3, 86, .invokevirtual 101) :: (6, 3, 42, .ifCond .eq 36) :: (9, 1, 0, .iload_n 3) :: (10, 3, 88, .invokestatic 133) :: (13, 3, 42, .ifCond .eq 29) :: (16, 1, 0, .aload_n 0) :: (17, 3, 195, .getfield 24) :: (20, 1, 0, .aload_n 0) :: (21, 3, 192, .getfield 12) :: (24, 3, 66, .getfield 76) :: (27, 1, 0, .aload_n 0) :: (28, 3, 192, .getfield 12) :: (31, 3, 65, .getfield 62) :: (34, 1, 0, .iload_n 1) :: (35, 1, 0, .iload_n 2) :: (36, 3, 0, .invokevirtual 105) :: (39, 3, 46, .ifCond .ne 7) :: C_X6_alike_42
def C_X6_parted_46 : List zCE := (46, 1, 0, .aload_n 0) :: (47, 3, 195, .getfield 24) :: (50, 3, 6, .getfield 193) :: (53, 1, 0, .aload_n 0) :: (54, 3, 195, .getfield 24) :: (57, 3, 7, .getfield 196) :: (60, 1, 0, .iload_n 3) :: (61, 3, 92, .invokestatic 146) :: (64, 1, 0, .lreturn) :: []
def C_X6_parted_42 : List zCE := (42, 3, (-9223372036854775808), .ldc2_w 136) :: (45, 1, 0, .lreturn) :: C_X6_parted_46
def C_X6_parted_0 : List zCE := (0, 1, 0, .aload_n 0) :: (1, 1, 0, .iload_n 1) :: (2, 1, 0, .iload_n 2) :: (3, 3, 86, .invokevirtual 101) :: (6, 3, 42, .ifCond .eq 36) :: (9, 1, 0, .iload_n 3) :: (10, 3, 88, .invokestatic 133) :: (13, 3, 42, .ifCond .eq 29) :: (16, 1, 0, .aload_n 0) :: (17, 3, 195, .getfield 24) :: (20, 1, 0, .aload_n 0) :: (21, 3, 192, .getfield 12) :: (24, 3, 66, .getfield 76) :: (27, 1, 0, .aload_n 0) :: (28, 3, 192, .getfield 12) :: (31, 3, 65, .getfield 62) :: (34, 1, 0, .iload_n 1) :: (35, 1, 0, .iload_n 2) :: (36, 3, 0, .invokevirtual 105) :: (39, 3, 46, .ifCond .ne 7) :: C_X6_parted_42
def C_X6_ratio_118 : List zCE := (118, 1, (-1), .iconst (-1)) :: (119, 1, 0, .ireturn) :: []
def C_X6_ratio_112 : List zCE := (112, 3, 0, .iinc 4 1) :: (115, 3, 29, .goto (-86)) :: C_X6_ratio_118
def C_X6_ratio_103 : List zCE := (103, 2, 0, .iload 5) :: (105, 1, 0, .iload_n 3) :: (106, 3, 112, .if_icmp .ne 6) :: (109, 2, 0, .iload 4) :: (111, 1, 0, .ireturn) :: C_X6_ratio_112
def C_X6_ratio_97 : List zCE := (97, 3, 0, .iinc 6 1) :: (100, 3, 47, .goto (-53)) :: C_X6_ratio_103
def C_X6_ratio_47 : List zCE := (47, 2, 0, .iload 6) :: (49, 1, 0, .aload_n 0) :: (50, 3, 192, .getfield 12) :: (53, 3, 65, .getfield 62) :: (56, 3, 103, .if_icmp .ge 47) :: (59, 2, 0, .iload 6) :: (61, 2, 0, .iload 4) :: (63, 3, 97, .if_icmp .eq 34) :: (66, 1, 0, .aload_n 0) :: (67, 3, 192, .getfield 12) :: (70, 3, 66, .getfield 76) :: (73, 1, 0, .iload_n 1) :: (74, 1, 0, .aaload) :: (75, 1, 0, .aload_n 0) :: (76, 3, 192, .getfield 12) :: (79, 3, 66, .getfield 76) :: (82, 1, 0, .iload_n 2) :: (83, 1, 0, .aaload) :: (84, 2, 0, .iload 6) :: (86, 2, 0, .iload 4) :: (88, 3, 95, .invokestatic 197) :: (91, 3, 97, .ifCond .eq 6) :: (94, 3, 0, .iinc 5 1) :: C_X6_ratio_97
def C_X6_ratio_29 : List zCE := (29, 2, 0, .iload 4) :: (31, 1, 0, .aload_n 0) :: (32, 3, 192, .getfield 12) :: (35, 3, 65, .getfield 62) :: (38, 3, 118, .if_icmp .ge 80) :: (41, 1, 0, .iconst 0) :: (42, 2, 0, .istore 5) :: (44, 1, 0, .iconst 0) :: (45, 2, 0, .istore 6) :: C_X6_ratio_47
def C_X6_ratio_26 : List zCE := (26, 1, 0, .iconst 0) :: (27, 2, 0, .istore 4) :: C_X6_ratio_29
def C_X6_ratio_24 : List zCE := (24, 1, (-1), .iconst (-1)) :: (25, 1, 0, .ireturn) :: C_X6_ratio_26
def C_X6_ratio_0 : List zCE := (0, 1, 0, .aload_n 0) :: (1, 1, 0, .iload_n 1) :: (2, 1, 0, .iload_n 2) :: (3, 3, 86, .invokevirtual 101) :: (6, 3, 24, .ifCond .eq 18) :: (9, 1, 0, .iload_n 3) :: (10, 3, 24, .ifCond .lt 14) :: (13, 1, 0, .iload_n 3) :: (14, 1, 0, .aload_n 0) :: (15, 3, 192, .getfield 12) :: (18, 3, 65, .getfield 62) :: (21, 3, 26, .if_icmp .lt 5) :: C_X6_ratio_24
def C_X6_fair_10 : List zCE := (10, 1, 0, .aload_n 0) :: (11, 3, 196, .getfield 31) :: (14, 1, 0, .aload_n 0) :: (15, 3, 192, .getfield 12) :: (18, 3, 66, .getfield 76) :: (21, 1, 0, .aload_n 0) :: (22, 3, 192, .getfield 12) :: (25, 3, 64, .getfield 54) :: (28, 1, 0, .aload_n 0) :: (29, 3, 192, .getfield 12) :: (32, 3, 65, .getfield 62) :: (35, 3, 35, .invokevirtual 171) :: (38, 1, 0, .aload_n 0) :: (39, 3, 196, .getfield 31) :: (42, 3, 166, .getfield 201) :: (45, 1, 0, .iload_n 1) :: (46, 1, 0, .iaload) :: (47, 1, 0, .ireturn) :: []
def C_X6_fair_0 : List zCE := (0, 1, 0, .aload_n 0) :: (1, 1, 0, .iload_n 1) :: (2, 3, 87, .invokevirtual 73) :: (5, 3, 10, .ifCond .ne 5) :: (8, 1, (-1), .iconst (-1)) :: (9, 1, 0, .ireturn) :: C_X6_fair_10
def C_X6_fairest_11 : List zCE := (11, 1, 0, .aload_n 0) :: (12, 3, 196, .getfield 31) :: (15, 1, 0, .aload_n 0) :: (16, 3, 192, .getfield 12) :: (19, 3, 66, .getfield 76) :: (22, 1, 0, .aload_n 0) :: (23, 3, 192, .getfield 12) :: (26, 3, 64, .getfield 54) :: (29, 1, 0, .aload_n 0) :: (30, 3, 192, .getfield 12) :: (33, 3, 65, .getfield 62) :: (36, 3, 35, .invokevirtual 171) :: (39, 1, 0, .aload_n 0) :: (40, 3, 196, .getfield 31) :: (43, 3, 167, .getfield 204) :: (46, 1, 0, .aload_n 0) :: (47, 3, 196, .getfield 31) :: (50, 3, 168, .getfield 207) :: (53, 1, 0, .iload_n 1) :: (54, 3, 92, .invokestatic 146) :: (57, 1, 0, .lreturn) :: []
def C_X6_fairest_0 : List zCE := (0, 1, 0, .iload_n 1) :: (1, 3, 88, .invokestatic 133) :: (4, 3, 11, .ifCond .ne 7) :: (7, 3, (-9223372036854775808), .ldc2_w 136) :: (10, 1, 0, .lreturn) :: C_X6_fairest_11
def C_X6_see_68 : List zCE := (68, 1, 0, .ireturn) :: []
def C_X6_see_56 : List zCE := (56, 1, 0, .aload_n 0) :: (57, 3, 192, .getfield 12) :: (60, 3, 72, .getfield 210) :: (63, 1, 0, .iload_n 1) :: (64, 1, 0, .iload_n 2) :: (65, 3, 8, .invokevirtual 223) :: C_X6_see_68
def C_X6_see_38 : List zCE := (38, 1, 0, .aload_n 0) :: (39, 3, 192, .getfield 12) :: (42, 3, 72, .getfield 210) :: (45, 3, 7, .invokevirtual 219) :: (48, 3, 56, .ifCond .eq 8) :: (51, 2, (-4), .bipush (-4)) :: (53, 3, 68, .goto 15) :: C_X6_see_56
def C_X6_see_35 : List zCE := (35, 2, (-2), .bipush (-2)) :: (37, 1, 0, .ireturn) :: C_X6_see_38
def C_X6_see_26 : List zCE := (26, 1, 0, .iload_n 2) :: (27, 3, 35, .ifCond .lt 8) :: (30, 1, 0, .iload_n 2) :: (31, 1, 1, .iconst 1) :: (32, 3, 38, .if_icmp .le 6) :: C_X6_see_35
def C_X6_see_16 : List zCE := (16, 1, 0, .aload_n 0) :: (17, 1, 0, .iload_n 1) :: (18, 3, 87, .invokevirtual 73) :: (21, 3, 26, .ifCond .ne 5) :: (24, 1, (-1), .iconst (-1)) :: (25, 1, 0, .ireturn) :: C_X6_see_26
def C_X6_see_0 : List zCE := (0, 1, 0, .iload_n 1) :: (1, 1, (-1), .iconst (-1)) :: (2, 3, 16, .if_icmp .ne 14) :: (5, 1, 0, .aload_n 0) :: (6, 3, 192, .getfield 12) :: (9, 3, 72, .getfield 210) :: (12, 3, 9, .invokevirtual 214) :: (15, 1, 0, .ireturn) :: C_X6_see_16
def C_X6_fits_105 : List zCE := (105, 1, 0, .ireturn) :: []
def C_X6_fits_103 : List zCE := (103, 2, 0, .iload 5) :: C_X6_fits_105
def C_X6_fits_94 : List zCE := (94, 1, 0, .iload_n 3) :: (95, 3, 103, .ifCond .ne 8) :: (98, 2, 0, .iload 4) :: (100, 3, 105, .goto 5) :: C_X6_fits_103
def C_X6_fits_88 : List zCE := (88, 3, 0, .iinc 6 1) :: (91, 3, 52, .goto (-39)) :: C_X6_fits_94
def C_X6_fits_85 : List zCE := (85, 3, 0, .iinc 4 1) :: C_X6_fits_88
def C_X6_fits_52 : List zCE := (52, 2, 0, .iload 6) :: (54, 2, 20, .bipush 20) :: (56, 3, 94, .if_icmp .gt 38) :: (59, 1, 0, .aload_n 0) :: (60, 3, 197, .getfield 37) :: (63, 1, 0, .iload_n 1) :: (64, 1, 0, .aaload) :: (65, 1, 0, .iload_n 2) :: (66, 2, 0, .iload 6) :: (68, 1, 0, .iastore) :: (69, 1, 0, .aload_n 0) :: (70, 3, 103, .invokevirtual 229) :: (73, 3, 88, .ifCond .eq 15) :: (76, 2, 0, .iload 4) :: (78, 3, 85, .ifCond .ne 7) :: (81, 2, 0, .iload 6) :: (83, 2, 0, .istore 5) :: C_X6_fits_85
def C_X6_fits_28 : List zCE := (28, 1, 0, .aload_n 0) :: (29, 3, 192, .getfield 12) :: (32, 3, 66, .getfield 76) :: (35, 1, 0, .aload_n 0) :: (36, 3, 197, .getfield 37) :: (39, 3, 93, .invokestatic 225) :: (42, 1, 0, .iconst 0) :: (43, 2, 0, .istore 4) :: (45, 2, (-5), .bipush (-5)) :: (47, 2, 0, .istore 5) :: (49, 1, 0, .iconst 0) :: (50, 2, 0, .istore 6) :: C_X6_fits_52
def C_X6_fits_26 : List zCE := (26, 1, (-1), .iconst (-1)) :: (27, 1, 0, .ireturn) :: C_X6_fits_28
def C_X6_fits_0 : List zCE := (0, 1, 0, .iload_n 1) :: (1, 3, 26, .ifCond .lt 25) :: (4, 1, 0, .iload_n 1) :: (5, 1, 1, .iconst 1) :: (6, 3, 26, .if_icmp .gt 20) :: (9, 1, 0, .aload_n 0) :: (10, 1, 0, .iload_n 2) :: (11, 3, 87, .invokevirtual 73) :: (14, 3, 26, .ifCond .eq 12) :: (17, 1, 0, .iload_n 3) :: (18, 3, 26, .ifCond .lt 8) :: (21, 1, 0, .iload_n 3) :: (22, 1, 1, .iconst 1) :: (23, 3, 28, .if_icmp .le 5) :: C_X6_fits_26
def C_X6_odds_98 : List zCE := (98, 1, 0, .iload_n 3) :: (99, 1, 0, .i2l) :: (100, 3, 10, .ldc2_w 232) :: (103, 1, 0, .iload_n 2) :: (104, 3, 92, .invokestatic 146) :: (107, 1, 0, .lreturn) :: []
def C_X6_odds_92 : List zCE := (92, 3, 0, .iinc 4 1) :: (95, 3, 38, .goto (-57)) :: C_X6_odds_98
def C_X6_odds_38 : List zCE := (38, 2, 0, .iload 4) :: (40, 2, 10, .bipush 10) :: (42, 3, 98, .if_icmp .gt 56) :: (45, 1, 0, .aload_n 0) :: (46, 3, 197, .getfield 37) :: (49, 1, 0, .iconst 0) :: (50, 1, 0, .aaload) :: (51, 1, 0, .iload_n 1) :: (52, 2, 0, .iload 4) :: (54, 1, 0, .iastore) :: (55, 1, 0, .aload_n 0) :: (56, 3, 195, .getfield 24) :: (59, 1, 0, .aload_n 0) :: (60, 3, 197, .getfield 37) :: (63, 1, 0, .aload_n 0) :: (64, 3, 192, .getfield 12) :: (67, 3, 65, .getfield 62) :: (70, 1, 0, .iconst 0) :: (71, 1, 1, .iconst 1) :: (72, 3, 0, .invokevirtual 105) :: (75, 3, 92, .ifCond .eq 17) :: (78, 1, 0, .aload_n 0) :: (79, 3, 195, .getfield 24) :: (82, 3, 5, .getfield 113) :: (85, 1, 0, .iload_n 1) :: (86, 3, 92, .if_icmp .ne 6) :: (89, 3, 0, .iinc 3 1) :: C_X6_odds_92
def C_X6_odds_19 : List zCE := (19, 1, 0, .aload_n 0) :: (20, 3, 192, .getfield 12) :: (23, 3, 66, .getfield 76) :: (26, 1, 0, .aload_n 0) :: (27, 3, 197, .getfield 37) :: (30, 3, 93, .invokestatic 225) :: (33, 1, 0, .iconst 0) :: (34, 1, 0, .istore_n 3) :: (35, 1, 1, .iconst 1) :: (36, 2, 0, .istore 4) :: C_X6_odds_38
def C_X6_odds_15 : List zCE := (15, 3, (-9223372036854775808), .ldc2_w 136) :: (18, 1, 0, .lreturn) :: C_X6_odds_19
def C_X6_odds_0 : List zCE := (0, 1, 0, .aload_n 0) :: (1, 1, 0, .iload_n 1) :: (2, 3, 87, .invokevirtual 73) :: (5, 3, 15, .ifCond .eq 10) :: (8, 1, 0, .iload_n 2) :: (9, 3, 88, .invokestatic 133) :: (12, 3, 19, .ifCond .ne 7) :: C_X6_odds_15
def C_X6_mean_29 : List zCE := (29, 1, 0, .aload_n 0) :: (30, 3, 192, .getfield 12) :: (33, 1, 0, .iload_n 1) :: (34, 3, 18, .invokevirtual 150) :: (37, 1, 0, .i2l) :: (38, 1, 0, .aload_n 0) :: (39, 3, 192, .getfield 12) :: (42, 3, 65, .getfield 62) :: (45, 1, 0, .i2l) :: (46, 1, 0, .iload_n 2) :: (47, 3, 92, .invokestatic 146) :: (50, 1, 0, .lreturn) :: []
def C_X6_mean_25 : List zCE := (25, 3, (-9223372036854775808), .ldc2_w 136) :: (28, 1, 0, .lreturn) :: C_X6_mean_29
def C_X6_mean_0 : List zCE := (0, 1, 0, .aload_n 0) :: (1, 1, 0, .iload_n 1) :: (2, 3, 85, .invokevirtual 69) :: (5, 3, 25, .ifCond .eq 20) :: (8, 1, 0, .iload_n 2) :: (9, 3, 88, .invokestatic 133) :: (12, 3, 25, .ifCond .eq 13) :: (15, 1, 0, .aload_n 0) :: (16, 3, 192, .getfield 12) :: (19, 3, 65, .getfield 62) :: (22, 3, 29, .ifCond .ne 7) :: C_X6_mean_25
def C_X6_event_83 : List zCE := (83, 1, 0, .ireturn) :: []
def C_X6_event_71 : List zCE := (71, 1, 0, .aload_n 0) :: (72, 3, 192, .getfield 12) :: (75, 3, 73, .getfield 234) :: (78, 1, 0, .iload_n 1) :: (79, 1, 0, .iload_n 2) :: (80, 3, 8, .invokevirtual 223) :: C_X6_event_83
def C_X6_event_53 : List zCE := (53, 1, 0, .aload_n 0) :: (54, 3, 192, .getfield 12) :: (57, 3, 73, .getfield 234) :: (60, 3, 7, .invokevirtual 219) :: (63, 3, 71, .ifCond .eq 8) :: (66, 2, (-4), .bipush (-4)) :: (68, 3, 83, .goto 15) :: C_X6_event_71
def C_X6_event_50 : List zCE := (50, 2, (-2), .bipush (-2)) :: (52, 1, 0, .ireturn) :: C_X6_event_53
def C_X6_event_40 : List zCE := (40, 1, 0, .iload_n 2) :: (41, 3, 50, .ifCond .lt 9) :: (44, 1, 0, .iload_n 2) :: (45, 2, 99, .bipush 99) :: (47, 3, 53, .if_icmp .le 6) :: C_X6_event_50
def C_X6_event_38 : List zCE := (38, 1, (-1), .iconst (-1)) :: (39, 1, 0, .ireturn) :: C_X6_event_40
def C_X6_event_16 : List zCE := (16, 1, 0, .iload_n 1) :: (17, 3, 38, .ifCond .lt 21) :: (20, 1, 0, .iload_n 1) :: (21, 1, 3, .iconst 3) :: (22, 3, 38, .if_icmp .gt 16) :: (25, 1, 0, .iload_n 1) :: (26, 1, 3, .iconst 3) :: (27, 3, 40, .if_icmp .ge 13) :: (30, 1, 0, .aload_n 0) :: (31, 1, 0, .iload_n 2) :: (32, 3, 87, .invokevirtual 73) :: (35, 3, 40, .ifCond .ne 5) :: C_X6_event_38
def C_X6_event_0 : List zCE := (0, 1, 0, .iload_n 1) :: (1, 1, (-1), .iconst (-1)) :: (2, 3, 16, .if_icmp .ne 14) :: (5, 1, 0, .aload_n 0) :: (6, 3, 192, .getfield 12) :: (9, 3, 73, .getfield 234) :: (12, 3, 9, .invokevirtual 214) :: (15, 1, 0, .ireturn) :: C_X6_event_16
def C_X6_after_121 : List zCE := (121, 1, 0, .aload_n 0) :: (122, 3, 195, .getfield 24) :: (125, 3, 8, .getfield 187) :: (128, 1, 0, .aload_n 0) :: (129, 3, 195, .getfield 24) :: (132, 3, 9, .getfield 190) :: (135, 1, 0, .iload_n 1) :: (136, 3, 92, .invokestatic 146) :: (139, 1, 0, .lreturn) :: []
def C_X6_after_104 : List zCE := (104, 1, 0, .iload_n 1) :: (105, 1, 2, .iconst 2) :: (106, 3, 121, .if_icmp .ne 15) :: (109, 1, 0, .aload_n 0) :: (110, 3, 195, .getfield 24) :: (113, 3, 5, .getfield 113) :: (116, 3, 90, .invokestatic 87) :: (119, 1, 0, .i2l) :: (120, 1, 0, .lreturn) :: C_X6_after_121
def C_X6_after_77 : List zCE := (77, 1, 0, .aload_n 0) :: (78, 3, 195, .getfield 24) :: (81, 1, 0, .aload_n 0) :: (82, 3, 197, .getfield 37) :: (85, 1, 0, .aload_n 0) :: (86, 3, 192, .getfield 12) :: (89, 3, 65, .getfield 62) :: (92, 1, 0, .iconst 0) :: (93, 1, 1, .iconst 1) :: (94, 3, 0, .invokevirtual 105) :: (97, 3, 104, .ifCond .ne 7) :: (100, 3, (-9223372036854775808), .ldc2_w 136) :: (103, 1, 0, .lreturn) :: C_X6_after_104
def C_X6_after_29 : List zCE := (29, 1, 0, .iload_n 2) :: (30, 1, 0, .aload_n 0) :: (31, 3, 192, .getfield 12) :: (34, 3, 73, .getfield 234) :: (37, 3, 34, .getfield 237) :: (40, 3, 77, .if_icmp .ge 37) :: (43, 1, 0, .aload_n 0) :: (44, 1, 0, .aload_n 0) :: (45, 3, 192, .getfield 12) :: (48, 3, 73, .getfield 234) :: (51, 3, 32, .getfield 238) :: (54, 1, 0, .iload_n 2) :: (55, 1, 0, .iaload) :: (56, 1, 0, .aload_n 0) :: (57, 3, 192, .getfield 12) :: (60, 3, 73, .getfield 234) :: (63, 3, 33, .getfield 241) :: (66, 1, 0, .iload_n 2) :: (67, 1, 0, .iaload) :: (68, 3, 104, .invokevirtual 244) :: (71, 3, 0, .iinc 2 1) :: (74, 3, 29, .goto (-45)) :: C_X6_after_77
def C_X6_after_13 : List zCE := (13, 1, 0, .aload_n 0) :: (14, 3, 192, .getfield 12) :: (17, 3, 66, .getfield 76) :: (20, 1, 0, .aload_n 0) :: (21, 3, 197, .getfield 37) :: (24, 3, 93, .invokestatic 225) :: (27, 1, 0, .iconst 0) :: (28, 1, 0, .istore_n 2) :: C_X6_after_29
def C_X6_after_9 : List zCE := (9, 3, (-9223372036854775808), .ldc2_w 136) :: (12, 1, 0, .lreturn) :: C_X6_after_13
def C_X6_after_0 : List zCE := (0, 1, 0, .iload_n 1) :: (1, 3, 9, .ifCond .lt 8) :: (4, 1, 0, .iload_n 1) :: (5, 1, 2, .iconst 2) :: (6, 3, 13, .if_icmp .le 7) :: C_X6_after_9
def C_X6_book_64 : List zCE := (64, 1, 0, .ireturn) :: []
def C_X6_book_52 : List zCE := (52, 1, 0, .aload_n 0) :: (53, 3, 192, .getfield 12) :: (56, 3, 74, .getfield 247) :: (59, 1, 0, .iload_n 1) :: (60, 1, 0, .iload_n 2) :: (61, 3, 8, .invokevirtual 223) :: C_X6_book_64
def C_X6_book_34 : List zCE := (34, 1, 0, .aload_n 0) :: (35, 3, 192, .getfield 12) :: (38, 3, 74, .getfield 247) :: (41, 3, 7, .invokevirtual 219) :: (44, 3, 52, .ifCond .eq 8) :: (47, 2, (-4), .bipush (-4)) :: (49, 3, 64, .goto 15) :: C_X6_book_52
def C_X6_book_32 : List zCE := (32, 1, (-1), .iconst (-1)) :: (33, 1, 0, .ireturn) :: C_X6_book_34
def C_X6_book_16 : List zCE := (16, 1, 0, .aload_n 0) :: (17, 1, 0, .iload_n 1) :: (18, 3, 87, .invokevirtual 73) :: (21, 3, 32, .ifCond .eq 11) :: (24, 1, 0, .aload_n 0) :: (25, 1, 0, .iload_n 2) :: (26, 3, 85, .invokevirtual 69) :: (29, 3, 34, .ifCond .ne 5) :: C_X6_book_32
def C_X6_book_0 : List zCE := (0, 1, 0, .iload_n 1) :: (1, 1, (-1), .iconst (-1)) :: (2, 3, 16, .if_icmp .ne 14) :: (5, 1, 0, .aload_n 0) :: (6, 3, 192, .getfield 12) :: (9, 3, 74, .getfield 247) :: (12, 3, 9, .invokevirtual 214) :: (15, 1, 0, .ireturn) :: C_X6_book_16
def C_X6_looked_60 : List zCE := (60, 2, (-5), .bipush (-5)) :: (62, 1, 0, .ireturn) :: []
def C_X6_looked_54 : List zCE := (54, 3, 0, .iinc 1 1) :: (57, 3, 2, .goto (-55)) :: C_X6_looked_60
def C_X6_looked_2 : List zCE := (2, 1, 0, .iload_n 1) :: (3, 1, 0, .aload_n 0) :: (4, 3, 192, .getfield 12) :: (7, 3, 74, .getfield 247) :: (10, 3, 34, .getfield 237) :: (13, 3, 60, .if_icmp .ge 47) :: (16, 1, 0, .aload_n 0) :: (17, 3, 192, .getfield 12) :: (20, 1, 0, .aload_n 0) :: (21, 3, 192, .getfield 12) :: (24, 3, 74, .getfield 247) :: (27, 3, 33, .getfield 241) :: (30, 1, 0, .iload_n 1) :: (31, 1, 0, .iaload) :: (32, 1, 0, .aload_n 0) :: (33, 3, 192, .getfield 12) :: (36, 3, 74, .getfield 247) :: (39, 3, 32, .getfield 238) :: (42, 1, 0, .iload_n 1) :: (43, 1, 0, .iaload) :: (44, 3, 17, .invokevirtual 138) :: (47, 1, 0, .lconst 0) :: (48, 1, 0, .lcmp) :: (49, 3, 54, .ifCond .ne 5) :: (52, 1, 0, .iload_n 1) :: (53, 1, 0, .ireturn) :: C_X6_looked_54
def C_X6_looked_0 : List zCE := (0, 1, 0, .iconst 0) :: (1, 1, 0, .istore_n 1) :: C_X6_looked_2
def C_X6_judge_103 : List zCE := (103, 2, (-5), .bipush (-5)) :: (105, 1, 0, .ireturn) :: []
def C_X6_judge_97 : List zCE := (97, 3, 0, .iinc 4 1) :: (100, 3, 37, .goto (-63)) :: C_X6_judge_103
def C_X6_judge_70 : List zCE := (70, 1, 0, .aload_n 3) :: (71, 3, 98, .getfield 262) :: (74, 1, 0, .iload_n 2) :: (75, 2, 0, .iload 4) :: (77, 1, 0, .iadd) :: (78, 1, 0, .laload) :: (79, 1, 0, .aload_n 0) :: (80, 3, 192, .getfield 12) :: (83, 3, 67, .getfield 79) :: (86, 2, 0, .iload 4) :: (88, 1, 0, .iaload) :: (89, 1, 0, .i2l) :: (90, 1, 0, .lcmp) :: (91, 3, 97, .ifCond .eq 6) :: (94, 2, 0, .iload 4) :: (96, 1, 0, .ireturn) :: C_X6_judge_97
def C_X6_judge_64 : List zCE := (64, 2, 100, .bipush 100) :: (66, 2, 0, .iload 4) :: (68, 1, 0, .iadd) :: (69, 1, 0, .ireturn) :: C_X6_judge_70
def C_X6_judge_37 : List zCE := (37, 2, 0, .iload 4) :: (39, 1, 0, .aload_n 0) :: (40, 3, 192, .getfield 12) :: (43, 3, 65, .getfield 62) :: (46, 3, 103, .if_icmp .ge 57) :: (49, 1, 0, .iload_n 2) :: (50, 3, 64, .ifCond .lt 14) :: (53, 1, 0, .iload_n 2) :: (54, 1, 0, .aload_n 3) :: (55, 3, 97, .getfield 259) :: (58, 2, 0, .iload 4) :: (60, 1, 0, .isub) :: (61, 3, 70, .if_icmp .lt 9) :: C_X6_judge_64
def C_X6_judge_34 : List zCE := (34, 1, 0, .iconst 0) :: (35, 2, 0, .istore 4) :: C_X6_judge_37
def C_X6_judge_9 : List zCE := (9, 1, 0, .aload_n 0) :: (10, 3, 199, .getfield 49) :: (13, 1, 0, .iload_n 1) :: (14, 1, 0, .aaload) :: (15, 1, 0, .astore_n 3) :: (16, 1, 0, .aload_n 3) :: (17, 3, 24, .invokevirtual 253) :: (20, 3, 34, .ifCond .ne 14) :: (23, 1, 0, .aload_n 3) :: (24, 3, 96, .getfield 256) :: (27, 1, 3, .iconst 3) :: (28, 3, 34, .if_icmp .eq 6) :: (31, 2, (-12), .bipush (-12)) :: (33, 1, 0, .ireturn) :: C_X6_judge_34
def C_X6_judge_0 : List zCE := (0, 1, 0, .iload_n 1) :: (1, 3, 89, .invokestatic 250) :: (4, 3, 9, .ifCond .ne 5) :: (7, 1, (-1), .iconst (-1)) :: (8, 1, 0, .ireturn) :: C_X6_judge_9
def C_X6_image_0 : List zCE := (0, 1, 0, .aload_n 0) :: (1, 3, 193, .getfield 18) :: (4, 1, 0, .aload_n 0) :: (5, 3, 192, .getfield 12) :: (8, 3, 23, .invokevirtual 266) :: (11, 1, 0, .aload_n 0) :: (12, 1, 1, .iconst 1) :: (13, 3, 194, .putfield 270) :: (16, 1, 0, .aload_n 0) :: (17, 3, 192, .getfield 12) :: (20, 3, 65, .getfield 62) :: (23, 1, 0, .ireturn) :: []
def C_X6_undo_10 : List zCE := (10, 1, 0, .aload_n 0) :: (11, 3, 192, .getfield 12) :: (14, 1, 0, .aload_n 0) :: (15, 3, 193, .getfield 18) :: (18, 3, 23, .invokevirtual 266) :: (21, 1, 0, .aload_n 0) :: (22, 3, 192, .getfield 12) :: (25, 3, 65, .getfield 62) :: (28, 1, 0, .ireturn) :: []
def C_X6_undo_0 : List zCE := (0, 1, 0, .aload_n 0) :: (1, 3, 194, .getfield 270) :: (4, 3, 10, .ifCond .ne 6) :: (7, 2, (-3), .bipush (-3)) :: (9, 1, 0, .ireturn) :: C_X6_undo_10
def C_X6_count_73 : List zCE := (73, 2, (-2), .bipush (-2)) :: (75, 1, 0, .ireturn) :: []
def C_X6_count_65 : List zCE := (65, 1, 0, .aload_n 0) :: (66, 3, 198, .getfield 43) :: (69, 3, 129, .getfield 114) :: (72, 1, 0, .ireturn) :: C_X6_count_73
def C_X6_count_54 : List zCE := (54, 1, 0, .aload_n 0) :: (55, 3, 192, .getfield 12) :: (58, 3, 74, .getfield 247) :: (61, 3, 34, .getfield 237) :: (64, 1, 0, .ireturn) :: C_X6_count_65
def C_X6_count_43 : List zCE := (43, 1, 0, .aload_n 0) :: (44, 3, 192, .getfield 12) :: (47, 3, 73, .getfield 234) :: (50, 3, 34, .getfield 237) :: (53, 1, 0, .ireturn) :: C_X6_count_54
def C_X6_count_32 : List zCE := (32, 1, 0, .aload_n 0) :: (33, 3, 192, .getfield 12) :: (36, 3, 72, .getfield 210) :: (39, 3, 34, .getfield 237) :: (42, 1, 0, .ireturn) :: C_X6_count_43
def C_X6_count_0 : List zCE := (0, 1, 0, .iload_n 1) :: (1, 31, 0, .tableswitch 72 0 3 #[31, 42, 53, 64]) :: C_X6_count_32
def C_X6_tape_59 : List zCE := (59, 3, 25, .invokevirtual 274) :: (62, 1, 1, .iconst 1) :: (63, 1, 0, .ireturn) :: []
def C_X6_tape_58 : List zCE := (58, 1, 0, .iload_n 3) :: C_X6_tape_59
def C_X6_tape_43 : List zCE := (43, 1, 0, .aload_n 0) :: (44, 3, 199, .getfield 49) :: (47, 1, 0, .iload_n 1) :: (48, 1, 0, .aaload) :: (49, 1, 0, .iload_n 2) :: (50, 1, 0, .iload_n 2) :: (51, 3, 58, .ifCond .ge 7) :: (54, 1, 0, .iconst 0) :: (55, 3, 59, .goto 4) :: C_X6_tape_58
def C_X6_tape_32 : List zCE := (32, 1, 0, .iload_n 2) :: (33, 3, 43, .ifCond .lt 10) :: (36, 1, 0, .iload_n 3) :: (37, 3, 43, .ifCond .ge 6) :: (40, 2, (-14), .bipush (-14)) :: (42, 1, 0, .ireturn) :: C_X6_tape_43
def C_X6_tape_29 : List zCE := (29, 2, (-2), .bipush (-2)) :: (31, 1, 0, .ireturn) :: C_X6_tape_32
def C_X6_tape_9 : List zCE := (9, 1, 0, .iload_n 2) :: (10, 1, (-1), .iconst (-1)) :: (11, 3, 29, .if_icmp .lt 18) :: (14, 1, 0, .iload_n 2) :: (15, 1, 4, .iconst 4) :: (16, 3, 29, .if_icmp .gt 13) :: (19, 1, 0, .iload_n 2) :: (20, 3, 32, .ifCond .lt 12) :: (23, 1, 0, .iload_n 3) :: (24, 2, 60, .bipush 60) :: (26, 3, 32, .if_icmp .le 6) :: C_X6_tape_29
def C_X6_tape_0 : List zCE := (0, 1, 0, .iload_n 1) :: (1, 3, 89, .invokestatic 250) :: (4, 3, 9, .ifCond .ne 5) :: (7, 1, (-1), .iconst (-1)) :: (8, 1, 0, .ireturn) :: C_X6_tape_9
def C_X6_item_44 : List zCE := (44, 2, 0, .aload 5) :: (46, 3, 98, .getfield 262) :: (49, 1, 0, .iload_n 2) :: (50, 2, 0, .aload 5) :: (52, 1, 0, .lload_n 3) :: (53, 3, 26, .invokevirtual 277) :: (56, 1, 0, .lastore) :: (57, 1, 1, .iconst 1) :: (58, 1, 0, .ireturn) :: []
def C_X6_item_41 : List zCE := (41, 2, (-13), .bipush (-13)) :: (43, 1, 0, .ireturn) :: C_X6_item_44
def C_X6_item_28 : List zCE := (28, 1, 0, .iload_n 2) :: (29, 3, 41, .ifCond .lt 12) :: (32, 1, 0, .iload_n 2) :: (33, 2, 0, .aload 5) :: (35, 3, 97, .getfield 259) :: (38, 3, 44, .if_icmp .lt 6) :: C_X6_item_41
def C_X6_item_9 : List zCE := (9, 1, 0, .aload_n 0) :: (10, 3, 199, .getfield 49) :: (13, 1, 0, .iload_n 1) :: (14, 1, 0, .aaload) :: (15, 2, 0, .astore 5) :: (17, 2, 0, .aload 5) :: (19, 3, 24, .invokevirtual 253) :: (22, 3, 28, .ifCond .eq 6) :: (25, 2, (-11), .bipush (-11)) :: (27, 1, 0, .ireturn) :: C_X6_item_28
def C_X6_item_0 : List zCE := (0, 1, 0, .iload_n 1) :: (1, 3, 89, .invokestatic 250) :: (4, 3, 9, .ifCond .ne 5) :: (7, 1, (-1), .iconst (-1)) :: (8, 1, 0, .ireturn) :: C_X6_item_9
def C_X6_peek_28 : List zCE := (28, 1, 0, .aload_n 0) :: (29, 3, 199, .getfield 49) :: (32, 1, 0, .iload_n 1) :: (33, 1, 0, .aaload) :: (34, 3, 98, .getfield 262) :: (37, 1, 0, .iload_n 2) :: (38, 1, 0, .laload) :: (39, 1, 0, .lreturn) :: []
def C_X6_peek_24 : List zCE := (24, 3, (-9223372036854775808), .ldc2_w 136) :: (27, 1, 0, .lreturn) :: C_X6_peek_28
def C_X6_peek_0 : List zCE := (0, 1, 0, .iload_n 1) :: (1, 3, 89, .invokestatic 250) :: (4, 3, 24, .ifCond .eq 20) :: (7, 1, 0, .iload_n 2) :: (8, 3, 24, .ifCond .lt 16) :: (11, 1, 0, .iload_n 2) :: (12, 1, 0, .aload_n 0) :: (13, 3, 199, .getfield 49) :: (16, 1, 0, .iload_n 1) :: (17, 1, 0, .aaload) :: (18, 3, 97, .getfield 259) :: (21, 3, 28, .if_icmp .lt 7) :: C_X6_peek_24
def C_X6_shift_93 : List zCE := (93, 2, 0, .aload 6) :: (95, 3, 98, .getfield 262) :: (98, 1, 0, .iload_n 2) :: (99, 2, 0, .aload 7) :: (101, 3, 98, .getfield 262) :: (104, 2, 0, .iload 4) :: (106, 2, 0, .iload 5) :: (108, 3, 9999, .invokestatic 284) :: (111, 2, 0, .iload 5) :: (113, 1, 0, .ireturn) :: []
def C_X6_shift_90 : List zCE := (90, 2, (-13), .bipush (-13)) :: (92, 1, 0, .ireturn) :: C_X6_shift_93
def C_X6_shift_67 : List zCE := (67, 2, 0, .aload 6) :: (69, 1, 0, .iload_n 2) :: (70, 2, 0, .iload 5) :: (72, 3, 27, .invokevirtual 281) :: (75, 3, 90, .ifCond .eq 15) :: (78, 2, 0, .aload 7) :: (80, 2, 0, .iload 4) :: (82, 2, 0, .iload 5) :: (84, 3, 27, .invokevirtual 281) :: (87, 3, 93, .ifCond .ne 6) :: C_X6_shift_90
def C_X6_shift_51 : List zCE := (51, 2, 0, .aload 6) :: (53, 3, 96, .getfield 256) :: (56, 2, 0, .aload 7) :: (58, 3, 96, .getfield 256) :: (61, 3, 67, .if_icmp .eq 6) :: (64, 2, (-12), .bipush (-12)) :: (66, 1, 0, .ireturn) :: C_X6_shift_67
def C_X6_shift_48 : List zCE := (48, 2, (-11), .bipush (-11)) :: (50, 1, 0, .ireturn) :: C_X6_shift_51
def C_X6_shift_16 : List zCE := (16, 1, 0, .aload_n 0) :: (17, 3, 199, .getfield 49) :: (20, 1, 0, .iload_n 1) :: (21, 1, 0, .aaload) :: (22, 2, 0, .astore 6) :: (24, 1, 0, .aload_n 0) :: (25, 3, 199, .getfield 49) :: (28, 1, 0, .iload_n 3) :: (29, 1, 0, .aaload) :: (30, 2, 0, .astore 7) :: (32, 2, 0, .aload 6) :: (34, 3, 24, .invokevirtual 253) :: (37, 3, 48, .ifCond .ne 11) :: (40, 2, 0, .aload 7) :: (42, 3, 24, .invokevirtual 253) :: (45, 3, 51, .ifCond .eq 6) :: C_X6_shift_48
def C_X6_shift_14 : List zCE := (14, 1, (-1), .iconst (-1)) :: (15, 1, 0, .ireturn) :: C_X6_shift_16
def C_X6_shift_0 : List zCE := (0, 1, 0, .iload_n 1) :: (1, 3, 89, .invokestatic 250) :: (4, 3, 14, .ifCond .eq 10) :: (7, 1, 0, .iload_n 3) :: (8, 3, 89, .invokestatic 250) :: (11, 3, 16, .ifCond .ne 5) :: C_X6_shift_14
def C_X6_isParty_20 : List zCE := (20, 1, 1, .ireturn) :: []
def C_X6_isParty_19 : List zCE := (19, 1, 0, .iconst 0) :: C_X6_isParty_20
def C_X6_isParty_0 : List zCE := (0, 1, 0, .iload_n 1) :: (1, 3, 19, .ifCond .lt 18) :: (4, 1, 0, .iload_n 1) :: (5, 1, 0, .aload_n 0) :: (6, 3, 192, .getfield 12) :: (9, 3, 64, .getfield 54) :: (12, 3, 19, .if_icmp .ge 7) :: (15, 1, 1, .iconst 1) :: (16, 3, 20, .goto 4) :: C_X6_isParty_19
def C_X6_areTwo_26 : List zCE := (26, 1, 1, .ireturn) :: []
def C_X6_areTwo_25 : List zCE := (25, 1, 0, .iconst 0) :: C_X6_areTwo_26
def C_X6_areTwo_0 : List zCE := (0, 1, 0, .aload_n 0) :: (1, 1, 0, .iload_n 1) :: (2, 3, 85, .invokevirtual 69) :: (5, 3, 25, .ifCond .eq 20) :: (8, 1, 0, .aload_n 0) :: (9, 1, 0, .iload_n 2) :: (10, 3, 85, .invokevirtual 69) :: (13, 3, 25, .ifCond .eq 12) :: (16, 1, 0, .iload_n 1) :: (17, 1, 0, .iload_n 2) :: (18, 3, 25, .if_icmp .eq 7) :: (21, 1, 1, .iconst 1) :: (22, 3, 26, .goto 4) :: C_X6_areTwo_25
def C_X6_isThing_20 : List zCE := (20, 1, 1, .ireturn) :: []
def C_X6_isThing_19 : List zCE := (19, 1, 0, .iconst 0) :: C_X6_isThing_20
def C_X6_isThing_0 : List zCE := (0, 1, 0, .iload_n 1) :: (1, 3, 19, .ifCond .lt 18) :: (4, 1, 0, .iload_n 1) :: (5, 1, 0, .aload_n 0) :: (6, 3, 192, .getfield 12) :: (9, 3, 65, .getfield 62) :: (12, 3, 19, .if_icmp .ge 7) :: (15, 1, 1, .iconst 1) :: (16, 3, 20, .goto 4) :: C_X6_isThing_19
def C_X6_isPart_14 : List zCE := (14, 1, 1, .ireturn) :: []
def C_X6_isPart_13 : List zCE := (13, 1, 0, .iconst 0) :: C_X6_isPart_14
def C_X6_isPart_9 : List zCE := (9, 1, 1, .iconst 1) :: (10, 3, 14, .goto 4) :: C_X6_isPart_13
def C_X6_isPart_0 : List zCE := (0, 1, 0, .iload_n 0) :: (1, 3, 9, .ifCond .eq 8) :: (4, 1, 0, .iload_n 0) :: (5, 1, 1, .iconst 1) :: (6, 3, 13, .if_icmp .ne 7) :: C_X6_isPart_9
def C_X6_isTape_15 : List zCE := (15, 1, 1, .ireturn) :: []
def C_X6_isTape_14 : List zCE := (14, 1, 0, .iconst 0) :: C_X6_isTape_15
def C_X6_isTape_0 : List zCE := (0, 1, 0, .iload_n 0) :: (1, 3, 14, .ifCond .lt 13) :: (4, 1, 0, .iload_n 0) :: (5, 2, 6, .bipush 6) :: (7, 3, 14, .if_icmp .ge 7) :: (10, 1, 1, .iconst 1) :: (11, 3, 15, .goto 4) :: C_X6_isTape_14
def C_X6_orNoSuch_10 : List zCE := (10, 1, 0, .ireturn) :: []
def C_X6_orNoSuch_9 : List zCE := (9, 1, 0, .iload_n 0) :: C_X6_orNoSuch_10
def C_X6_orNoSuch_0 : List zCE := (0, 1, 0, .iload_n 0) :: (1, 3, 9, .ifCond .ge 8) :: (4, 2, (-5), .bipush (-5)) :: (6, 3, 10, .goto 4) :: C_X6_orNoSuch_9
def C_X6_commonDivisor_45 : List zCE := (45, 2, 0, .lload 4) :: (47, 1, 0, .lreturn) :: []
def C_X6_commonDivisor_9 : List zCE := (9, 2, 0, .iload 8) :: (11, 3, 200, .sipush 200) :: (14, 3, 45, .if_icmp .ge 31) :: (17, 2, 0, .lload 6) :: (19, 1, 0, .lconst 0) :: (20, 1, 0, .lcmp) :: (21, 3, 45, .ifCond .eq 24) :: (24, 2, 0, .lload 4) :: (26, 2, 0, .lload 6) :: (28, 1, 0, .lrem) :: (29, 2, 0, .lstore 9) :: (31, 2, 0, .lload 6) :: (33, 2, 0, .lstore 4) :: (35, 2, 0, .lload 9) :: (37, 2, 0, .lstore 6) :: (39, 3, 0, .iinc 8 1) :: (42, 3, 9, .goto (-33)) :: C_X6_commonDivisor_45
def C_X6_commonDivisor_0 : List zCE := (0, 1, 0, .lload_n 0) :: (1, 2, 0, .lstore 4) :: (3, 1, 0, .lload_n 2) :: (4, 2, 0, .lstore 6) :: (6, 1, 0, .iconst 0) :: (7, 2, 0, .istore 8) :: C_X6_commonDivisor_9
def C_X6_inLowestTerms_36 : List zCE := (36, 1, 0, .lreturn) :: []
def C_X6_inLowestTerms_34 : List zCE := (34, 2, 0, .lload 7) :: C_X6_inLowestTerms_36
def C_X6_inLowestTerms_17 : List zCE := (17, 2, 0, .lstore 7) :: (19, 2, 0, .lload 5) :: (21, 1, 0, .lconst 0) :: (22, 1, 0, .lcmp) :: (23, 3, 34, .ifCond .le 11) :: (26, 2, 0, .lload 7) :: (28, 2, 0, .lload 5) :: (30, 1, 0, .ldiv) :: (31, 3, 36, .goto 5) :: C_X6_inLowestTerms_34
def C_X6_inLowestTerms_16 : List zCE := (16, 1, 0, .lload_n 2) :: C_X6_inLowestTerms_17
def C_X6_inLowestTerms_0 : List zCE := (0, 1, 0, .lload_n 0) :: (1, 1, 0, .lload_n 2) :: (2, 3, 91, .invokestatic 290) :: (5, 2, 0, .lstore 5) :: (7, 2, 0, .iload 4) :: (9, 3, 16, .ifCond .ne 7) :: (12, 1, 0, .lload_n 0) :: (13, 3, 17, .goto 4) :: C_X6_inLowestTerms_16
def C_X6_copyPoints_26 : List zCE := (26, 1, 0, .return_) :: []
def C_X6_copyPoints_2 : List zCE := (2, 1, 0, .iload_n 2) :: (3, 1, 4, .iconst 4) :: (4, 3, 26, .if_icmp .ge 22) :: (7, 1, 0, .aload_n 0) :: (8, 1, 0, .iload_n 2) :: (9, 1, 0, .aaload) :: (10, 1, 0, .iconst 0) :: (11, 1, 0, .aload_n 1) :: (12, 1, 0, .iload_n 2) :: (13, 1, 0, .aaload) :: (14, 1, 0, .iconst 0) :: (15, 2, 6, .bipush 6) :: (17, 3, 9999, .invokestatic 284) :: (20, 3, 0, .iinc 2 1) :: (23, 3, 2, .goto (-21)) :: C_X6_copyPoints_26
def C_X6_copyPoints_0 : List zCE := (0, 1, 0, .iconst 0) :: (1, 1, 0, .istore_n 2) :: C_X6_copyPoints_2
def C_X6_sumOf_21 : List zCE := (21, 1, 0, .iload_n 2) :: (22, 1, 0, .ireturn) :: []
def C_X6_sumOf_4 : List zCE := (4, 1, 0, .iload_n 3) :: (5, 1, 0, .iload_n 1) :: (6, 3, 21, .if_icmp .ge 15) :: (9, 1, 0, .iload_n 2) :: (10, 1, 0, .aload_n 0) :: (11, 1, 0, .iload_n 3) :: (12, 1, 0, .iaload) :: (13, 1, 0, .iadd) :: (14, 1, 0, .istore_n 2) :: (15, 3, 0, .iinc 3 1) :: (18, 3, 4, .goto (-14)) :: C_X6_sumOf_21
def C_X6_sumOf_0 : List zCE := (0, 1, 0, .iconst 0) :: (1, 1, 0, .istore_n 2) :: (2, 1, 0, .iconst 0) :: (3, 1, 0, .istore_n 3) :: C_X6_sumOf_4
def C_X6_comesFirst_91 : List zCE := (91, 1, 1, .ireturn) :: []
def C_X6_comesFirst_90 : List zCE := (90, 1, 0, .iconst 0) :: C_X6_comesFirst_91
def C_X6_comesFirst_79 : List zCE := (79, 2, 0, .iload 6) :: (81, 2, 0, .iload 7) :: (83, 3, 90, .if_icmp .ge 7) :: (86, 1, 1, .iconst 1) :: (87, 3, 91, .goto 4) :: C_X6_comesFirst_90
def C_X6_comesFirst_75 : List zCE := (75, 1, 0, .iconst 0) :: (76, 3, 91, .goto 15) :: C_X6_comesFirst_79
def C_X6_comesFirst_66 : List zCE := (66, 1, 0, .iload_n 2) :: (67, 1, 0, .iload_n 3) :: (68, 3, 75, .if_icmp .ge 7) :: (71, 1, 1, .iconst 1) :: (72, 3, 91, .goto 19) :: C_X6_comesFirst_75
def C_X6_comesFirst_36 : List zCE := (36, 1, 0, .aload_n 0) :: (37, 1, 0, .iload_n 2) :: (38, 1, 0, .iaload) :: (39, 1, 0, .aload_n 1) :: (40, 1, 0, .iload_n 3) :: (41, 1, 0, .iaload) :: (42, 1, 0, .imul) :: (43, 2, 0, .istore 6) :: (45, 1, 0, .aload_n 0) :: (46, 1, 0, .iload_n 3) :: (47, 1, 0, .iaload) :: (48, 1, 0, .aload_n 1) :: (49, 1, 0, .iload_n 2) :: (50, 1, 0, .iaload) :: (51, 1, 0, .imul) :: (52, 2, 0, .istore 7) :: (54, 2, 0, .iload 4) :: (56, 3, 66, .ifCond .ne 10) :: (59, 2, 0, .iload 6) :: (61, 2, 0, .iload 7) :: (63, 3, 79, .if_icmp .ne 16) :: C_X6_comesFirst_66
def C_X6_comesFirst_24 : List zCE := (24, 2, 0, .istore 5) :: (26, 2, 0, .iload 4) :: (28, 2, 0, .iload 5) :: (30, 3, 36, .if_icmp .eq 6) :: (33, 2, 0, .iload 5) :: (35, 1, 1, .ireturn) :: C_X6_comesFirst_36
def C_X6_comesFirst_23 : List zCE := (23, 1, 0, .iconst 0) :: C_X6_comesFirst_24
def C_X6_comesFirst_11 : List zCE := (11, 2, 0, .istore 4) :: (13, 1, 0, .aload_n 1) :: (14, 1, 0, .iload_n 3) :: (15, 1, 0, .iaload) :: (16, 3, 23, .ifCond .ne 7) :: (19, 1, 1, .iconst 1) :: (20, 3, 24, .goto 4) :: C_X6_comesFirst_23
def C_X6_comesFirst_10 : List zCE := (10, 1, 0, .iconst 0) :: C_X6_comesFirst_11
def C_X6_comesFirst_0 : List zCE := (0, 1, 0, .aload_n 1) :: (1, 1, 0, .iload_n 2) :: (2, 1, 0, .iaload) :: (3, 3, 10, .ifCond .ne 7) :: (6, 1, 1, .iconst 1) :: (7, 3, 11, .goto 4) :: C_X6_comesFirst_10
def C_X6_doClause_110 : List zCE := (110, 1, 0, .aload_n 0) :: (111, 1, 0, .iload_n 3) :: (112, 2, 0, .iload 4) :: (114, 3, 53, .invokevirtual 316) :: (117, 1, 0, .ireturn) :: []
def C_X6_doClause_102 : List zCE := (102, 1, 0, .aload_n 0) :: (103, 1, 0, .iload_n 3) :: (104, 2, 0, .iload 4) :: (106, 3, 51, .invokevirtual 313) :: (109, 1, 0, .ireturn) :: C_X6_doClause_110
def C_X6_doClause_83 : List zCE := (83, 1, 0, .aload_n 0) :: (84, 1, 0, .iload_n 3) :: (85, 2, 0, .iload 4) :: (87, 1, 0, .aload_n 0) :: (88, 3, 198, .getfield 43) :: (91, 1, 0, .iload_n 1) :: (92, 1, 3, .iconst 3) :: (93, 1, 0, .iadd) :: (94, 1, 0, .iload_n 2) :: (95, 3, 31, .invokevirtual 306) :: (98, 3, 49, .invokevirtual 309) :: (101, 1, 0, .ireturn) :: C_X6_doClause_102
def C_X6_doClause_78 : List zCE := (78, 1, 0, .aload_n 0) :: (79, 3, 48, .invokevirtual 303) :: (82, 1, 0, .ireturn) :: C_X6_doClause_83
def C_X6_doClause_72 : List zCE := (72, 1, 0, .aload_n 0) :: (73, 1, 0, .iload_n 3) :: (74, 3, 47, .invokevirtual 300) :: (77, 1, 0, .ireturn) :: C_X6_doClause_78
def C_X6_doClause_0 : List zCE := (0, 1, 0, .aload_n 0) :: (1, 3, 198, .getfield 43) :: (4, 1, 0, .iload_n 1) :: (5, 1, 1, .iconst 1) :: (6, 1, 0, .iadd) :: (7, 3, 30, .invokevirtual 294) :: (10, 1, 0, .istore_n 3) :: (11, 1, 0, .aload_n 0) :: (12, 3, 198, .getfield 43) :: (15, 1, 0, .iload_n 1) :: (16, 1, 2, .iconst 2) :: (17, 1, 0, .iadd) :: (18, 3, 30, .invokevirtual 294) :: (21, 2, 0, .istore 4) :: (23, 1, 0, .aload_n 0) :: (24, 3, 198, .getfield 43) :: (27, 1, 0, .iload_n 1) :: (28, 3, 29, .invokevirtual 297) :: (31, 41, 0, .lookupswitch 79 #[(104, 71), (110, 41), (112, 52), (116, 47)]) :: C_X6_doClause_72
def C_X6_claimOf_77 : List zCE := (77, 1, 0, .ireturn) :: []
def C_X6_claimOf_76 : List zCE := (76, 1, 0, .iconst 0) :: C_X6_claimOf_77
def C_X6_claimOf_64 : List zCE := (64, 1, 0, .aload_n 0) :: (65, 1, 0, .iload_n 1) :: (66, 3, 101, .invokevirtual 322) :: (69, 3, 76, .ifCond .lt 7) :: (72, 1, 4, .iconst 4) :: (73, 3, 77, .goto 4) :: C_X6_claimOf_76
def C_X6_claimOf_23 : List zCE := (23, 1, 0, .aload_n 0) :: (24, 3, 192, .getfield 12) :: (27, 1, 0, .iload_n 1) :: (28, 1, 0, .iload_n 1) :: (29, 3, 19, .invokevirtual 153) :: (32, 1, 0, .aload_n 0) :: (33, 3, 192, .getfield 12) :: (36, 3, 64, .getfield 54) :: (39, 1, 0, .i2l) :: (40, 1, 0, .lmul) :: (41, 1, 0, .aload_n 0) :: (42, 3, 192, .getfield 12) :: (45, 1, 0, .iload_n 1) :: (46, 3, 18, .invokevirtual 150) :: (49, 1, 0, .i2l) :: (50, 1, 0, .aload_n 0) :: (51, 3, 192, .getfield 12) :: (54, 3, 71, .getfield 142) :: (57, 1, 0, .lmul) :: (58, 1, 0, .lcmp) :: (59, 3, 64, .ifCond .ge 5) :: (62, 1, 3, .iconst 3) :: (63, 1, 0, .ireturn) :: C_X6_claimOf_64
def C_X6_claimOf_13 : List zCE := (13, 1, 0, .aload_n 0) :: (14, 1, 0, .iload_n 1) :: (15, 3, 100, .invokevirtual 319) :: (18, 3, 23, .ifCond .lt 5) :: (21, 1, 2, .iconst 2) :: (22, 1, 0, .ireturn) :: C_X6_claimOf_23
def C_X6_claimOf_0 : List zCE := (0, 1, 0, .aload_n 0) :: (1, 3, 192, .getfield 12) :: (4, 1, 0, .iload_n 1) :: (5, 3, 18, .invokevirtual 150) :: (8, 3, 13, .ifCond .ne 5) :: (11, 1, 1, .iconst 1) :: (12, 1, 0, .ireturn) :: C_X6_claimOf_13
def C_X6_causeOf_74 : List zCE := (74, 2, (-5), .bipush (-5)) :: (76, 1, 0, .ireturn) :: []
def C_X6_causeOf_65 : List zCE := (65, 2, 10, .bipush 10) :: (67, 1, 0, .aload_n 0) :: (68, 1, 0, .iload_n 2) :: (69, 3, 101, .invokevirtual 322) :: (72, 1, 0, .iadd) :: (73, 1, 0, .ireturn) :: C_X6_causeOf_74
def C_X6_causeOf_56 : List zCE := (56, 1, 0, .aload_n 0) :: (57, 3, 192, .getfield 12) :: (60, 1, 0, .iload_n 2) :: (61, 3, 20, .invokevirtual 325) :: (64, 1, 0, .ireturn) :: C_X6_causeOf_65
def C_X6_causeOf_47 : List zCE := (47, 2, 10, .bipush 10) :: (49, 1, 0, .aload_n 0) :: (50, 1, 0, .iload_n 2) :: (51, 3, 100, .invokevirtual 319) :: (54, 1, 0, .iadd) :: (55, 1, 0, .ireturn) :: C_X6_causeOf_56
def C_X6_causeOf_32 : List zCE := (32, 2, 10, .bipush 10) :: (34, 1, 0, .aload_n 0) :: (35, 3, 192, .getfield 12) :: (38, 1, 0, .iload_n 2) :: (39, 3, 20, .invokevirtual 325) :: (42, 3, 192, .invokestatic 326) :: (45, 1, 0, .iadd) :: (46, 1, 0, .ireturn) :: C_X6_causeOf_47
def C_X6_causeOf_0 : List zCE := (0, 1, 0, .iload_n 1) :: (1, 31, 0, .tableswitch 73 1 4 #[31, 46, 55, 64]) :: C_X6_causeOf_32
def C_X6_secondCauseOf_54 : List zCE := (54, 1, 0, .ireturn) :: []
def C_X6_secondCauseOf_52 : List zCE := (52, 2, (-5), .bipush (-5)) :: C_X6_secondCauseOf_54
def C_X6_secondCauseOf_32 : List zCE := (32, 1, 0, .iload_n 1) :: (33, 1, 4, .iconst 4) :: (34, 3, 52, .if_icmp .ne 18) :: (37, 1, 0, .aload_n 0) :: (38, 3, 192, .getfield 12) :: (41, 1, 0, .aload_n 0) :: (42, 1, 0, .iload_n 2) :: (43, 3, 101, .invokevirtual 322) :: (46, 3, 20, .invokevirtual 325) :: (49, 3, 54, .goto 5) :: C_X6_secondCauseOf_52
def C_X6_secondCauseOf_31 : List zCE := (31, 1, 0, .ireturn) :: C_X6_secondCauseOf_32
def C_X6_secondCauseOf_20 : List zCE := (20, 1, 0, .aload_n 0) :: (21, 3, 192, .getfield 12) :: (24, 3, 66, .getfield 76) :: (27, 1, 0, .iload_n 2) :: (28, 1, 0, .aaload) :: (29, 1, 0, .iload_n 3) :: (30, 1, 0, .iaload) :: C_X6_secondCauseOf_31
def C_X6_secondCauseOf_0 : List zCE := (0, 1, 0, .iload_n 1) :: (1, 1, 2, .iconst 2) :: (2, 3, 32, .if_icmp .ne 30) :: (5, 1, 0, .aload_n 0) :: (6, 1, 0, .iload_n 2) :: (7, 3, 100, .invokevirtual 319) :: (10, 1, 0, .istore_n 3) :: (11, 1, 0, .iload_n 3) :: (12, 3, 20, .ifCond .ge 8) :: (15, 2, (-5), .bipush (-5)) :: (17, 3, 31, .goto 14) :: C_X6_secondCauseOf_20
def C_X6_firstUnheld_48 : List zCE := (48, 1, (-1), .iconst (-1)) :: (49, 1, 0, .ireturn) :: []
def C_X6_firstUnheld_42 : List zCE := (42, 3, 0, .iinc 2 1) :: (45, 3, 2, .goto (-43)) :: C_X6_firstUnheld_48
def C_X6_firstUnheld_2 : List zCE := (2, 1, 0, .iload_n 2) :: (3, 1, 0, .aload_n 0) :: (4, 3, 192, .getfield 12) :: (7, 3, 65, .getfield 62) :: (10, 3, 48, .if_icmp .ge 38) :: (13, 1, 0, .aload_n 0) :: (14, 3, 192, .getfield 12) :: (17, 3, 67, .getfield 79) :: (20, 1, 0, .iload_n 2) :: (21, 1, 0, .iaload) :: (22, 1, (-1), .iconst (-1)) :: (23, 3, 42, .if_icmp .ne 19) :: (26, 1, 0, .aload_n 0) :: (27, 3, 192, .getfield 12) :: (30, 3, 66, .getfield 76) :: (33, 1, 0, .iload_n 1) :: (34, 1, 0, .aaload) :: (35, 1, 0, .iload_n 2) :: (36, 1, 0, .iaload) :: (37, 3, 42, .ifCond .le 5) :: (40, 1, 0, .iload_n 2) :: (41, 1, 0, .ireturn) :: C_X6_firstUnheld_42
def C_X6_firstUnheld_0 : List zCE := (0, 1, 0, .iconst 0) :: (1, 1, 0, .istore_n 2) :: C_X6_firstUnheld_2
def C_X6_firstEnvied_49 : List zCE := (49, 1, (-1), .iconst (-1)) :: (50, 1, 0, .ireturn) :: []
def C_X6_firstEnvied_43 : List zCE := (43, 3, 0, .iinc 4 1) :: (46, 3, 13, .goto (-33)) :: C_X6_firstEnvied_49
def C_X6_firstEnvied_13 : List zCE := (13, 2, 0, .iload 4) :: (15, 1, 0, .aload_n 0) :: (16, 3, 192, .getfield 12) :: (19, 3, 64, .getfield 54) :: (22, 3, 49, .if_icmp .ge 27) :: (25, 1, 0, .aload_n 0) :: (26, 3, 192, .getfield 12) :: (29, 1, 0, .iload_n 1) :: (30, 2, 0, .iload 4) :: (32, 3, 19, .invokevirtual 153) :: (35, 1, 0, .lload_n 2) :: (36, 1, 0, .lcmp) :: (37, 3, 43, .ifCond .le 6) :: (40, 2, 0, .iload 4) :: (42, 1, 0, .ireturn) :: C_X6_firstEnvied_43
def C_X6_firstEnvied_0 : List zCE := (0, 1, 0, .aload_n 0) :: (1, 3, 192, .getfield 12) :: (4, 1, 0, .iload_n 1) :: (5, 1, 0, .iload_n 1) :: (6, 3, 19, .invokevirtual 153) :: (9, 1, 0, .lstore_n 2) :: (10, 1, 0, .iconst 0) :: (11, 2, 0, .istore 4) :: C_X6_firstEnvied_13
def C_X6_enviousBits_35 : List zCE := (35, 1, 0, .iload_n 1) :: (36, 1, 0, .ireturn) :: []
def C_X6_enviousBits_29 : List zCE := (29, 3, 0, .iinc 2 1) :: (32, 3, 4, .goto (-28)) :: C_X6_enviousBits_35
def C_X6_enviousBits_4 : List zCE := (4, 1, 0, .iload_n 2) :: (5, 1, 0, .aload_n 0) :: (6, 3, 192, .getfield 12) :: (9, 3, 64, .getfield 54) :: (12, 3, 35, .if_icmp .ge 23) :: (15, 1, 0, .aload_n 0) :: (16, 1, 0, .iload_n 2) :: (17, 3, 101, .invokevirtual 322) :: (20, 3, 29, .ifCond .lt 9) :: (23, 1, 0, .iload_n 1) :: (24, 1, 1, .iconst 1) :: (25, 1, 0, .iload_n 2) :: (26, 1, 0, .ishl) :: (27, 1, 0, .ior) :: (28, 1, 0, .istore_n 1) :: C_X6_enviousBits_29
def C_X6_enviousBits_0 : List zCE := (0, 1, 0, .iconst 0) :: (1, 1, 0, .istore_n 1) :: (2, 1, 0, .iconst 0) :: (3, 1, 0, .istore_n 2) :: C_X6_enviousBits_4
def C_X6_triedFitsSeen_83 : List zCE := (83, 1, 1, .iconst 1) :: (84, 1, 1, .ireturn) :: []
def C_X6_triedFitsSeen_77 : List zCE := (77, 3, 0, .iinc 1 1) :: (80, 3, 27, .goto (-53)) :: C_X6_triedFitsSeen_83
def C_X6_triedFitsSeen_27 : List zCE := (27, 1, 0, .iload_n 1) :: (28, 1, 0, .aload_n 0) :: (29, 3, 192, .getfield 12) :: (32, 3, 72, .getfield 210) :: (35, 3, 34, .getfield 237) :: (38, 3, 83, .if_icmp .ge 45) :: (41, 1, 0, .aload_n 0) :: (42, 3, 195, .getfield 24) :: (45, 1, 0, .aload_n 0) :: (46, 3, 192, .getfield 12) :: (49, 3, 72, .getfield 210) :: (52, 3, 33, .getfield 241) :: (55, 1, 0, .iload_n 1) :: (56, 1, 0, .iaload) :: (57, 1, 0, .aload_n 0) :: (58, 3, 192, .getfield 12) :: (61, 3, 72, .getfield 210) :: (64, 3, 32, .getfield 238) :: (67, 1, 0, .iload_n 1) :: (68, 1, 0, .iaload) :: (69, 3, 5, .invokevirtual 331) :: (72, 3, 77, .ifCond .ne 5) :: (75, 1, 0, .iconst 0) :: (76, 1, 1, .ireturn) :: C_X6_triedFitsSeen_77
def C_X6_triedFitsSeen_25 : List zCE := (25, 1, 0, .iconst 0) :: (26, 1, 0, .istore_n 1) :: C_X6_triedFitsSeen_27
def C_X6_triedFitsSeen_0 : List zCE := (0, 1, 0, .aload_n 0) :: (1, 3, 195, .getfield 24) :: (4, 1, 0, .aload_n 0) :: (5, 3, 197, .getfield 37) :: (8, 1, 0, .aload_n 0) :: (9, 3, 192, .getfield 12) :: (12, 3, 65, .getfield 62) :: (15, 1, 0, .iconst 0) :: (16, 1, 1, .iconst 1) :: (17, 3, 0, .invokevirtual 105) :: (20, 3, 25, .ifCond .ne 5) :: (23, 1, 0, .iconst 0) :: (24, 1, 1, .ireturn) :: C_X6_triedFitsSeen_25
def C_X6_letHappen_104 : List zCE := (104, 1, 0, .return_) :: []
def C_X6_letHappen_98 : List zCE := (98, 3, 0, .iinc 3 1) :: (101, 3, 2, .goto (-99)) :: C_X6_letHappen_104
def C_X6_letHappen_92 : List zCE := (92, 3, 0, .iinc 4 1) :: (95, 3, 16, .goto (-79)) :: C_X6_letHappen_98
def C_X6_letHappen_75 : List zCE := (75, 2, 0, .istore 5) :: (77, 2, 0, .iload 5) :: (79, 3, 92, .ifCond .eq 13) :: (82, 1, 0, .aload_n 0) :: (83, 3, 197, .getfield 37) :: (86, 1, 0, .iload_n 3) :: (87, 1, 0, .aaload) :: (88, 2, 0, .iload 4) :: (90, 1, 0, .iconst 0) :: (91, 1, 0, .iastore) :: C_X6_letHappen_92
def C_X6_letHappen_74 : List zCE := (74, 1, 0, .iconst 0) :: C_X6_letHappen_75
def C_X6_letHappen_70 : List zCE := (70, 1, 1, .iconst 1) :: (71, 3, 75, .goto 4) :: C_X6_letHappen_74
def C_X6_letHappen_54 : List zCE := (54, 2, 0, .iload 4) :: (56, 1, 0, .iload_n 2) :: (57, 3, 74, .if_icmp .ne 17) :: (60, 1, 0, .iload_n 1) :: (61, 1, 2, .iconst 2) :: (62, 3, 70, .if_icmp .eq 8) :: (65, 1, 0, .iload_n 1) :: (66, 1, 0, .iload_n 3) :: (67, 3, 74, .if_icmp .ne 7) :: C_X6_letHappen_70
def C_X6_letHappen_50 : List zCE := (50, 1, 0, .iconst 0) :: (51, 3, 75, .goto 24) :: C_X6_letHappen_54
def C_X6_letHappen_16 : List zCE := (16, 2, 0, .iload 4) :: (18, 1, 0, .aload_n 0) :: (19, 3, 192, .getfield 12) :: (22, 3, 65, .getfield 62) :: (25, 3, 98, .if_icmp .ge 73) :: (28, 1, 0, .iload_n 1) :: (29, 1, 3, .iconst 3) :: (30, 3, 54, .if_icmp .ne 24) :: (33, 1, 0, .aload_n 0) :: (34, 3, 197, .getfield 37) :: (37, 1, 0, .iload_n 3) :: (38, 1, 0, .aaload) :: (39, 2, 0, .iload 4) :: (41, 1, 0, .iaload) :: (42, 1, 0, .iload_n 2) :: (43, 3, 50, .if_icmp .ge 7) :: (46, 1, 1, .iconst 1) :: (47, 3, 75, .goto 28) :: C_X6_letHappen_50
def C_X6_letHappen_2 : List zCE := (2, 1, 0, .iload_n 3) :: (3, 1, 0, .aload_n 0) :: (4, 3, 192, .getfield 12) :: (7, 3, 64, .getfield 54) :: (10, 3, 104, .if_icmp .ge 94) :: (13, 1, 0, .iconst 0) :: (14, 2, 0, .istore 4) :: C_X6_letHappen_16
def C_X6_letHappen_0 : List zCE := (0, 1, 0, .iconst 0) :: (1, 1, 0, .istore_n 3) :: C_X6_letHappen_2
def C_X7_in_18 : List zCE := (18, 1, 1, .ireturn) :: []
def C_X7_in_17 : List zCE := (17, 1, 0, .iconst 0) :: C_X7_in_18
def C_X7_in_0 : List zCE := (0, 1, 0, .lload_n 0) :: (1, 1, 0, .lload_n 2) :: (2, 1, 0, .lcmp) :: (3, 3, 17, .ifCond .lt 14) :: (6, 1, 0, .lload_n 0) :: (7, 2, 0, .lload 4) :: (9, 1, 0, .lcmp) :: (10, 3, 17, .ifCond .gt 7) :: (13, 1, 1, .iconst 1) :: (14, 3, 18, .goto 4) :: C_X7_in_17
def C_X7_isParty_0 : List zCE := (0, 1, 0, .iload_n 1) :: (1, 1, 0, .i2l) :: (2, 1, 0, .lconst 0) :: (3, 1, 0, .aload_n 0) :: (4, 3, 224, .getfield 11) :: (7, 1, 0, .iconst 0) :: (8, 1, 0, .iaload) :: (9, 1, 1, .iconst 1) :: (10, 1, 0, .isub) :: (11, 1, 0, .i2l) :: (12, 3, 105, .invokestatic 47) :: (15, 1, 1, .ireturn) :: []
def C_X7_isThing_0 : List zCE := (0, 1, 0, .iload_n 1) :: (1, 1, 0, .i2l) :: (2, 1, 0, .lconst 0) :: (3, 1, 0, .aload_n 0) :: (4, 3, 224, .getfield 11) :: (7, 1, 1, .iconst 1) :: (8, 1, 0, .iaload) :: (9, 1, 1, .iconst 1) :: (10, 1, 0, .isub) :: (11, 1, 0, .i2l) :: (12, 3, 105, .invokestatic 47) :: (15, 1, 1, .ireturn) :: []
def C_X7_areTwo_26 : List zCE := (26, 1, 1, .ireturn) :: []
def C_X7_areTwo_25 : List zCE := (25, 1, 0, .iconst 0) :: C_X7_areTwo_26
def C_X7_areTwo_0 : List zCE := (0, 1, 0, .aload_n 0) :: (1, 1, 0, .iload_n 1) :: (2, 3, 106, .invokevirtual 51) :: (5, 3, 25, .ifCond .eq 20) :: (8, 1, 0, .aload_n 0) :: (9, 1, 0, .iload_n 2) :: (10, 3, 106, .invokevirtual 51) :: (13, 3, 25, .ifCond .eq 12) :: (16, 1, 0, .iload_n 1) :: (17, 1, 0, .iload_n 2) :: (18, 3, 25, .if_icmp .eq 7) :: (21, 1, 1, .iconst 1) :: (22, 3, 26, .goto 4) :: C_X7_areTwo_25
def C_X7_isPart_14 : List zCE := (14, 1, 1, .ireturn) :: []
def C_X7_isPart_13 : List zCE := (13, 1, 0, .iconst 0) :: C_X7_isPart_14
def C_X7_isPart_9 : List zCE := (9, 1, 1, .iconst 1) :: (10, 3, 14, .goto 4) :: C_X7_isPart_13
def C_X7_isPart_0 : List zCE := (0, 1, 0, .iload_n 0) :: (1, 3, 9, .ifCond .eq 8) :: (4, 1, 0, .iload_n 0) :: (5, 1, 1, .iconst 1) :: (6, 3, 13, .if_icmp .ne 7) :: C_X7_isPart_9
def C_X7_parties_17 : List zCE := (17, 1, 0, .aload_n 0) :: (18, 3, 224, .getfield 11) :: (21, 1, 0, .iconst 0) :: (22, 1, 0, .iaload) :: (23, 1, 0, .istore_n 2) :: (24, 1, 0, .aload_n 0) :: (25, 3, 224, .getfield 11) :: (28, 1, 0, .iconst 0) :: (29, 1, 0, .iload_n 1) :: (30, 1, 0, .iastore) :: (31, 1, 0, .aload_n 0) :: (32, 3, 224, .getfield 11) :: (35, 1, 1, .iconst 1) :: (36, 1, 0, .iconst 0) :: (37, 1, 0, .iastore) :: (38, 1, 0, .aload_n 0) :: (39, 3, 224, .getfield 11) :: (42, 1, 2, .iconst 2) :: (43, 1, 0, .iconst 0) :: (44, 1, 0, .iastore) :: (45, 1, 0, .aload_n 0) :: (46, 3, 224, .getfield 11) :: (49, 1, 3, .iconst 3) :: (50, 1, 0, .iconst 0) :: (51, 1, 0, .iastore) :: (52, 1, 0, .aload_n 0) :: (53, 3, 224, .getfield 11) :: (56, 1, 4, .iconst 4) :: (57, 1, 0, .iconst 0) :: (58, 1, 0, .iastore) :: (59, 1, 0, .iload_n 2) :: (60, 1, 0, .ireturn) :: []
def C_X7_parties_0 : List zCE := (0, 1, 0, .iload_n 1) :: (1, 1, 0, .i2l) :: (2, 3, 2, .ldc2_w 55) :: (5, 3, 4, .ldc2_w 57) :: (8, 3, 105, .invokestatic 47) :: (11, 3, 17, .ifCond .ne 6) :: (14, 2, (-2), .bipush (-2)) :: (16, 1, 0, .ireturn) :: C_X7_parties_17
def C_X7_thing_44 : List zCE := (44, 1, 0, .aload_n 0) :: (45, 1, 0, .iload_n 1) :: (46, 1, (-1), .iconst (-1)) :: (47, 3, 112, .invokevirtual 59) :: (50, 1, 0, .aload_n 0) :: (51, 3, 224, .getfield 11) :: (54, 1, 1, .iconst 1) :: (55, 1, 0, .dup2) :: (56, 1, 0, .iaload) :: (57, 1, 1, .iconst 1) :: (58, 1, 0, .iadd) :: (59, 1, 0, .iastore) :: (60, 1, 0, .iload_n 1) :: (61, 1, 0, .ireturn) :: []
def C_X7_thing_18 : List zCE := (18, 1, 0, .iload_n 2) :: (19, 1, 4, .iconst 4) :: (20, 3, 44, .if_icmp .ge 24) :: (23, 1, 0, .aload_n 0) :: (24, 3, 224, .getfield 11) :: (27, 2, 29, .bipush 29) :: (29, 2, 6, .bipush 6) :: (31, 1, 0, .iload_n 2) :: (32, 1, 0, .imul) :: (33, 1, 0, .iadd) :: (34, 1, 0, .iload_n 1) :: (35, 1, 0, .iadd) :: (36, 1, 0, .iconst 0) :: (37, 1, 0, .iastore) :: (38, 3, 0, .iinc 2 1) :: (41, 3, 18, .goto (-23)) :: C_X7_thing_44
def C_X7_thing_16 : List zCE := (16, 1, 0, .iconst 0) :: (17, 1, 0, .istore_n 2) :: C_X7_thing_18
def C_X7_thing_0 : List zCE := (0, 1, 0, .aload_n 0) :: (1, 3, 224, .getfield 11) :: (4, 1, 1, .iconst 1) :: (5, 1, 0, .iaload) :: (6, 1, 0, .istore_n 1) :: (7, 1, 0, .iload_n 1) :: (8, 2, 6, .bipush 6) :: (10, 3, 16, .if_icmp .ne 6) :: (13, 2, (-4), .bipush (-4)) :: (15, 1, 0, .ireturn) :: C_X7_thing_16
def C_X7_holds_0 : List zCE := (0, 1, 0, .aload_n 0) :: (1, 3, 224, .getfield 11) :: (4, 1, 5, .iconst 5) :: (5, 1, 0, .iload_n 1) :: (6, 1, 0, .iadd) :: (7, 1, 0, .iload_n 2) :: (8, 1, 0, .iastore) :: (9, 1, 0, .aload_n 0) :: (10, 3, 224, .getfield 11) :: (13, 2, 11, .bipush 11) :: (15, 1, 0, .iload_n 1) :: (16, 1, 0, .iadd) :: (17, 1, (-1), .iconst (-1)) :: (18, 1, 0, .iastore) :: (19, 1, 0, .aload_n 0) :: (20, 3, 224, .getfield 11) :: (23, 2, 17, .bipush 17) :: (25, 1, 0, .iload_n 1) :: (26, 1, 0, .iadd) :: (27, 1, 0, .iconst 0) :: (28, 1, 0, .iastore) :: (29, 1, 0, .aload_n 0) :: (30, 3, 224, .getfield 11) :: (33, 2, 23, .bipush 23) :: (35, 1, 0, .iload_n 1) :: (36, 1, 0, .iadd) :: (37, 1, 1, .iconst 1) :: (38, 1, 0, .iastore) :: (39, 1, 0, .return_) :: []
def C_X7_pointsOf_0 : List zCE := (0, 1, 0, .aload_n 0) :: (1, 3, 224, .getfield 11) :: (4, 2, 29, .bipush 29) :: (6, 2, 6, .bipush 6) :: (8, 1, 0, .iload_n 1) :: (9, 1, 0, .imul) :: (10, 1, 0, .iadd) :: (11, 1, 0, .iload_n 2) :: (12, 1, 0, .iadd) :: (13, 1, 0, .iaload) :: (14, 1, 0, .ireturn) :: []
def C_X7_point_33 : List zCE := (33, 1, 0, .aload_n 0) :: (34, 1, 0, .iload_n 1) :: (35, 1, 0, .iload_n 2) :: (36, 3, 113, .invokevirtual 68) :: (39, 2, 0, .istore 4) :: (41, 1, 0, .aload_n 0) :: (42, 3, 224, .getfield 11) :: (45, 2, 29, .bipush 29) :: (47, 2, 6, .bipush 6) :: (49, 1, 0, .iload_n 1) :: (50, 1, 0, .imul) :: (51, 1, 0, .iadd) :: (52, 1, 0, .iload_n 2) :: (53, 1, 0, .iadd) :: (54, 1, 0, .iload_n 3) :: (55, 1, 0, .iastore) :: (56, 2, 0, .iload 4) :: (58, 1, 0, .ireturn) :: []
def C_X7_point_18 : List zCE := (18, 1, 0, .iload_n 3) :: (19, 1, 0, .i2l) :: (20, 1, 0, .lconst 0) :: (21, 3, 99, .ldc2_w 66) :: (24, 3, 105, .invokestatic 47) :: (27, 3, 33, .ifCond .ne 6) :: (30, 2, (-2), .bipush (-2)) :: (32, 1, 0, .ireturn) :: C_X7_point_33
def C_X7_point_16 : List zCE := (16, 1, (-1), .iconst (-1)) :: (17, 1, 0, .ireturn) :: C_X7_point_18
def C_X7_point_0 : List zCE := (0, 1, 0, .aload_n 0) :: (1, 1, 0, .iload_n 1) :: (2, 3, 106, .invokevirtual 51) :: (5, 3, 16, .ifCond .eq 11) :: (8, 1, 0, .aload_n 0) :: (9, 1, 0, .iload_n 2) :: (10, 3, 107, .invokevirtual 63) :: (13, 3, 18, .ifCond .ne 5) :: C_X7_point_16
def C_X7_of_26 : List zCE := (26, 1, 0, .ireturn) :: []
def C_X7_of_25 : List zCE := (25, 1, (-1), .iconst (-1)) :: C_X7_of_26
def C_X7_of_0 : List zCE := (0, 1, 0, .aload_n 0) :: (1, 1, 0, .iload_n 1) :: (2, 3, 106, .invokevirtual 51) :: (5, 3, 25, .ifCond .eq 20) :: (8, 1, 0, .aload_n 0) :: (9, 1, 0, .iload_n 2) :: (10, 3, 107, .invokevirtual 63) :: (13, 3, 25, .ifCond .eq 12) :: (16, 1, 0, .aload_n 0) :: (17, 1, 0, .iload_n 1) :: (18, 1, 0, .iload_n 2) :: (19, 3, 113, .invokevirtual 68) :: (22, 3, 26, .goto 4) :: C_X7_of_25
def C_X7_allOf_29 : List zCE := (29, 1, 0, .iload_n 2) :: (30, 1, 0, .ireturn) :: []
def C_X7_allOf_4 : List zCE := (4, 1, 0, .iload_n 3) :: (5, 1, 0, .aload_n 0) :: (6, 3, 224, .getfield 11) :: (9, 1, 1, .iconst 1) :: (10, 1, 0, .iaload) :: (11, 3, 29, .if_icmp .ge 18) :: (14, 1, 0, .iload_n 2) :: (15, 1, 0, .aload_n 0) :: (16, 1, 0, .iload_n 1) :: (17, 1, 0, .iload_n 3) :: (18, 3, 113, .invokevirtual 68) :: (21, 1, 0, .iadd) :: (22, 1, 0, .istore_n 2) :: (23, 3, 0, .iinc 3 1) :: (26, 3, 4, .goto (-22)) :: C_X7_allOf_29
def C_X7_allOf_0 : List zCE := (0, 1, 0, .iconst 0) :: (1, 1, 0, .istore_n 2) :: (2, 1, 0, .iconst 0) :: (3, 1, 0, .istore_n 3) :: C_X7_allOf_4
def C_X7_all_17 : List zCE := (17, 1, 0, .ireturn) :: []
def C_X7_all_16 : List zCE := (16, 1, (-1), .iconst (-1)) :: C_X7_all_17
def C_X7_all_0 : List zCE := (0, 1, 0, .aload_n 0) :: (1, 1, 0, .iload_n 1) :: (2, 3, 106, .invokevirtual 51) :: (5, 3, 16, .ifCond .eq 11) :: (8, 1, 0, .aload_n 0) :: (9, 1, 0, .iload_n 1) :: (10, 3, 116, .invokevirtual 72) :: (13, 3, 17, .goto 4) :: C_X7_all_16
def C_X7_orNobody_11 : List zCE := (11, 1, 0, .ireturn) :: []
def C_X7_orNobody_10 : List zCE := (10, 1, 0, .iload_n 0) :: C_X7_orNobody_11
def C_X7_orNobody_0 : List zCE := (0, 1, 0, .iload_n 0) :: (1, 1, (-1), .iconst (-1)) :: (2, 3, 10, .if_icmp .ne 8) :: (5, 2, (-5), .bipush (-5)) :: (7, 3, 11, .goto 4) :: C_X7_orNobody_10
def C_X7_hold_23 : List zCE := (23, 1, 0, .aload_n 0) :: (24, 3, 224, .getfield 11) :: (27, 1, 5, .iconst 5) :: (28, 1, 0, .iload_n 1) :: (29, 1, 0, .iadd) :: (30, 1, 0, .iaload) :: (31, 1, 0, .istore_n 3) :: (32, 1, 0, .aload_n 0) :: (33, 1, 0, .iload_n 1) :: (34, 1, 0, .iload_n 2) :: (35, 3, 112, .invokevirtual 59) :: (38, 1, 0, .iload_n 3) :: (39, 3, 118, .invokestatic 76) :: (42, 1, 0, .ireturn) :: []
def C_X7_hold_21 : List zCE := (21, 1, (-1), .iconst (-1)) :: (22, 1, 0, .ireturn) :: C_X7_hold_23
def C_X7_hold_0 : List zCE := (0, 1, 0, .aload_n 0) :: (1, 1, 0, .iload_n 1) :: (2, 3, 107, .invokevirtual 63) :: (5, 3, 21, .ifCond .eq 16) :: (8, 1, 0, .iload_n 2) :: (9, 1, (-1), .iconst (-1)) :: (10, 3, 23, .if_icmp .eq 13) :: (13, 1, 0, .aload_n 0) :: (14, 1, 0, .iload_n 2) :: (15, 3, 106, .invokevirtual 51) :: (18, 3, 23, .ifCond .ne 5) :: C_X7_hold_21
def C_X7_splits_41 : List zCE := (41, 1, 0, .iload_n 1) :: (42, 1, 0, .ireturn) :: []
def C_X7_splits_33 : List zCE := (33, 1, 0, .iadd) :: (34, 1, 0, .istore_n 1) :: (35, 3, 0, .iinc 2 1) :: (38, 3, 4, .goto (-34)) :: C_X7_splits_41
def C_X7_splits_32 : List zCE := (32, 1, 1, .iconst 1) :: C_X7_splits_33
def C_X7_splits_4 : List zCE := (4, 1, 0, .iload_n 2) :: (5, 1, 0, .aload_n 0) :: (6, 3, 224, .getfield 11) :: (9, 1, 1, .iconst 1) :: (10, 1, 0, .iaload) :: (11, 3, 41, .if_icmp .ge 30) :: (14, 1, 0, .iload_n 1) :: (15, 1, 0, .aload_n 0) :: (16, 3, 224, .getfield 11) :: (19, 2, 11, .bipush 11) :: (21, 1, 0, .iload_n 2) :: (22, 1, 0, .iadd) :: (23, 1, 0, .iaload) :: (24, 1, (-1), .iconst (-1)) :: (25, 3, 32, .if_icmp .ne 7) :: (28, 1, 0, .iconst 0) :: (29, 3, 33, .goto 4) :: C_X7_splits_32
def C_X7_splits_0 : List zCE := (0, 1, 0, .iconst 0) :: (1, 1, 0, .istore_n 1) :: (2, 1, 0, .iconst 0) :: (3, 1, 0, .istore_n 2) :: C_X7_splits_4
def C_X7_divisor_31 : List zCE := (31, 2, 0, .lload 4) :: (33, 1, 0, .lreturn) :: []
def C_X7_divisor_6 : List zCE := (6, 2, 0, .lload 6) :: (8, 1, 0, .lconst 0) :: (9, 1, 0, .lcmp) :: (10, 3, 31, .ifCond .eq 21) :: (13, 2, 0, .lload 4) :: (15, 2, 0, .lload 6) :: (17, 1, 0, .lrem) :: (18, 2, 0, .lstore 8) :: (20, 2, 0, .lload 6) :: (22, 2, 0, .lstore 4) :: (24, 2, 0, .lload 8) :: (26, 2, 0, .lstore 6) :: (28, 3, 6, .goto (-22)) :: C_X7_divisor_31
def C_X7_divisor_0 : List zCE := (0, 1, 0, .lload_n 0) :: (1, 2, 0, .lstore 4) :: (3, 1, 0, .lload_n 2) :: (4, 2, 0, .lstore 6) :: C_X7_divisor_6
def C_X7_lowest_10 : List zCE := (10, 1, 0, .lload_n 0) :: (11, 1, 0, .lload_n 2) :: (12, 3, 121, .invokestatic 79) :: (15, 1, 0, .ldiv) :: (16, 1, 0, .lreturn) :: []
def C_X7_lowest_9 : List zCE := (9, 1, 0, .lload_n 2) :: C_X7_lowest_10
def C_X7_lowest_0 : List zCE := (0, 2, 0, .iload 4) :: (2, 3, 9, .ifCond .ne 7) :: (5, 1, 0, .lload_n 0) :: (6, 3, 10, .goto 4) :: C_X7_lowest_9
def C_X7_splits__0 : List zCE := (0, 1, 0, .aload_n 0) :: (1, 3, 224, .getfield 11) :: (4, 2, 11, .bipush 11) :: (6, 1, 0, .iload_n 1) :: (7, 1, 0, .iadd) :: (8, 1, 0, .iload_n 2) :: (9, 1, 0, .iastore) :: (10, 1, 0, .aload_n 0) :: (11, 3, 224, .getfield 11) :: (14, 2, 17, .bipush 17) :: (16, 1, 0, .iload_n 1) :: (17, 1, 0, .iadd) :: (18, 1, 0, .lload_n 3) :: (19, 2, 0, .lload 5) :: (21, 1, 0, .iconst 0) :: (22, 3, 122, .invokestatic 83) :: (25, 1, 0, .l2i) :: (26, 1, 0, .iastore) :: (27, 1, 0, .aload_n 0) :: (28, 3, 224, .getfield 11) :: (31, 2, 23, .bipush 23) :: (33, 1, 0, .iload_n 1) :: (34, 1, 0, .iadd) :: (35, 1, 0, .lload_n 3) :: (36, 2, 0, .lload 5) :: (38, 1, 1, .iconst 1) :: (39, 3, 122, .invokestatic 83) :: (42, 1, 0, .l2i) :: (43, 1, 0, .iastore) :: (44, 1, 0, .return_) :: []
def C_X7_split_102 : List zCE := (102, 1, 0, .aload_n 0) :: (103, 1, 0, .iload_n 1) :: (104, 1, 0, .iload_n 2) :: (105, 1, 0, .iload_n 3) :: (106, 1, 0, .i2l) :: (107, 2, 0, .iload 4) :: (109, 1, 0, .i2l) :: (110, 3, 123, .invokevirtual 91) :: (113, 1, 0, .aload_n 0) :: (114, 3, 120, .invokevirtual 87) :: (117, 1, 0, .ireturn) :: []
def C_X7_split_79 : List zCE := (79, 1, 0, .aload_n 0) :: (80, 3, 120, .invokevirtual 87) :: (83, 3, 102, .ifCond .le 19) :: (86, 1, 0, .aload_n 0) :: (87, 3, 224, .getfield 11) :: (90, 2, 11, .bipush 11) :: (92, 1, 0, .iload_n 1) :: (93, 1, 0, .iadd) :: (94, 1, 0, .iaload) :: (95, 1, (-1), .iconst (-1)) :: (96, 3, 102, .if_icmp .ne 6) :: (99, 2, (-4), .bipush (-4)) :: (101, 1, 0, .ireturn) :: C_X7_split_102
def C_X7_split_76 : List zCE := (76, 2, (-3), .bipush (-3)) :: (78, 1, 0, .ireturn) :: C_X7_split_79
def C_X7_split_52 : List zCE := (52, 1, 0, .aload_n 0) :: (53, 3, 224, .getfield 11) :: (56, 1, 5, .iconst 5) :: (57, 1, 0, .iload_n 1) :: (58, 1, 0, .iadd) :: (59, 1, 0, .iaload) :: (60, 1, (-1), .iconst (-1)) :: (61, 3, 76, .if_icmp .eq 15) :: (64, 1, 0, .aload_n 0) :: (65, 3, 224, .getfield 11) :: (68, 1, 5, .iconst 5) :: (69, 1, 0, .iload_n 1) :: (70, 1, 0, .iadd) :: (71, 1, 0, .iaload) :: (72, 1, 0, .iload_n 2) :: (73, 3, 79, .if_icmp .ne 6) :: C_X7_split_76
def C_X7_split_49 : List zCE := (49, 2, (-2), .bipush (-2)) :: (51, 1, 0, .ireturn) :: C_X7_split_52
def C_X7_split_18 : List zCE := (18, 1, 0, .iload_n 3) :: (19, 1, 0, .i2l) :: (20, 1, 1, .lconst 1) :: (21, 3, 99, .ldc2_w 66) :: (24, 3, 105, .invokestatic 47) :: (27, 3, 49, .ifCond .eq 22) :: (30, 2, 0, .iload 4) :: (32, 1, 0, .i2l) :: (33, 1, 1, .lconst 1) :: (34, 3, 99, .ldc2_w 66) :: (37, 3, 105, .invokestatic 47) :: (40, 3, 49, .ifCond .eq 9) :: (43, 1, 0, .iload_n 3) :: (44, 2, 0, .iload 4) :: (46, 3, 52, .if_icmp .lt 6) :: C_X7_split_49
def C_X7_split_16 : List zCE := (16, 1, (-1), .iconst (-1)) :: (17, 1, 0, .ireturn) :: C_X7_split_18
def C_X7_split_0 : List zCE := (0, 1, 0, .aload_n 0) :: (1, 1, 0, .iload_n 1) :: (2, 3, 107, .invokevirtual 63) :: (5, 3, 16, .ifCond .eq 11) :: (8, 1, 0, .aload_n 0) :: (9, 1, 0, .iload_n 2) :: (10, 3, 106, .invokevirtual 51) :: (13, 3, 18, .ifCond .ne 5) :: C_X7_split_16
def C_X7_holder_34 : List zCE := (34, 1, 0, .iload_n 1) :: (35, 1, 0, .iadd) :: (36, 1, 0, .iaload) :: (37, 3, 118, .invokestatic 76) :: (40, 1, 0, .ireturn) :: []
def C_X7_holder_32 : List zCE := (32, 2, 11, .bipush 11) :: C_X7_holder_34
def C_X7_holder_20 : List zCE := (20, 1, 0, .aload_n 0) :: (21, 3, 224, .getfield 11) :: (24, 1, 0, .iload_n 2) :: (25, 3, 32, .ifCond .ne 7) :: (28, 1, 5, .iconst 5) :: (29, 3, 34, .goto 5) :: C_X7_holder_32
def C_X7_holder_18 : List zCE := (18, 1, (-1), .iconst (-1)) :: (19, 1, 0, .ireturn) :: C_X7_holder_20
def C_X7_holder_0 : List zCE := (0, 1, 0, .aload_n 0) :: (1, 1, 0, .iload_n 1) :: (2, 3, 107, .invokevirtual 63) :: (5, 3, 18, .ifCond .eq 13) :: (8, 1, 0, .iload_n 2) :: (9, 1, 0, .i2l) :: (10, 1, 0, .lconst 0) :: (11, 1, 1, .lconst 1) :: (12, 3, 105, .invokestatic 47) :: (15, 3, 20, .ifCond .ne 5) :: C_X7_holder_18
def C_X7_heldUp_58 : List zCE := (58, 1, 0, .ireturn) :: []
def C_X7_heldUp_57 : List zCE := (57, 1, 0, .iconst 0) :: C_X7_heldUp_58
def C_X7_heldUp_23 : List zCE := (23, 1, 0, .aload_n 0) :: (24, 3, 224, .getfield 11) :: (27, 1, 5, .iconst 5) :: (28, 1, 0, .iload_n 2) :: (29, 1, 0, .iadd) :: (30, 1, 0, .iaload) :: (31, 1, 0, .iload_n 1) :: (32, 3, 57, .if_icmp .ne 25) :: (35, 1, 0, .aload_n 0) :: (36, 3, 224, .getfield 11) :: (39, 2, 23, .bipush 23) :: (41, 1, 0, .iload_n 2) :: (42, 1, 0, .iadd) :: (43, 1, 0, .iaload) :: (44, 1, 0, .aload_n 0) :: (45, 3, 224, .getfield 11) :: (48, 2, 17, .bipush 17) :: (50, 1, 0, .iload_n 2) :: (51, 1, 0, .iadd) :: (52, 1, 0, .iaload) :: (53, 1, 0, .isub) :: (54, 3, 58, .goto 4) :: C_X7_heldUp_57
def C_X7_heldUp_0 : List zCE := (0, 1, 0, .aload_n 0) :: (1, 3, 224, .getfield 11) :: (4, 2, 11, .bipush 11) :: (6, 1, 0, .iload_n 2) :: (7, 1, 0, .iadd) :: (8, 1, 0, .iaload) :: (9, 1, 0, .iload_n 1) :: (10, 3, 23, .if_icmp .ne 13) :: (13, 1, 0, .aload_n 0) :: (14, 3, 224, .getfield 11) :: (17, 2, 17, .bipush 17) :: (19, 1, 0, .iload_n 2) :: (20, 1, 0, .iadd) :: (21, 1, 0, .iaload) :: (22, 1, 0, .ireturn) :: C_X7_heldUp_23
def C_X7_doesHold_14 : List zCE := (14, 1, 1, .ireturn) :: []
def C_X7_doesHold_13 : List zCE := (13, 1, 0, .iconst 0) :: C_X7_doesHold_14
def C_X7_doesHold_0 : List zCE := (0, 1, 0, .aload_n 0) :: (1, 1, 0, .iload_n 1) :: (2, 1, 0, .iload_n 2) :: (3, 3, 126, .invokevirtual 94) :: (6, 3, 13, .ifCond .le 7) :: (9, 1, 1, .iconst 1) :: (10, 3, 14, .goto 4) :: C_X7_doesHold_13
def C_X7_held_27 : List zCE := (27, 1, 0, .aload_n 0) :: (28, 1, 0, .iload_n 1) :: (29, 1, 0, .iload_n 2) :: (30, 3, 126, .invokevirtual 94) :: (33, 1, 0, .i2l) :: (34, 1, 0, .aload_n 0) :: (35, 3, 224, .getfield 11) :: (38, 2, 23, .bipush 23) :: (40, 1, 0, .iload_n 2) :: (41, 1, 0, .iadd) :: (42, 1, 0, .iaload) :: (43, 1, 0, .i2l) :: (44, 1, 0, .iload_n 3) :: (45, 3, 122, .invokestatic 83) :: (48, 1, 0, .lreturn) :: []
def C_X7_held_23 : List zCE := (23, 3, (-9223372036854775808), .ldc2_w 100) :: (26, 1, 0, .lreturn) :: C_X7_held_27
def C_X7_held_0 : List zCE := (0, 1, 0, .aload_n 0) :: (1, 1, 0, .iload_n 1) :: (2, 3, 106, .invokevirtual 51) :: (5, 3, 23, .ifCond .eq 18) :: (8, 1, 0, .aload_n 0) :: (9, 1, 0, .iload_n 2) :: (10, 3, 107, .invokevirtual 63) :: (13, 3, 23, .ifCond .eq 10) :: (16, 1, 0, .iload_n 3) :: (17, 3, 109, .invokestatic 97) :: (20, 3, 27, .ifCond .ne 7) :: C_X7_held_23
def C_X7_bitsOf_39 : List zCE := (39, 1, 0, .iload_n 2) :: (40, 1, 0, .ireturn) :: []
def C_X7_bitsOf_31 : List zCE := (31, 1, 0, .ior) :: (32, 1, 0, .istore_n 2) :: (33, 3, 0, .iinc 3 1) :: (36, 3, 4, .goto (-32)) :: C_X7_bitsOf_39
def C_X7_bitsOf_30 : List zCE := (30, 1, 0, .iconst 0) :: C_X7_bitsOf_31
def C_X7_bitsOf_4 : List zCE := (4, 1, 0, .iload_n 3) :: (5, 1, 0, .aload_n 0) :: (6, 3, 224, .getfield 11) :: (9, 1, 1, .iconst 1) :: (10, 1, 0, .iaload) :: (11, 3, 39, .if_icmp .ge 28) :: (14, 1, 0, .iload_n 2) :: (15, 1, 0, .aload_n 0) :: (16, 1, 0, .iload_n 1) :: (17, 1, 0, .iload_n 3) :: (18, 3, 127, .invokevirtual 102) :: (21, 3, 30, .ifCond .eq 9) :: (24, 1, 1, .iconst 1) :: (25, 1, 0, .iload_n 3) :: (26, 1, 0, .ishl) :: (27, 3, 31, .goto 4) :: C_X7_bitsOf_30
def C_X7_bitsOf_0 : List zCE := (0, 1, 0, .iconst 0) :: (1, 1, 0, .istore_n 2) :: (2, 1, 0, .iconst 0) :: (3, 1, 0, .istore_n 3) :: C_X7_bitsOf_4
def C_X7_lowOfAll_33 : List zCE := (33, 1, 0, .lload_n 1) :: (34, 1, 0, .lreturn) :: []
def C_X7_lowOfAll_4 : List zCE := (4, 1, 0, .iload_n 3) :: (5, 1, 0, .aload_n 0) :: (6, 3, 224, .getfield 11) :: (9, 1, 1, .iconst 1) :: (10, 1, 0, .iaload) :: (11, 3, 33, .if_icmp .ge 22) :: (14, 1, 0, .lload_n 1) :: (15, 1, 0, .aload_n 0) :: (16, 3, 224, .getfield 11) :: (19, 2, 23, .bipush 23) :: (21, 1, 0, .iload_n 3) :: (22, 1, 0, .iadd) :: (23, 1, 0, .iaload) :: (24, 1, 0, .i2l) :: (25, 1, 0, .lmul) :: (26, 1, 0, .lstore_n 1) :: (27, 3, 0, .iinc 3 1) :: (30, 3, 4, .goto (-26)) :: C_X7_lowOfAll_33
def C_X7_lowOfAll_0 : List zCE := (0, 1, 1, .lconst 1) :: (1, 1, 0, .lstore_n 1) :: (2, 1, 0, .iconst 0) :: (3, 1, 0, .istore_n 3) :: C_X7_lowOfAll_4
def C_X7_worth_64 : List zCE := (64, 2, 0, .lload 5) :: (66, 1, 0, .lreturn) :: []
def C_X7_worth_11 : List zCE := (11, 2, 0, .iload 7) :: (13, 1, 0, .aload_n 0) :: (14, 3, 224, .getfield 11) :: (17, 1, 1, .iconst 1) :: (18, 1, 0, .iaload) :: (19, 3, 64, .if_icmp .ge 45) :: (22, 2, 0, .lload 5) :: (24, 1, 0, .aload_n 0) :: (25, 1, 0, .iload_n 1) :: (26, 2, 0, .iload 7) :: (28, 3, 113, .invokevirtual 68) :: (31, 1, 0, .i2l) :: (32, 1, 0, .lload_n 3) :: (33, 1, 0, .aload_n 0) :: (34, 3, 224, .getfield 11) :: (37, 2, 23, .bipush 23) :: (39, 2, 0, .iload 7) :: (41, 1, 0, .iadd) :: (42, 1, 0, .iaload) :: (43, 1, 0, .i2l) :: (44, 1, 0, .ldiv) :: (45, 1, 0, .lmul) :: (46, 1, 0, .aload_n 0) :: (47, 1, 0, .iload_n 2) :: (48, 2, 0, .iload 7) :: (50, 3, 126, .invokevirtual 94) :: (53, 1, 0, .i2l) :: (54, 1, 0, .lmul) :: (55, 1, 0, .ladd) :: (56, 2, 0, .lstore 5) :: (58, 3, 0, .iinc 7 1) :: (61, 3, 11, .goto (-50)) :: C_X7_worth_64
def C_X7_worth_0 : List zCE := (0, 1, 0, .aload_n 0) :: (1, 3, 130, .invokevirtual 106) :: (4, 1, 0, .lstore_n 3) :: (5, 1, 0, .lconst 0) :: (6, 2, 0, .lstore 5) :: (8, 1, 0, .iconst 0) :: (9, 2, 0, .istore 7) :: C_X7_worth_11
def C_X7_share_60 : List zCE := (60, 1, 0, .lreturn) :: []
def C_X7_share_39 : List zCE := (39, 1, 0, .aload_n 0) :: (40, 1, 0, .iload_n 1) :: (41, 1, 0, .iload_n 2) :: (42, 3, 131, .invokevirtual 110) :: (45, 1, 0, .aload_n 0) :: (46, 1, 0, .iload_n 1) :: (47, 3, 116, .invokevirtual 72) :: (50, 1, 0, .i2l) :: (51, 1, 0, .aload_n 0) :: (52, 3, 130, .invokevirtual 106) :: (55, 1, 0, .lmul) :: (56, 1, 0, .iload_n 3) :: (57, 3, 122, .invokestatic 83) :: C_X7_share_60
def C_X7_share_27 : List zCE := (27, 1, 0, .aload_n 0) :: (28, 1, 0, .iload_n 1) :: (29, 3, 116, .invokevirtual 72) :: (32, 3, 39, .ifCond .ne 7) :: (35, 1, 1, .lconst 1) :: (36, 3, 60, .goto 24) :: C_X7_share_39
def C_X7_share_23 : List zCE := (23, 3, (-9223372036854775808), .ldc2_w 100) :: (26, 1, 0, .lreturn) :: C_X7_share_27
def C_X7_share_0 : List zCE := (0, 1, 0, .aload_n 0) :: (1, 1, 0, .iload_n 1) :: (2, 3, 106, .invokevirtual 51) :: (5, 3, 23, .ifCond .eq 18) :: (8, 1, 0, .aload_n 0) :: (9, 1, 0, .iload_n 2) :: (10, 3, 106, .invokevirtual 51) :: (13, 3, 23, .ifCond .eq 10) :: (16, 1, 0, .iload_n 3) :: (17, 3, 109, .invokestatic 97) :: (20, 3, 27, .ifCond .ne 7) :: C_X7_share_23
def C_X7_isWanting_26 : List zCE := (26, 1, 1, .ireturn) :: []
def C_X7_isWanting_25 : List zCE := (25, 1, 0, .iconst 0) :: C_X7_isWanting_26
def C_X7_isWanting_0 : List zCE := (0, 1, 0, .aload_n 0) :: (1, 1, 0, .iload_n 1) :: (2, 1, 0, .iload_n 2) :: (3, 3, 113, .invokevirtual 68) :: (6, 3, 25, .ifCond .le 19) :: (9, 1, 0, .aload_n 0) :: (10, 3, 224, .getfield 11) :: (13, 1, 5, .iconst 5) :: (14, 1, 0, .iload_n 2) :: (15, 1, 0, .iadd) :: (16, 1, 0, .iaload) :: (17, 1, (-1), .iconst (-1)) :: (18, 3, 25, .if_icmp .ne 7) :: (21, 1, 1, .iconst 1) :: (22, 3, 26, .goto 4) :: C_X7_isWanting_25
def C_X7_firstWanting_27 : List zCE := (27, 1, 0, .iload_n 2) :: (28, 1, 0, .ireturn) :: []
def C_X7_firstWanting_2 : List zCE := (2, 1, 0, .iload_n 2) :: (3, 1, 0, .aload_n 0) :: (4, 3, 224, .getfield 11) :: (7, 1, 1, .iconst 1) :: (8, 1, 0, .iaload) :: (9, 3, 27, .if_icmp .ge 18) :: (12, 1, 0, .aload_n 0) :: (13, 1, 0, .iload_n 1) :: (14, 1, 0, .iload_n 2) :: (15, 3, 133, .invokevirtual 114) :: (18, 3, 27, .ifCond .ne 9) :: (21, 3, 0, .iinc 2 1) :: (24, 3, 2, .goto (-22)) :: C_X7_firstWanting_27
def C_X7_firstWanting_0 : List zCE := (0, 1, 0, .iconst 0) :: (1, 1, 0, .istore_n 2) :: C_X7_firstWanting_2
def C_X7_envied_42 : List zCE := (42, 1, 0, .iload_n 2) :: (43, 1, 0, .ireturn) :: []
def C_X7_envied_36 : List zCE := (36, 3, 0, .iinc 2 1) :: (39, 3, 2, .goto (-37)) :: C_X7_envied_42
def C_X7_envied_2 : List zCE := (2, 1, 0, .iload_n 2) :: (3, 1, 0, .aload_n 0) :: (4, 3, 224, .getfield 11) :: (7, 1, 0, .iconst 0) :: (8, 1, 0, .iaload) :: (9, 3, 42, .if_icmp .ge 33) :: (12, 1, 0, .aload_n 0) :: (13, 1, 0, .iload_n 1) :: (14, 3, 116, .invokevirtual 72) :: (17, 3, 36, .ifCond .eq 19) :: (20, 1, 0, .aload_n 0) :: (21, 1, 0, .iload_n 1) :: (22, 1, 0, .iload_n 2) :: (23, 3, 131, .invokevirtual 110) :: (26, 1, 0, .aload_n 0) :: (27, 1, 0, .iload_n 1) :: (28, 1, 0, .iload_n 1) :: (29, 3, 131, .invokevirtual 110) :: (32, 1, 0, .lcmp) :: (33, 3, 42, .ifCond .gt 9) :: C_X7_envied_36
def C_X7_envied_0 : List zCE := (0, 1, 0, .iconst 0) :: (1, 1, 0, .istore_n 2) :: C_X7_envied_2
def C_X7_claimOf_76 : List zCE := (76, 1, 0, .ireturn) :: []
def C_X7_claimOf_75 : List zCE := (75, 1, 0, .iconst 0) :: C_X7_claimOf_76
def C_X7_claimOf_57 : List zCE := (57, 1, 0, .aload_n 0) :: (58, 1, 0, .iload_n 1) :: (59, 3, 135, .invokevirtual 120) :: (62, 1, 0, .aload_n 0) :: (63, 3, 224, .getfield 11) :: (66, 1, 0, .iconst 0) :: (67, 1, 0, .iaload) :: (68, 3, 75, .if_icmp .ge 7) :: (71, 1, 4, .iconst 4) :: (72, 3, 76, .goto 4) :: C_X7_claimOf_75
def C_X7_claimOf_26 : List zCE := (26, 1, 0, .aload_n 0) :: (27, 1, 0, .iload_n 1) :: (28, 1, 0, .iload_n 1) :: (29, 3, 131, .invokevirtual 110) :: (32, 1, 0, .aload_n 0) :: (33, 3, 224, .getfield 11) :: (36, 1, 0, .iconst 0) :: (37, 1, 0, .iaload) :: (38, 1, 0, .i2l) :: (39, 1, 0, .lmul) :: (40, 1, 0, .aload_n 0) :: (41, 1, 0, .iload_n 1) :: (42, 3, 116, .invokevirtual 72) :: (45, 1, 0, .i2l) :: (46, 1, 0, .aload_n 0) :: (47, 3, 130, .invokevirtual 106) :: (50, 1, 0, .lmul) :: (51, 1, 0, .lcmp) :: (52, 3, 57, .ifCond .ge 5) :: (55, 1, 3, .iconst 3) :: (56, 1, 0, .ireturn) :: C_X7_claimOf_57
def C_X7_claimOf_10 : List zCE := (10, 1, 0, .aload_n 0) :: (11, 1, 0, .iload_n 1) :: (12, 3, 134, .invokevirtual 117) :: (15, 1, 0, .aload_n 0) :: (16, 3, 224, .getfield 11) :: (19, 1, 1, .iconst 1) :: (20, 1, 0, .iaload) :: (21, 3, 26, .if_icmp .ge 5) :: (24, 1, 2, .iconst 2) :: (25, 1, 0, .ireturn) :: C_X7_claimOf_26
def C_X7_claimOf_0 : List zCE := (0, 1, 0, .aload_n 0) :: (1, 1, 0, .iload_n 1) :: (2, 3, 116, .invokevirtual 72) :: (5, 3, 10, .ifCond .ne 5) :: (8, 1, 1, .iconst 1) :: (9, 1, 0, .ireturn) :: C_X7_claimOf_10
def C_X7_ones_24 : List zCE := (24, 1, 0, .iload_n 2) :: (25, 1, 0, .ireturn) :: []
def C_X7_ones_4 : List zCE := (4, 1, 0, .iload_n 3) :: (5, 2, 6, .bipush 6) :: (7, 3, 24, .if_icmp .ge 17) :: (10, 1, 0, .iload_n 2) :: (11, 1, 0, .iload_n 1) :: (12, 1, 0, .iload_n 3) :: (13, 1, 0, .ishr) :: (14, 1, 1, .iconst 1) :: (15, 1, 0, .iand) :: (16, 1, 0, .iadd) :: (17, 1, 0, .istore_n 2) :: (18, 3, 0, .iinc 3 1) :: (21, 3, 4, .goto (-17)) :: C_X7_ones_24
def C_X7_ones_0 : List zCE := (0, 1, 0, .iconst 0) :: (1, 1, 0, .istore_n 2) :: (2, 1, 0, .iconst 0) :: (3, 1, 0, .istore_n 3) :: C_X7_ones_4
def C_X7_causeOf_69 : List zCE := (69, 2, (-5), .bipush (-5)) :: (71, 1, 0, .ireturn) :: []
def C_X7_causeOf_60 : List zCE := (60, 2, 10, .bipush 10) :: (62, 1, 0, .aload_n 0) :: (63, 1, 0, .iload_n 1) :: (64, 3, 135, .invokevirtual 120) :: (67, 1, 0, .iadd) :: (68, 1, 0, .ireturn) :: C_X7_causeOf_69
def C_X7_causeOf_54 : List zCE := (54, 1, 0, .aload_n 0) :: (55, 1, 0, .iload_n 1) :: (56, 3, 129, .invokevirtual 123) :: (59, 1, 0, .ireturn) :: C_X7_causeOf_60
def C_X7_causeOf_45 : List zCE := (45, 2, 10, .bipush 10) :: (47, 1, 0, .aload_n 0) :: (48, 1, 0, .iload_n 1) :: (49, 3, 134, .invokevirtual 117) :: (52, 1, 0, .iadd) :: (53, 1, 0, .ireturn) :: C_X7_causeOf_54
def C_X7_causeOf_32 : List zCE := (32, 2, 10, .bipush 10) :: (34, 1, 0, .aload_n 0) :: (35, 1, 0, .aload_n 0) :: (36, 1, 0, .iload_n 1) :: (37, 3, 129, .invokevirtual 123) :: (40, 3, 137, .invokevirtual 126) :: (43, 1, 0, .iadd) :: (44, 1, 0, .ireturn) :: C_X7_causeOf_45
def C_X7_causeOf_0 : List zCE := (0, 1, 0, .iload_n 2) :: (1, 31, 0, .tableswitch 68 1 4 #[31, 44, 53, 59]) :: C_X7_causeOf_32
def C_X7_claim_85 : List zCE := (85, 1, 0, .ireturn) :: []
def C_X7_claim_76 : List zCE := (76, 1, 0, .aload_n 0) :: (77, 1, 0, .aload_n 0) :: (78, 1, 0, .iload_n 1) :: (79, 3, 135, .invokevirtual 120) :: (82, 3, 129, .invokevirtual 123) :: C_X7_claim_85
def C_X7_claim_58 : List zCE := (58, 1, 0, .iload_n 3) :: (59, 1, 2, .iconst 2) :: (60, 3, 76, .if_icmp .ne 16) :: (63, 1, 0, .aload_n 0) :: (64, 1, 0, .iload_n 1) :: (65, 1, 0, .aload_n 0) :: (66, 1, 0, .iload_n 1) :: (67, 3, 134, .invokevirtual 117) :: (70, 3, 113, .invokevirtual 68) :: (73, 3, 85, .goto 12) :: C_X7_claim_76
def C_X7_claim_55 : List zCE := (55, 2, (-5), .bipush (-5)) :: (57, 1, 0, .ireturn) :: C_X7_claim_58
def C_X7_claim_40 : List zCE := (40, 1, 0, .iload_n 2) :: (41, 1, 2, .iconst 2) :: (42, 3, 55, .if_icmp .gt 13) :: (45, 1, 0, .iload_n 3) :: (46, 1, 2, .iconst 2) :: (47, 3, 58, .if_icmp .eq 11) :: (50, 1, 0, .iload_n 3) :: (51, 1, 4, .iconst 4) :: (52, 3, 58, .if_icmp .eq 6) :: C_X7_claim_55
def C_X7_claim_39 : List zCE := (39, 1, 0, .ireturn) :: C_X7_claim_40
def C_X7_claim_33 : List zCE := (33, 1, 0, .aload_n 0) :: (34, 1, 0, .iload_n 1) :: (35, 1, 0, .iload_n 3) :: (36, 3, 138, .invokevirtual 132) :: C_X7_claim_39
def C_X7_claim_14 : List zCE := (14, 1, 0, .aload_n 0) :: (15, 1, 0, .iload_n 1) :: (16, 3, 136, .invokevirtual 129) :: (19, 1, 0, .istore_n 3) :: (20, 1, 0, .iload_n 2) :: (21, 1, 2, .iconst 2) :: (22, 3, 40, .if_icmp .ge 18) :: (25, 1, 0, .iload_n 2) :: (26, 3, 33, .ifCond .ne 7) :: (29, 1, 0, .iload_n 3) :: (30, 3, 39, .goto 9) :: C_X7_claim_33
def C_X7_claim_12 : List zCE := (12, 1, (-1), .iconst (-1)) :: (13, 1, 0, .ireturn) :: C_X7_claim_14
def C_X7_claim_0 : List zCE := (0, 1, 0, .aload_n 0) :: (1, 1, 0, .iload_n 1) :: (2, 3, 106, .invokevirtual 51) :: (5, 3, 12, .ifCond .eq 7) :: (8, 1, 0, .iload_n 2) :: (9, 3, 14, .ifCond .ge 5) :: C_X7_claim_12
def C_X7_better_107 : List zCE := (107, 2, (-5), .bipush (-5)) :: (109, 1, 0, .ireturn) :: []
def C_X7_better_101 : List zCE := (101, 3, 0, .iinc 3 1) :: (104, 3, 13, .goto (-91)) :: C_X7_better_107
def C_X7_better_95 : List zCE := (95, 3, 0, .iinc 4 1) :: (98, 3, 26, .goto (-72)) :: C_X7_better_101
def C_X7_better_26 : List zCE := (26, 2, 0, .iload 4) :: (28, 1, 0, .aload_n 0) :: (29, 3, 224, .getfield 11) :: (32, 1, 1, .iconst 1) :: (33, 1, 0, .iaload) :: (34, 3, 101, .if_icmp .ge 67) :: (37, 1, 0, .aload_n 0) :: (38, 1, 0, .iload_n 1) :: (39, 1, 0, .iload_n 3) :: (40, 3, 127, .invokevirtual 102) :: (43, 3, 95, .ifCond .eq 52) :: (46, 1, 0, .aload_n 0) :: (47, 1, 0, .iload_n 2) :: (48, 2, 0, .iload 4) :: (50, 3, 127, .invokevirtual 102) :: (53, 3, 95, .ifCond .eq 42) :: (56, 1, 0, .aload_n 0) :: (57, 1, 0, .iload_n 1) :: (58, 1, 0, .iload_n 3) :: (59, 3, 113, .invokevirtual 68) :: (62, 1, 0, .aload_n 0) :: (63, 1, 0, .iload_n 2) :: (64, 2, 0, .iload 4) :: (66, 3, 113, .invokevirtual 68) :: (69, 1, 0, .imul) :: (70, 1, 0, .aload_n 0) :: (71, 1, 0, .iload_n 1) :: (72, 2, 0, .iload 4) :: (74, 3, 113, .invokevirtual 68) :: (77, 1, 0, .aload_n 0) :: (78, 1, 0, .iload_n 2) :: (79, 1, 0, .iload_n 3) :: (80, 3, 113, .invokevirtual 68) :: (83, 1, 0, .imul) :: (84, 3, 95, .if_icmp .ge 11) :: (87, 2, 10, .bipush 10) :: (89, 1, 0, .iload_n 3) :: (90, 1, 0, .imul) :: (91, 2, 0, .iload 4) :: (93, 1, 0, .iadd) :: (94, 1, 0, .ireturn) :: C_X7_better_95
def C_X7_better_13 : List zCE := (13, 1, 0, .iload_n 3) :: (14, 1, 0, .aload_n 0) :: (15, 3, 224, .getfield 11) :: (18, 1, 1, .iconst 1) :: (19, 1, 0, .iaload) :: (20, 3, 107, .if_icmp .ge 87) :: (23, 1, 0, .iconst 0) :: (24, 2, 0, .istore 4) :: C_X7_better_26
def C_X7_better_11 : List zCE := (11, 1, 0, .iconst 0) :: (12, 1, 0, .istore_n 3) :: C_X7_better_13
def C_X7_better_0 : List zCE := (0, 1, 0, .aload_n 0) :: (1, 1, 0, .iload_n 1) :: (2, 1, 0, .iload_n 2) :: (3, 3, 108, .invokevirtual 135) :: (6, 3, 11, .ifCond .ne 5) :: (9, 1, (-1), .iconst (-1)) :: (10, 1, 0, .ireturn) :: C_X7_better_11
def C_X7_envious_44 : List zCE := (44, 1, 0, .iload_n 1) :: (45, 1, 0, .ireturn) :: []
def C_X7_envious_36 : List zCE := (36, 1, 0, .ior) :: (37, 1, 0, .istore_n 1) :: (38, 3, 0, .iinc 2 1) :: (41, 3, 4, .goto (-37)) :: C_X7_envious_44
def C_X7_envious_35 : List zCE := (35, 1, 0, .iconst 0) :: C_X7_envious_36
def C_X7_envious_4 : List zCE := (4, 1, 0, .iload_n 2) :: (5, 1, 0, .aload_n 0) :: (6, 3, 224, .getfield 11) :: (9, 1, 0, .iconst 0) :: (10, 1, 0, .iaload) :: (11, 3, 44, .if_icmp .ge 33) :: (14, 1, 0, .iload_n 1) :: (15, 1, 0, .aload_n 0) :: (16, 1, 0, .iload_n 2) :: (17, 3, 135, .invokevirtual 120) :: (20, 1, 0, .aload_n 0) :: (21, 3, 224, .getfield 11) :: (24, 1, 0, .iconst 0) :: (25, 1, 0, .iaload) :: (26, 3, 35, .if_icmp .ge 9) :: (29, 1, 1, .iconst 1) :: (30, 1, 0, .iload_n 2) :: (31, 1, 0, .ishl) :: (32, 3, 36, .goto 4) :: C_X7_envious_35
def C_X7_envious_0 : List zCE := (0, 1, 0, .iconst 0) :: (1, 1, 0, .istore_n 1) :: (2, 1, 0, .iconst 0) :: (3, 1, 0, .istore_n 2) :: C_X7_envious_4
def C_X7_aheadBy_45 : List zCE := (45, 2, 0, .iload 4) :: (47, 1, 0, .ireturn) :: []
def C_X7_aheadBy_36 : List zCE := (36, 1, 0, .iadd) :: (37, 2, 0, .istore 4) :: (39, 3, 0, .iinc 5 1) :: (42, 3, 6, .goto (-36)) :: C_X7_aheadBy_45
def C_X7_aheadBy_35 : List zCE := (35, 1, 0, .iconst 0) :: C_X7_aheadBy_36
def C_X7_aheadBy_6 : List zCE := (6, 2, 0, .iload 5) :: (8, 1, 0, .aload_n 0) :: (9, 3, 224, .getfield 11) :: (12, 1, 1, .iconst 1) :: (13, 1, 0, .iaload) :: (14, 3, 45, .if_icmp .ge 31) :: (17, 2, 0, .iload 4) :: (19, 1, 0, .aload_n 0) :: (20, 1, 0, .iload_n 1) :: (21, 1, 0, .iload_n 2) :: (22, 2, 0, .iload 5) :: (24, 1, 0, .iload_n 3) :: (25, 3, 143, .invokevirtual 138) :: (28, 3, 35, .ifCond .eq 7) :: (31, 1, 1, .iconst 1) :: (32, 3, 36, .goto 4) :: C_X7_aheadBy_35
def C_X7_aheadBy_0 : List zCE := (0, 1, 0, .iconst 0) :: (1, 2, 0, .istore 4) :: (3, 1, 0, .iconst 0) :: (4, 2, 0, .istore 5) :: C_X7_aheadBy_6
def C_X7_isAhead_97 : List zCE := (97, 1, 1, .ireturn) :: []
def C_X7_isAhead_96 : List zCE := (96, 1, 0, .iconst 0) :: C_X7_isAhead_97
def C_X7_isAhead_92 : List zCE := (92, 1, 1, .iconst 1) :: (93, 3, 97, .goto 4) :: C_X7_isAhead_96
def C_X7_isAhead_49 : List zCE := (49, 1, 0, .aload_n 0) :: (50, 1, 0, .iload_n 1) :: (51, 1, 0, .iload_n 3) :: (52, 3, 113, .invokevirtual 68) :: (55, 2, 0, .iload 6) :: (57, 1, 0, .imul) :: (58, 2, 0, .istore 7) :: (60, 1, 0, .aload_n 0) :: (61, 1, 0, .iload_n 1) :: (62, 2, 0, .iload 4) :: (64, 3, 113, .invokevirtual 68) :: (67, 2, 0, .iload 5) :: (69, 1, 0, .imul) :: (70, 2, 0, .istore 8) :: (72, 2, 0, .iload 7) :: (74, 2, 0, .iload 8) :: (76, 3, 92, .if_icmp .lt 16) :: (79, 2, 0, .iload 7) :: (81, 2, 0, .iload 8) :: (83, 3, 96, .if_icmp .ne 13) :: (86, 1, 0, .iload_n 3) :: (87, 2, 0, .iload 4) :: (89, 3, 96, .if_icmp .ge 7) :: C_X7_isAhead_92
def C_X7_isAhead_48 : List zCE := (48, 1, 1, .ireturn) :: C_X7_isAhead_49
def C_X7_isAhead_47 : List zCE := (47, 1, 0, .iconst 0) :: C_X7_isAhead_48
def C_X7_isAhead_43 : List zCE := (43, 1, 1, .iconst 1) :: (44, 3, 48, .goto 4) :: C_X7_isAhead_47
def C_X7_isAhead_27 : List zCE := (27, 2, 0, .iload 5) :: (29, 3, 43, .ifCond .gt 14) :: (32, 2, 0, .iload 6) :: (34, 3, 47, .ifCond .ne 13) :: (37, 1, 0, .iload_n 3) :: (38, 2, 0, .iload 4) :: (40, 3, 47, .if_icmp .ge 7) :: C_X7_isAhead_43
def C_X7_isAhead_0 : List zCE := (0, 1, 0, .aload_n 0) :: (1, 1, 0, .iload_n 2) :: (2, 1, 0, .iload_n 3) :: (3, 3, 113, .invokevirtual 68) :: (6, 2, 0, .istore 5) :: (8, 1, 0, .aload_n 0) :: (9, 1, 0, .iload_n 2) :: (10, 2, 0, .iload 4) :: (12, 3, 113, .invokevirtual 68) :: (15, 2, 0, .istore 6) :: (17, 2, 0, .iload 5) :: (19, 3, 27, .ifCond .eq 8) :: (22, 2, 0, .iload 6) :: (24, 3, 49, .ifCond .ne 25) :: C_X7_isAhead_27
def C_X7_byRatio_21 : List zCE := (21, 2, 0, .iload 4) :: (23, 1, 0, .ireturn) :: []
def C_X7_byRatio_3 : List zCE := (3, 1, 0, .aload_n 0) :: (4, 1, 0, .iload_n 1) :: (5, 1, 0, .iload_n 2) :: (6, 2, 0, .iload 4) :: (8, 3, 142, .invokevirtual 142) :: (11, 1, 0, .iload_n 3) :: (12, 3, 21, .if_icmp .eq 9) :: (15, 3, 0, .iinc 4 1) :: (18, 3, 3, .goto (-15)) :: C_X7_byRatio_21
def C_X7_byRatio_0 : List zCE := (0, 1, 0, .iconst 0) :: (1, 2, 0, .istore 4) :: C_X7_byRatio_3
def C_X7_ratio_28 : List zCE := (28, 1, 0, .ireturn) :: []
def C_X7_ratio_27 : List zCE := (27, 1, (-1), .iconst (-1)) :: C_X7_ratio_28
def C_X7_ratio_0 : List zCE := (0, 1, 0, .aload_n 0) :: (1, 1, 0, .iload_n 1) :: (2, 1, 0, .iload_n 2) :: (3, 3, 108, .invokevirtual 135) :: (6, 3, 27, .ifCond .eq 21) :: (9, 1, 0, .aload_n 0) :: (10, 1, 0, .iload_n 3) :: (11, 3, 107, .invokevirtual 63) :: (14, 3, 27, .ifCond .eq 13) :: (17, 1, 0, .aload_n 0) :: (18, 1, 0, .iload_n 1) :: (19, 1, 0, .iload_n 2) :: (20, 1, 0, .iload_n 3) :: (21, 3, 144, .invokevirtual 146) :: (24, 3, 28, .goto 4) :: C_X7_ratio_27
def C_X7_sumOf_47 : List zCE := (47, 1, 0, .iload_n 3) :: (48, 1, 0, .ireturn) :: []
def C_X7_sumOf_39 : List zCE := (39, 1, 0, .iadd) :: (40, 1, 0, .istore_n 3) :: (41, 3, 0, .iinc 4 1) :: (44, 3, 5, .goto (-39)) :: C_X7_sumOf_47
def C_X7_sumOf_38 : List zCE := (38, 1, 0, .iconst 0) :: C_X7_sumOf_39
def C_X7_sumOf_5 : List zCE := (5, 2, 0, .iload 4) :: (7, 1, 0, .aload_n 0) :: (8, 3, 224, .getfield 11) :: (11, 1, 1, .iconst 1) :: (12, 1, 0, .iaload) :: (13, 3, 47, .if_icmp .ge 34) :: (16, 1, 0, .iload_n 3) :: (17, 1, 0, .aload_n 0) :: (18, 3, 228, .getfield 21) :: (21, 2, 0, .iload 4) :: (23, 1, 0, .baload) :: (24, 1, 0, .iload_n 2) :: (25, 3, 38, .if_icmp .ne 13) :: (28, 1, 0, .aload_n 0) :: (29, 1, 0, .iload_n 1) :: (30, 2, 0, .iload 4) :: (32, 3, 113, .invokevirtual 68) :: (35, 3, 39, .goto 4) :: C_X7_sumOf_38
def C_X7_sumOf_0 : List zCE := (0, 1, 0, .iconst 0) :: (1, 1, 0, .istore_n 3) :: (2, 1, 0, .iconst 0) :: (3, 2, 0, .istore 4) :: C_X7_sumOf_5
def C_X7_moreOf_23 : List zCE := (23, 3, 146, .invokevirtual 149) :: (26, 1, 0, .aload_n 0) :: (27, 1, 0, .iload_n 1) :: (28, 3, 116, .invokevirtual 72) :: (31, 1, 0, .imul) :: (32, 1, 0, .isub) :: (33, 1, 0, .ireturn) :: []
def C_X7_moreOf_22 : List zCE := (22, 1, 0, .iconst 0) :: C_X7_moreOf_23
def C_X7_moreOf_0 : List zCE := (0, 1, 0, .aload_n 0) :: (1, 1, 0, .iload_n 1) :: (2, 1, 0, .iload_n 3) :: (3, 3, 146, .invokevirtual 149) :: (6, 1, 0, .aload_n 0) :: (7, 1, 0, .iload_n 2) :: (8, 3, 116, .invokevirtual 72) :: (11, 1, 0, .imul) :: (12, 1, 0, .aload_n 0) :: (13, 1, 0, .iload_n 2) :: (14, 1, 0, .iload_n 3) :: (15, 3, 22, .ifCond .ne 7) :: (18, 1, 1, .iconst 1) :: (19, 3, 23, .goto 4) :: C_X7_moreOf_22
def C_X7_adjusts_157 : List zCE := (157, 1, 1, .iconst 1) :: (158, 1, 1, .ireturn) :: []
def C_X7_adjusts_154 : List zCE := (154, 3, 149, .invokevirtual 177) :: C_X7_adjusts_157
def C_X7_adjusts_153 : List zCE := (153, 1, 0, .iconst 0) :: C_X7_adjusts_154
def C_X7_adjusts_133 : List zCE := (133, 3, 234, .putfield 174) :: (136, 1, 0, .iload_n 3) :: (137, 3, 157, .ifCond .eq 20) :: (140, 1, 0, .aload_n 0) :: (141, 1, 0, .aload_n 0) :: (142, 3, 233, .getfield 171) :: (145, 1, 0, .iload_n 1) :: (146, 3, 153, .if_icmp .ne 7) :: (149, 1, 1, .iconst 1) :: (150, 3, 154, .goto 4) :: C_X7_adjusts_153
def C_X7_adjusts_132 : List zCE := (132, 1, 0, .iload_n 1) :: C_X7_adjusts_133
def C_X7_adjusts_120 : List zCE := (120, 3, 233, .putfield 171) :: (123, 1, 0, .aload_n 0) :: (124, 1, 0, .iload_n 3) :: (125, 3, 132, .ifCond .le 7) :: (128, 1, 0, .iload_n 2) :: (129, 3, 133, .goto 4) :: C_X7_adjusts_132
def C_X7_adjusts_119 : List zCE := (119, 1, (-1), .iconst (-1)) :: C_X7_adjusts_120
def C_X7_adjusts_111 : List zCE := (111, 1, 0, .iload_n 3) :: (112, 3, 119, .ifCond .ge 7) :: (115, 1, 0, .iload_n 2) :: (116, 3, 120, .goto 4) :: C_X7_adjusts_119
def C_X7_adjusts_74 : List zCE := (74, 1, 0, .aload_n 0) :: (75, 1, (-1), .iconst (-1)) :: (76, 3, 229, .putfield 153) :: (79, 1, 0, .aload_n 0) :: (80, 1, 0, .lconst 0) :: (81, 3, 230, .putfield 157) :: (84, 1, 0, .aload_n 0) :: (85, 1, 1, .lconst 1) :: (86, 3, 231, .putfield 161) :: (89, 1, 0, .aload_n 0) :: (90, 1, 0, .iconst 0) :: (91, 3, 232, .putfield 164) :: (94, 1, 0, .aload_n 0) :: (95, 1, 0, .iload_n 1) :: (96, 1, 0, .iload_n 2) :: (97, 1, 1, .iconst 1) :: (98, 3, 147, .invokevirtual 167) :: (101, 1, 0, .istore_n 3) :: (102, 1, 0, .aload_n 0) :: (103, 1, 0, .iload_n 3) :: (104, 3, 111, .ifCond .le 7) :: (107, 1, 0, .iload_n 1) :: (108, 3, 120, .goto 12) :: C_X7_adjusts_111
def C_X7_adjusts_67 : List zCE := (67, 1, 0, .bastore) :: (68, 3, 0, .iinc 3 1) :: (71, 3, 20, .goto (-51)) :: C_X7_adjusts_74
def C_X7_adjusts_66 : List zCE := (66, 1, 0, .iconst 0) :: C_X7_adjusts_67
def C_X7_adjusts_20 : List zCE := (20, 1, 0, .iload_n 3) :: (21, 1, 0, .aload_n 0) :: (22, 3, 224, .getfield 11) :: (25, 1, 1, .iconst 1) :: (26, 1, 0, .iaload) :: (27, 3, 74, .if_icmp .ge 47) :: (30, 1, 0, .aload_n 0) :: (31, 3, 228, .getfield 21) :: (34, 1, 0, .iload_n 3) :: (35, 1, 0, .aload_n 0) :: (36, 1, 0, .iload_n 1) :: (37, 1, 0, .iload_n 3) :: (38, 3, 113, .invokevirtual 68) :: (41, 1, 0, .aload_n 0) :: (42, 1, 0, .iload_n 2) :: (43, 3, 116, .invokevirtual 72) :: (46, 1, 0, .imul) :: (47, 1, 0, .aload_n 0) :: (48, 1, 0, .iload_n 2) :: (49, 1, 0, .iload_n 3) :: (50, 3, 113, .invokevirtual 68) :: (53, 1, 0, .aload_n 0) :: (54, 1, 0, .iload_n 1) :: (55, 3, 116, .invokevirtual 72) :: (58, 1, 0, .imul) :: (59, 3, 66, .if_icmp .lt 7) :: (62, 1, 1, .iconst 1) :: (63, 3, 67, .goto 4) :: C_X7_adjusts_66
def C_X7_adjusts_18 : List zCE := (18, 1, 0, .iconst 0) :: (19, 1, 0, .istore_n 3) :: C_X7_adjusts_20
def C_X7_adjusts_16 : List zCE := (16, 1, 0, .iconst 0) :: (17, 1, 1, .ireturn) :: C_X7_adjusts_18
def C_X7_adjusts_0 : List zCE := (0, 1, 0, .aload_n 0) :: (1, 1, 0, .iload_n 1) :: (2, 3, 116, .invokevirtual 72) :: (5, 3, 16, .ifCond .eq 11) :: (8, 1, 0, .aload_n 0) :: (9, 1, 0, .iload_n 2) :: (10, 3, 116, .invokevirtual 72) :: (13, 3, 18, .ifCond .ne 5) :: C_X7_adjusts_16
def C_X7_movesAll_159 : List zCE := (159, 1, 0, .return_) :: []
def C_X7_movesAll_153 : List zCE := (153, 3, 0, .iinc 4 1) :: (156, 3, 13, .goto (-143)) :: C_X7_movesAll_159
def C_X7_movesAll_143 : List zCE := (143, 1, 0, .aload_n 0) :: (144, 1, 0, .dup) :: (145, 3, 232, .getfield 164) :: (148, 1, 1, .iconst 1) :: (149, 1, 0, .iadd) :: (150, 3, 232, .putfield 164) :: C_X7_movesAll_153
def C_X7_movesAll_78 : List zCE := (78, 1, 0, .bastore) :: (79, 1, 0, .aload_n 0) :: (80, 1, 0, .iload_n 2) :: (81, 1, 0, .iload_n 3) :: (82, 1, 0, .iload_n 1) :: (83, 3, 147, .invokevirtual 167) :: (86, 3, 143, .ifCond .ge 57) :: (89, 1, 0, .aload_n 0) :: (90, 3, 228, .getfield 21) :: (93, 2, 0, .iload 5) :: (95, 1, 0, .iload_n 1) :: (96, 1, 0, .bastore) :: (97, 1, 0, .aload_n 0) :: (98, 2, 0, .iload 5) :: (100, 3, 229, .putfield 153) :: (103, 1, 0, .aload_n 0) :: (104, 2, 0, .iload 6) :: (106, 1, 0, .i2l) :: (107, 3, 230, .putfield 157) :: (110, 1, 0, .aload_n 0) :: (111, 1, 0, .aload_n 0) :: (112, 1, 0, .iload_n 2) :: (113, 2, 0, .iload 5) :: (115, 3, 113, .invokevirtual 68) :: (118, 1, 0, .aload_n 0) :: (119, 1, 0, .iload_n 3) :: (120, 3, 116, .invokevirtual 72) :: (123, 1, 0, .imul) :: (124, 1, 0, .aload_n 0) :: (125, 1, 0, .iload_n 3) :: (126, 2, 0, .iload 5) :: (128, 3, 113, .invokevirtual 68) :: (131, 1, 0, .aload_n 0) :: (132, 1, 0, .iload_n 2) :: (133, 3, 116, .invokevirtual 72) :: (136, 1, 0, .imul) :: (137, 1, 0, .iadd) :: (138, 1, 0, .i2l) :: (139, 3, 231, .putfield 161) :: (142, 1, 0, .return_) :: C_X7_movesAll_143
def C_X7_movesAll_77 : List zCE := (77, 1, 0, .iconst 0) :: C_X7_movesAll_78
def C_X7_movesAll_63 : List zCE := (63, 1, 0, .aload_n 0) :: (64, 3, 228, .getfield 21) :: (67, 2, 0, .iload 5) :: (69, 1, 0, .iload_n 1) :: (70, 3, 77, .ifCond .ne 7) :: (73, 1, 1, .iconst 1) :: (74, 3, 78, .goto 4) :: C_X7_movesAll_77
def C_X7_movesAll_48 : List zCE := (48, 1, 0, .aload_n 0) :: (49, 1, 0, .iload_n 2) :: (50, 1, 0, .iload_n 3) :: (51, 1, 0, .iload_n 1) :: (52, 3, 147, .invokevirtual 167) :: (55, 2, 0, .istore 6) :: (57, 2, 0, .iload 6) :: (59, 3, 63, .ifCond .ne 4) :: (62, 1, 0, .return_) :: C_X7_movesAll_63
def C_X7_movesAll_13 : List zCE := (13, 2, 0, .iload 4) :: (15, 1, 0, .aload_n 0) :: (16, 3, 224, .getfield 11) :: (19, 1, 1, .iconst 1) :: (20, 1, 0, .iaload) :: (21, 3, 159, .if_icmp .ge 138) :: (24, 1, 0, .aload_n 0) :: (25, 1, 0, .iload_n 2) :: (26, 1, 0, .iload_n 3) :: (27, 2, 0, .iload 4) :: (29, 3, 144, .invokevirtual 146) :: (32, 2, 0, .istore 5) :: (34, 1, 0, .aload_n 0) :: (35, 3, 228, .getfield 21) :: (38, 2, 0, .iload 5) :: (40, 1, 0, .baload) :: (41, 1, 0, .iload_n 1) :: (42, 3, 48, .if_icmp .eq 6) :: (45, 3, 153, .goto 108) :: C_X7_movesAll_48
def C_X7_movesAll_0 : List zCE := (0, 1, 0, .aload_n 0) :: (1, 3, 233, .getfield 171) :: (4, 1, 0, .istore_n 2) :: (5, 1, 0, .aload_n 0) :: (6, 3, 234, .getfield 174) :: (9, 1, 0, .istore_n 3) :: (10, 1, 0, .iconst 0) :: (11, 2, 0, .istore 4) :: C_X7_movesAll_13
def C_X7_doesHoldSo_23 : List zCE := (23, 1, 1, .ireturn) :: []
def C_X7_doesHoldSo_22 : List zCE := (22, 1, 0, .iconst 0) :: C_X7_doesHoldSo_23
def C_X7_doesHoldSo_18 : List zCE := (18, 1, 1, .iconst 1) :: (19, 3, 23, .goto 4) :: C_X7_doesHoldSo_22
def C_X7_doesHoldSo_0 : List zCE := (0, 1, 0, .aload_n 0) :: (1, 3, 228, .getfield 21) :: (4, 1, 0, .iload_n 2) :: (5, 1, 0, .baload) :: (6, 1, 0, .iload_n 1) :: (7, 3, 18, .if_icmp .eq 11) :: (10, 1, 0, .aload_n 0) :: (11, 3, 229, .getfield 153) :: (14, 1, 0, .iload_n 2) :: (15, 3, 22, .if_icmp .ne 7) :: C_X7_doesHoldSo_18
def C_X7_bitsSo_39 : List zCE := (39, 1, 0, .iload_n 2) :: (40, 1, 0, .ireturn) :: []
def C_X7_bitsSo_31 : List zCE := (31, 1, 0, .ior) :: (32, 1, 0, .istore_n 2) :: (33, 3, 0, .iinc 3 1) :: (36, 3, 4, .goto (-32)) :: C_X7_bitsSo_39
def C_X7_bitsSo_30 : List zCE := (30, 1, 0, .iconst 0) :: C_X7_bitsSo_31
def C_X7_bitsSo_4 : List zCE := (4, 1, 0, .iload_n 3) :: (5, 1, 0, .aload_n 0) :: (6, 3, 224, .getfield 11) :: (9, 1, 1, .iconst 1) :: (10, 1, 0, .iaload) :: (11, 3, 39, .if_icmp .ge 28) :: (14, 1, 0, .iload_n 2) :: (15, 1, 0, .aload_n 0) :: (16, 1, 0, .iload_n 1) :: (17, 1, 0, .iload_n 3) :: (18, 3, 150, .invokevirtual 181) :: (21, 3, 30, .ifCond .eq 9) :: (24, 1, 1, .iconst 1) :: (25, 1, 0, .iload_n 3) :: (26, 1, 0, .ishl) :: (27, 3, 31, .goto 4) :: C_X7_bitsSo_30
def C_X7_bitsSo_0 : List zCE := (0, 1, 0, .iconst 0) :: (1, 1, 0, .istore_n 2) :: (2, 1, 0, .iconst 0) :: (3, 1, 0, .istore_n 3) :: C_X7_bitsSo_4
def C_X7_adjusted_96 : List zCE := (96, 1, 0, .aload_n 0) :: (97, 3, 233, .getfield 171) :: (100, 3, 118, .invokestatic 76) :: (103, 1, 0, .ireturn) :: []
def C_X7_adjusted_91 : List zCE := (91, 1, 0, .aload_n 0) :: (92, 3, 232, .getfield 164) :: (95, 1, 0, .ireturn) :: C_X7_adjusted_96
def C_X7_adjusted_87 : List zCE := (87, 3, 151, .invokevirtual 188) :: (90, 1, 0, .ireturn) :: C_X7_adjusted_91
def C_X7_adjusted_86 : List zCE := (86, 1, 0, .iconst 0) :: C_X7_adjusted_87
def C_X7_adjusted_76 : List zCE := (76, 1, 0, .aload_n 0) :: (77, 1, 0, .iload_n 3) :: (78, 1, 1, .iconst 1) :: (79, 3, 86, .if_icmp .ne 7) :: (82, 1, 1, .iconst 1) :: (83, 3, 87, .goto 4) :: C_X7_adjusted_86
def C_X7_adjusted_68 : List zCE := (68, 1, 0, .aload_n 0) :: (69, 3, 229, .getfield 153) :: (72, 3, 118, .invokestatic 76) :: (75, 1, 0, .ireturn) :: C_X7_adjusted_76
def C_X7_adjusted_35 : List zCE := (35, 1, 0, .iload_n 3) :: (36, 32, 0, .tableswitch 60 0 3 #[32, 40, 40, 55]) :: C_X7_adjusted_68
def C_X7_adjusted_23 : List zCE := (23, 1, 0, .aload_n 0) :: (24, 1, 0, .iload_n 1) :: (25, 1, 0, .iload_n 2) :: (26, 3, 148, .invokevirtual 185) :: (29, 3, 35, .ifCond .ne 6) :: (32, 2, (-3), .bipush (-3)) :: (34, 1, 0, .ireturn) :: C_X7_adjusted_35
def C_X7_adjusted_21 : List zCE := (21, 1, (-1), .iconst (-1)) :: (22, 1, 0, .ireturn) :: C_X7_adjusted_23
def C_X7_adjusted_0 : List zCE := (0, 1, 0, .aload_n 0) :: (1, 1, 0, .iload_n 1) :: (2, 1, 0, .iload_n 2) :: (3, 3, 108, .invokevirtual 135) :: (6, 3, 21, .ifCond .eq 15) :: (9, 1, 0, .iload_n 3) :: (10, 1, 0, .i2l) :: (11, 1, 0, .lconst 0) :: (12, 3, 4, .ldc2_w 57) :: (15, 3, 105, .invokestatic 47) :: (18, 3, 23, .ifCond .ne 5) :: C_X7_adjusted_21
def C_X7_alikeOf_66 : List zCE := (66, 1, 0, .lload_n 3) :: (67, 1, 0, .aload_n 0) :: (68, 1, 0, .iload_n 1) :: (69, 3, 116, .invokevirtual 72) :: (72, 1, 0, .i2l) :: (73, 1, 0, .aload_n 0) :: (74, 3, 231, .getfield 161) :: (77, 1, 0, .lmul) :: (78, 1, 0, .iload_n 2) :: (79, 3, 122, .invokestatic 83) :: (82, 1, 0, .lreturn) :: []
def C_X7_alikeOf_64 : List zCE := (64, 1, 0, .ladd) :: (65, 1, 0, .lstore_n 3) :: C_X7_alikeOf_66
def C_X7_alikeOf_49 : List zCE := (49, 1, 0, .aload_n 0) :: (50, 1, 0, .iload_n 1) :: (51, 1, 0, .aload_n 0) :: (52, 3, 229, .getfield 153) :: (55, 3, 113, .invokevirtual 68) :: (58, 1, 0, .i2l) :: (59, 1, 0, .aload_n 0) :: (60, 3, 230, .getfield 157) :: (63, 1, 0, .lmul) :: C_X7_alikeOf_64
def C_X7_alikeOf_0 : List zCE := (0, 1, 0, .aload_n 0) :: (1, 1, 0, .iload_n 1) :: (2, 1, 1, .iconst 1) :: (3, 3, 146, .invokevirtual 149) :: (6, 1, 0, .i2l) :: (7, 1, 0, .aload_n 0) :: (8, 3, 231, .getfield 161) :: (11, 1, 0, .lmul) :: (12, 1, 0, .lstore_n 3) :: (13, 1, 0, .aload_n 0) :: (14, 3, 229, .getfield 153) :: (17, 1, (-1), .iconst (-1)) :: (18, 3, 66, .if_icmp .eq 48) :: (21, 1, 0, .lload_n 3) :: (22, 1, 0, .aload_n 0) :: (23, 3, 233, .getfield 171) :: (26, 1, 0, .iload_n 1) :: (27, 3, 49, .if_icmp .ne 22) :: (30, 1, 0, .aload_n 0) :: (31, 1, 0, .iload_n 1) :: (32, 1, 0, .aload_n 0) :: (33, 3, 229, .getfield 153) :: (36, 3, 113, .invokevirtual 68) :: (39, 1, 0, .ineg) :: (40, 1, 0, .i2l) :: (41, 1, 0, .aload_n 0) :: (42, 3, 230, .getfield 157) :: (45, 1, 0, .lmul) :: (46, 3, 64, .goto 18) :: C_X7_alikeOf_49
def C_X7_alike_37 : List zCE := (37, 1, 0, .lreturn) :: []
def C_X7_alike_34 : List zCE := (34, 3, (-9223372036854775808), .ldc2_w 100) :: C_X7_alike_37
def C_X7_alike_0 : List zCE := (0, 1, 0, .aload_n 0) :: (1, 1, 0, .iload_n 1) :: (2, 1, 0, .iload_n 2) :: (3, 3, 108, .invokevirtual 135) :: (6, 3, 34, .ifCond .eq 28) :: (9, 1, 0, .iload_n 3) :: (10, 3, 109, .invokestatic 97) :: (13, 3, 34, .ifCond .eq 21) :: (16, 1, 0, .aload_n 0) :: (17, 1, 0, .iload_n 1) :: (18, 1, 0, .iload_n 2) :: (19, 3, 148, .invokevirtual 185) :: (22, 3, 34, .ifCond .eq 12) :: (25, 1, 0, .aload_n 0) :: (26, 1, 0, .iload_n 1) :: (27, 1, 0, .iload_n 3) :: (28, 3, 153, .invokevirtual 192) :: (31, 3, 37, .goto 6) :: C_X7_alike_34
def C_X7_parted_43 : List zCE := (43, 1, 0, .lreturn) :: []
def C_X7_parted_40 : List zCE := (40, 3, (-9223372036854775808), .ldc2_w 100) :: C_X7_parted_43
def C_X7_parted_0 : List zCE := (0, 1, 0, .aload_n 0) :: (1, 1, 0, .iload_n 1) :: (2, 1, 0, .iload_n 2) :: (3, 3, 108, .invokevirtual 135) :: (6, 3, 40, .ifCond .eq 34) :: (9, 1, 0, .iload_n 3) :: (10, 3, 109, .invokestatic 97) :: (13, 3, 40, .ifCond .eq 27) :: (16, 1, 0, .aload_n 0) :: (17, 1, 0, .iload_n 1) :: (18, 1, 0, .iload_n 2) :: (19, 3, 148, .invokevirtual 185) :: (22, 3, 40, .ifCond .eq 18) :: (25, 1, 0, .aload_n 0) :: (26, 3, 230, .getfield 157) :: (29, 1, 0, .aload_n 0) :: (30, 3, 231, .getfield 161) :: (33, 1, 0, .iload_n 3) :: (34, 3, 122, .invokestatic 83) :: (37, 3, 43, .goto 6) :: C_X7_parted_40
def C_X7_settle_88 : List zCE := (88, 1, 0, .aload_n 0) :: (89, 3, 229, .getfield 153) :: (92, 3, 118, .invokestatic 76) :: (95, 1, 0, .ireturn) :: []
def C_X7_settle_60 : List zCE := (60, 1, 0, .aload_n 0) :: (61, 3, 229, .getfield 153) :: (64, 1, (-1), .iconst (-1)) :: (65, 3, 88, .if_icmp .eq 23) :: (68, 1, 0, .aload_n 0) :: (69, 1, 0, .aload_n 0) :: (70, 3, 229, .getfield 153) :: (73, 1, 0, .aload_n 0) :: (74, 3, 234, .getfield 174) :: (77, 1, 0, .aload_n 0) :: (78, 3, 230, .getfield 157) :: (81, 1, 0, .aload_n 0) :: (82, 3, 231, .getfield 161) :: (85, 3, 123, .invokevirtual 91) :: C_X7_settle_88
def C_X7_settle_51 : List zCE := (51, 3, 112, .invokevirtual 59) :: (54, 3, 0, .iinc 3 1) :: (57, 3, 25, .goto (-32)) :: C_X7_settle_60
def C_X7_settle_50 : List zCE := (50, 1, 0, .iload_n 2) :: C_X7_settle_51
def C_X7_settle_25 : List zCE := (25, 1, 0, .iload_n 3) :: (26, 1, 0, .aload_n 0) :: (27, 3, 224, .getfield 11) :: (30, 1, 1, .iconst 1) :: (31, 1, 0, .iaload) :: (32, 3, 60, .if_icmp .ge 28) :: (35, 1, 0, .aload_n 0) :: (36, 1, 0, .iload_n 3) :: (37, 1, 0, .aload_n 0) :: (38, 3, 228, .getfield 21) :: (41, 1, 0, .iload_n 3) :: (42, 1, 0, .baload) :: (43, 3, 50, .ifCond .eq 7) :: (46, 1, 0, .iload_n 1) :: (47, 3, 51, .goto 4) :: C_X7_settle_50
def C_X7_settle_23 : List zCE := (23, 1, 0, .iconst 0) :: (24, 1, 0, .istore_n 3) :: C_X7_settle_25
def C_X7_settle_11 : List zCE := (11, 1, 0, .aload_n 0) :: (12, 1, 0, .iload_n 1) :: (13, 1, 0, .iload_n 2) :: (14, 3, 148, .invokevirtual 185) :: (17, 3, 23, .ifCond .ne 6) :: (20, 2, (-3), .bipush (-3)) :: (22, 1, 0, .ireturn) :: C_X7_settle_23
def C_X7_settle_0 : List zCE := (0, 1, 0, .aload_n 0) :: (1, 1, 0, .iload_n 1) :: (2, 1, 0, .iload_n 2) :: (3, 3, 108, .invokevirtual 135) :: (6, 3, 11, .ifCond .ne 5) :: (9, 1, (-1), .iconst (-1)) :: (10, 1, 0, .ireturn) :: C_X7_settle_11
def C_X7_nextWay_49 : List zCE := (49, 1, 0, .aload_n 0) :: (50, 3, 235, .getfield 25) :: (53, 1, 0, .iload_n 1) :: (54, 1, 0, .dup2) :: (55, 1, 0, .iaload) :: (56, 1, 1, .iconst 1) :: (57, 1, 0, .iadd) :: (58, 1, 0, .iastore) :: (59, 1, 1, .iconst 1) :: (60, 1, 1, .ireturn) :: []
def C_X7_nextWay_43 : List zCE := (43, 1, 0, .iload_n 1) :: (44, 3, 49, .ifCond .ge 5) :: (47, 1, 0, .iconst 0) :: (48, 1, 1, .ireturn) :: C_X7_nextWay_49
def C_X7_nextWay_9 : List zCE := (9, 1, 0, .iload_n 1) :: (10, 3, 43, .ifCond .lt 33) :: (13, 1, 0, .aload_n 0) :: (14, 3, 235, .getfield 25) :: (17, 1, 0, .iload_n 1) :: (18, 1, 0, .iaload) :: (19, 1, 0, .aload_n 0) :: (20, 3, 224, .getfield 11) :: (23, 1, 0, .iconst 0) :: (24, 1, 0, .iaload) :: (25, 1, 1, .iconst 1) :: (26, 1, 0, .isub) :: (27, 3, 43, .if_icmp .ne 16) :: (30, 1, 0, .aload_n 0) :: (31, 3, 235, .getfield 25) :: (34, 1, 0, .iload_n 1) :: (35, 1, 0, .iconst 0) :: (36, 1, 0, .iastore) :: (37, 3, 0, .iinc 1 (-1)) :: (40, 3, 9, .goto (-31)) :: C_X7_nextWay_43
def C_X7_nextWay_0 : List zCE := (0, 1, 0, .aload_n 0) :: (1, 3, 224, .getfield 11) :: (4, 1, 1, .iconst 1) :: (5, 1, 0, .iaload) :: (6, 1, 1, .iconst 1) :: (7, 1, 0, .isub) :: (8, 1, 0, .istore_n 1) :: C_X7_nextWay_9
def C_X7_wayWorth_43 : List zCE := (43, 1, 0, .iload_n 2) :: (44, 1, 0, .ireturn) :: []
def C_X7_wayWorth_35 : List zCE := (35, 1, 0, .iadd) :: (36, 1, 0, .istore_n 2) :: (37, 3, 0, .iinc 3 1) :: (40, 3, 4, .goto (-36)) :: C_X7_wayWorth_43
def C_X7_wayWorth_34 : List zCE := (34, 1, 0, .iconst 0) :: C_X7_wayWorth_35
def C_X7_wayWorth_4 : List zCE := (4, 1, 0, .iload_n 3) :: (5, 1, 0, .aload_n 0) :: (6, 3, 224, .getfield 11) :: (9, 1, 1, .iconst 1) :: (10, 1, 0, .iaload) :: (11, 3, 43, .if_icmp .ge 32) :: (14, 1, 0, .iload_n 2) :: (15, 1, 0, .aload_n 0) :: (16, 3, 235, .getfield 25) :: (19, 1, 0, .iload_n 3) :: (20, 1, 0, .iaload) :: (21, 1, 0, .iload_n 1) :: (22, 3, 34, .if_icmp .ne 12) :: (25, 1, 0, .aload_n 0) :: (26, 1, 0, .iload_n 1) :: (27, 1, 0, .iload_n 3) :: (28, 3, 113, .invokevirtual 68) :: (31, 3, 35, .goto 4) :: C_X7_wayWorth_34
def C_X7_wayWorth_0 : List zCE := (0, 1, 0, .iconst 0) :: (1, 1, 0, .istore_n 2) :: (2, 1, 0, .iconst 0) :: (3, 1, 0, .istore_n 3) :: C_X7_wayWorth_4
def C_X7_searches_192 : List zCE := (192, 1, 0, .return_) :: []
def C_X7_searches_184 : List zCE := (184, 1, 0, .aload_n 0) :: (185, 3, 157, .invokevirtual 215) :: (188, 1, 0, .istore_n 1) :: (189, 3, 35, .goto (-154)) :: C_X7_searches_192
def C_X7_searches_136 : List zCE := (136, 1, 0, .lload_n 3) :: (137, 1, 0, .aload_n 0) :: (138, 3, 238, .getfield 200) :: (141, 1, 0, .lmul) :: (142, 1, 0, .aload_n 0) :: (143, 3, 237, .getfield 197) :: (146, 2, 0, .lload 5) :: (148, 1, 0, .lmul) :: (149, 1, 0, .lcmp) :: (150, 3, 184, .ifCond .le 34) :: (153, 1, 0, .aload_n 0) :: (154, 1, 0, .lload_n 3) :: (155, 3, 237, .putfield 197) :: (158, 1, 0, .aload_n 0) :: (159, 2, 0, .lload 5) :: (161, 3, 238, .putfield 200) :: (164, 1, 0, .aload_n 0) :: (165, 1, 0, .iload_n 2) :: (166, 3, 239, .putfield 206) :: (169, 1, 0, .aload_n 0) :: (170, 3, 235, .getfield 25) :: (173, 1, 0, .iconst 0) :: (174, 1, 0, .aload_n 0) :: (175, 3, 236, .getfield 28) :: (178, 1, 0, .iconst 0) :: (179, 2, 6, .bipush 6) :: (181, 3, 9999, .invokestatic 209) :: C_X7_searches_184
def C_X7_searches_130 : List zCE := (130, 3, 0, .iinc 7 1) :: (133, 3, 49, .goto (-84)) :: C_X7_searches_136
def C_X7_searches_120 : List zCE := (120, 2, 0, .iload 7) :: (122, 1, 0, .istore_n 2) :: (123, 2, 0, .lload 9) :: (125, 1, 0, .lstore_n 3) :: (126, 2, 0, .lload 11) :: (128, 2, 0, .lstore 5) :: C_X7_searches_130
def C_X7_searches_98 : List zCE := (98, 2, 0, .lstore 11) :: (100, 2, 0, .lload 5) :: (102, 1, 0, .lconst 0) :: (103, 1, 0, .lcmp) :: (104, 3, 120, .ifCond .eq 16) :: (107, 2, 0, .lload 9) :: (109, 2, 0, .lload 5) :: (111, 1, 0, .lmul) :: (112, 1, 0, .lload_n 3) :: (113, 2, 0, .lload 11) :: (115, 1, 0, .lmul) :: (116, 1, 0, .lcmp) :: (117, 3, 130, .ifCond .ge 13) :: C_X7_searches_120
def C_X7_searches_95 : List zCE := (95, 2, 0, .iload 8) :: (97, 1, 0, .i2l) :: C_X7_searches_98
def C_X7_searches_84 : List zCE := (84, 2, 0, .lstore 9) :: (86, 2, 0, .iload 8) :: (88, 3, 95, .ifCond .ne 7) :: (91, 1, 1, .lconst 1) :: (92, 3, 98, .goto 6) :: C_X7_searches_95
def C_X7_searches_77 : List zCE := (77, 1, 0, .aload_n 0) :: (78, 2, 0, .iload 7) :: (80, 3, 158, .invokevirtual 203) :: (83, 1, 0, .i2l) :: C_X7_searches_84
def C_X7_searches_49 : List zCE := (49, 2, 0, .iload 7) :: (51, 1, 0, .aload_n 0) :: (52, 3, 224, .getfield 11) :: (55, 1, 0, .iconst 0) :: (56, 1, 0, .iaload) :: (57, 3, 136, .if_icmp .ge 79) :: (60, 1, 0, .aload_n 0) :: (61, 2, 0, .iload 7) :: (63, 3, 116, .invokevirtual 72) :: (66, 2, 0, .istore 8) :: (68, 2, 0, .iload 8) :: (70, 3, 77, .ifCond .ne 7) :: (73, 1, 1, .lconst 1) :: (74, 3, 84, .goto 10) :: C_X7_searches_77
def C_X7_searches_35 : List zCE := (35, 1, 0, .iload_n 1) :: (36, 3, 192, .ifCond .eq 156) :: (39, 1, 0, .iconst 0) :: (40, 1, 0, .istore_n 2) :: (41, 1, 0, .lconst 0) :: (42, 1, 0, .lstore_n 3) :: (43, 1, 0, .lconst 0) :: (44, 2, 0, .lstore 5) :: (46, 1, 0, .iconst 0) :: (47, 2, 0, .istore 7) :: C_X7_searches_49
def C_X7_searches_21 : List zCE := (21, 1, 0, .aload_n 0) :: (22, 3, (-1), .ldc2_w 195) :: (25, 3, 237, .putfield 197) :: (28, 1, 0, .aload_n 0) :: (29, 1, 1, .lconst 1) :: (30, 3, 238, .putfield 200) :: (33, 1, 1, .iconst 1) :: (34, 1, 0, .istore_n 1) :: C_X7_searches_35
def C_X7_searches_2 : List zCE := (2, 1, 0, .iload_n 1) :: (3, 2, 6, .bipush 6) :: (5, 3, 21, .if_icmp .ge 16) :: (8, 1, 0, .aload_n 0) :: (9, 3, 235, .getfield 25) :: (12, 1, 0, .iload_n 1) :: (13, 1, 0, .iconst 0) :: (14, 1, 0, .iastore) :: (15, 3, 0, .iinc 1 1) :: (18, 3, 2, .goto (-16)) :: C_X7_searches_21
def C_X7_searches_0 : List zCE := (0, 1, 0, .iconst 0) :: (1, 1, 0, .istore_n 1) :: C_X7_searches_2
def C_X7_fair_10 : List zCE := (10, 1, 0, .aload_n 0) :: (11, 3, 159, .invokevirtual 219) :: (14, 1, 0, .aload_n 0) :: (15, 3, 236, .getfield 28) :: (18, 1, 0, .iload_n 1) :: (19, 1, 0, .iaload) :: (20, 1, 0, .ireturn) :: []
def C_X7_fair_0 : List zCE := (0, 1, 0, .aload_n 0) :: (1, 1, 0, .iload_n 1) :: (2, 3, 107, .invokevirtual 63) :: (5, 3, 10, .ifCond .ne 5) :: (8, 1, (-1), .iconst (-1)) :: (9, 1, 0, .ireturn) :: C_X7_fair_10
def C_X7_fairest_11 : List zCE := (11, 1, 0, .aload_n 0) :: (12, 3, 159, .invokevirtual 219) :: (15, 1, 0, .aload_n 0) :: (16, 3, 237, .getfield 197) :: (19, 1, 0, .aload_n 0) :: (20, 3, 238, .getfield 200) :: (23, 1, 0, .iload_n 1) :: (24, 3, 122, .invokestatic 83) :: (27, 1, 0, .lreturn) :: []
def C_X7_fairest_0 : List zCE := (0, 1, 0, .iload_n 1) :: (1, 3, 109, .invokestatic 97) :: (4, 3, 11, .ifCond .ne 7) :: (7, 3, (-9223372036854775808), .ldc2_w 100) :: (10, 1, 0, .lreturn) :: C_X7_fairest_11
def C_X7_withoutHolder_40 : List zCE := (40, 1, 0, .iload_n 1) :: (41, 1, 0, .ireturn) :: []
def C_X7_withoutHolder_32 : List zCE := (32, 1, 0, .iadd) :: (33, 1, 0, .istore_n 1) :: (34, 3, 0, .iinc 2 1) :: (37, 3, 4, .goto (-33)) :: C_X7_withoutHolder_40
def C_X7_withoutHolder_31 : List zCE := (31, 1, 0, .iconst 0) :: C_X7_withoutHolder_32
def C_X7_withoutHolder_4 : List zCE := (4, 1, 0, .iload_n 2) :: (5, 1, 0, .aload_n 0) :: (6, 3, 224, .getfield 11) :: (9, 1, 1, .iconst 1) :: (10, 1, 0, .iaload) :: (11, 3, 40, .if_icmp .ge 29) :: (14, 1, 0, .iload_n 1) :: (15, 1, 0, .aload_n 0) :: (16, 3, 224, .getfield 11) :: (19, 1, 5, .iconst 5) :: (20, 1, 0, .iload_n 2) :: (21, 1, 0, .iadd) :: (22, 1, 0, .iaload) :: (23, 1, (-1), .iconst (-1)) :: (24, 3, 31, .if_icmp .ne 7) :: (27, 1, 1, .iconst 1) :: (28, 3, 32, .goto 4) :: C_X7_withoutHolder_31
def C_X7_withoutHolder_0 : List zCE := (0, 1, 0, .iconst 0) :: (1, 1, 0, .istore_n 1) :: (2, 1, 0, .iconst 0) :: (3, 1, 0, .istore_n 2) :: C_X7_withoutHolder_4
def C_X7_told_78 : List zCE := (78, 1, (-1), .iconst (-1)) :: (79, 1, 0, .ireturn) :: []
def C_X7_told_69 : List zCE := (69, 1, 0, .aload_n 0) :: (70, 3, 159, .invokevirtual 219) :: (73, 1, 0, .aload_n 0) :: (74, 3, 239, .getfield 206) :: (77, 1, 0, .ireturn) :: C_X7_told_78
def C_X7_told_64 : List zCE := (64, 1, 0, .aload_n 0) :: (65, 3, 141, .invokevirtual 225) :: (68, 1, 0, .ireturn) :: C_X7_told_69
def C_X7_told_59 : List zCE := (59, 1, 0, .aload_n 0) :: (60, 3, 162, .invokevirtual 222) :: (63, 1, 0, .ireturn) :: C_X7_told_64
def C_X7_told_54 : List zCE := (54, 1, 0, .aload_n 0) :: (55, 3, 120, .invokevirtual 87) :: (58, 1, 0, .ireturn) :: C_X7_told_59
def C_X7_told_47 : List zCE := (47, 1, 0, .aload_n 0) :: (48, 3, 224, .getfield 11) :: (51, 1, 1, .iconst 1) :: (52, 1, 0, .iaload) :: (53, 1, 0, .ireturn) :: C_X7_told_54
def C_X7_told_40 : List zCE := (40, 1, 0, .aload_n 0) :: (41, 3, 224, .getfield 11) :: (44, 1, 0, .iconst 0) :: (45, 1, 0, .iaload) :: (46, 1, 0, .ireturn) :: C_X7_told_47
def C_X7_told_0 : List zCE := (0, 1, 0, .iload_n 1) :: (1, 39, 0, .tableswitch 77 0 5 #[39, 46, 53, 58, 63, 68]) :: C_X7_told_40
def C_X7_feed_27 : List zCE := (27, 1, 0, .aload_n 0) :: (28, 3, 240, .getfield 31) :: (31, 1, 0, .aload_n 0) :: (32, 3, 241, .getfield 230) :: (35, 1, 0, .iload_n 1) :: (36, 1, 0, .iastore) :: (37, 1, 0, .aload_n 0) :: (38, 1, 0, .dup) :: (39, 3, 241, .getfield 230) :: (42, 1, 1, .iconst 1) :: (43, 1, 0, .iadd) :: (44, 3, 241, .putfield 230) :: (47, 1, 0, .aload_n 0) :: (48, 3, 241, .getfield 230) :: (51, 1, 0, .ireturn) :: []
def C_X7_feed_15 : List zCE := (15, 1, 0, .aload_n 0) :: (16, 3, 241, .getfield 230) :: (19, 2, 100, .bipush 100) :: (21, 3, 27, .if_icmp .ne 6) :: (24, 2, (-4), .bipush (-4)) :: (26, 1, 0, .ireturn) :: C_X7_feed_27
def C_X7_feed_0 : List zCE := (0, 1, 0, .iload_n 1) :: (1, 1, 0, .i2l) :: (2, 1, 0, .lconst 0) :: (3, 3, 127, .ldc2_w 228) :: (6, 3, 105, .invokestatic 47) :: (9, 3, 15, .ifCond .ne 6) :: (12, 2, (-2), .bipush (-2)) :: (14, 1, 0, .ireturn) :: C_X7_feed_15
def C_X7_isDigit_38 : List zCE := (38, 1, 1, .ireturn) :: []
def C_X7_isDigit_37 : List zCE := (37, 1, 0, .iconst 0) :: C_X7_isDigit_38
def C_X7_isDigit_0 : List zCE := (0, 1, 0, .aload_n 0) :: (1, 3, 242, .getfield 233) :: (4, 1, 0, .aload_n 0) :: (5, 3, 241, .getfield 230) :: (8, 3, 37, .if_icmp .ge 29) :: (11, 1, 0, .aload_n 0) :: (12, 3, 240, .getfield 31) :: (15, 1, 0, .aload_n 0) :: (16, 3, 242, .getfield 233) :: (19, 1, 0, .iaload) :: (20, 1, 0, .i2l) :: (21, 3, 48, .ldc2_w 236) :: (24, 3, 57, .ldc2_w 238) :: (27, 3, 105, .invokestatic 47) :: (30, 3, 37, .ifCond .eq 7) :: (33, 1, 1, .iconst 1) :: (34, 3, 38, .goto 4) :: C_X7_isDigit_37
def C_X7_numbersOf_47 : List zCE := (47, 1, 0, .ireturn) :: []
def C_X7_numbersOf_46 : List zCE := (46, 1, (-1), .iconst (-1)) :: C_X7_numbersOf_47
def C_X7_numbersOf_42 : List zCE := (42, 1, 2, .iconst 2) :: (43, 3, 47, .goto 4) :: C_X7_numbersOf_46
def C_X7_numbersOf_30 : List zCE := (30, 1, 0, .iload_n 0) :: (31, 2, 104, .bipush 104) :: (33, 3, 42, .if_icmp .eq 9) :: (36, 1, 0, .iload_n 0) :: (37, 2, 115, .bipush 115) :: (39, 3, 46, .if_icmp .ne 7) :: C_X7_numbersOf_42
def C_X7_numbersOf_20 : List zCE := (20, 1, 0, .iload_n 0) :: (21, 2, 112, .bipush 112) :: (23, 3, 30, .if_icmp .ne 7) :: (26, 1, 3, .iconst 3) :: (27, 3, 47, .goto 20) :: C_X7_numbersOf_30
def C_X7_numbersOf_10 : List zCE := (10, 1, 0, .iload_n 0) :: (11, 2, 116, .bipush 116) :: (13, 3, 20, .if_icmp .ne 7) :: (16, 1, 0, .iconst 0) :: (17, 3, 47, .goto 30) :: C_X7_numbersOf_20
def C_X7_numbersOf_0 : List zCE := (0, 1, 0, .iload_n 0) :: (1, 2, 110, .bipush 110) :: (3, 3, 10, .if_icmp .ne 7) :: (6, 1, 1, .iconst 1) :: (7, 3, 47, .goto 40) :: C_X7_numbersOf_10
def C_X7_readsClause_161 : List zCE := (161, 1, 1, .iconst 1) :: (162, 1, 1, .ireturn) :: []
def C_X7_readsClause_143 : List zCE := (143, 1, 0, .aload_n 0) :: (144, 3, 243, .getfield 34) :: (147, 1, 4, .iconst 4) :: (148, 1, 0, .iload_n 1) :: (149, 1, 0, .imul) :: (150, 1, 0, .iload_n 3) :: (151, 1, 0, .iadd) :: (152, 2, 0, .iload 4) :: (154, 1, 0, .iastore) :: (155, 3, 0, .iinc 3 1) :: (158, 3, 60, .goto (-98)) :: C_X7_readsClause_161
def C_X7_readsClause_77 : List zCE := (77, 1, 0, .aload_n 0) :: (78, 3, 240, .getfield 31) :: (81, 1, 0, .aload_n 0) :: (82, 3, 242, .getfield 233) :: (85, 1, 0, .iaload) :: (86, 2, 48, .bipush 48) :: (88, 1, 0, .isub) :: (89, 2, 0, .istore 4) :: (91, 1, 0, .aload_n 0) :: (92, 1, 0, .dup) :: (93, 3, 242, .getfield 233) :: (96, 1, 1, .iconst 1) :: (97, 1, 0, .iadd) :: (98, 3, 242, .putfield 233) :: (101, 1, 0, .iload_n 3) :: (102, 1, 3, .iconst 3) :: (103, 3, 143, .if_icmp .ne 40) :: (106, 1, 0, .aload_n 0) :: (107, 3, 165, .invokevirtual 243) :: (110, 3, 143, .ifCond .eq 33) :: (113, 2, 10, .bipush 10) :: (115, 2, 0, .iload 4) :: (117, 1, 0, .imul) :: (118, 1, 0, .aload_n 0) :: (119, 3, 240, .getfield 31) :: (122, 1, 0, .aload_n 0) :: (123, 3, 242, .getfield 233) :: (126, 1, 0, .iaload) :: (127, 1, 0, .iadd) :: (128, 2, 48, .bipush 48) :: (130, 1, 0, .isub) :: (131, 2, 0, .istore 4) :: (133, 1, 0, .aload_n 0) :: (134, 1, 0, .dup) :: (135, 3, 242, .getfield 233) :: (138, 1, 1, .iconst 1) :: (139, 1, 0, .iadd) :: (140, 3, 242, .putfield 233) :: C_X7_readsClause_143
def C_X7_readsClause_60 : List zCE := (60, 1, 0, .iload_n 3) :: (61, 1, 0, .iload_n 2) :: (62, 3, 166, .invokestatic 240) :: (65, 3, 161, .if_icmp .gt 96) :: (68, 1, 0, .aload_n 0) :: (69, 3, 165, .invokevirtual 243) :: (72, 3, 77, .ifCond .ne 5) :: (75, 1, 0, .iconst 0) :: (76, 1, 1, .ireturn) :: C_X7_readsClause_77
def C_X7_readsClause_29 : List zCE := (29, 1, 0, .aload_n 0) :: (30, 3, 240, .getfield 31) :: (33, 1, 0, .aload_n 0) :: (34, 3, 242, .getfield 233) :: (37, 1, 0, .iaload) :: (38, 1, 0, .istore_n 2) :: (39, 1, 0, .aload_n 0) :: (40, 3, 243, .getfield 34) :: (43, 1, 4, .iconst 4) :: (44, 1, 0, .iload_n 1) :: (45, 1, 0, .imul) :: (46, 1, 0, .iload_n 2) :: (47, 1, 0, .iastore) :: (48, 1, 0, .aload_n 0) :: (49, 1, 0, .dup) :: (50, 3, 242, .getfield 233) :: (53, 1, 1, .iconst 1) :: (54, 1, 0, .iadd) :: (55, 3, 242, .putfield 233) :: (58, 1, 1, .iconst 1) :: (59, 1, 0, .istore_n 3) :: C_X7_readsClause_60
def C_X7_readsClause_27 : List zCE := (27, 1, 0, .iconst 0) :: (28, 1, 1, .ireturn) :: C_X7_readsClause_29
def C_X7_readsClause_0 : List zCE := (0, 1, 0, .aload_n 0) :: (1, 3, 242, .getfield 233) :: (4, 1, 0, .aload_n 0) :: (5, 3, 241, .getfield 230) :: (8, 3, 27, .if_icmp .eq 19) :: (11, 1, 0, .aload_n 0) :: (12, 3, 240, .getfield 31) :: (15, 1, 0, .aload_n 0) :: (16, 3, 242, .getfield 233) :: (19, 1, 0, .iaload) :: (20, 3, 166, .invokestatic 240) :: (23, 1, (-1), .iconst (-1)) :: (24, 3, 29, .if_icmp .ne 5) :: C_X7_readsClause_27
def C_X7_readsAll_66 : List zCE := (66, 1, (-1), .iconst (-1)) :: (67, 1, 0, .ireturn) :: []
def C_X7_readsAll_53 : List zCE := (53, 1, 0, .aload_n 0) :: (54, 1, 0, .dup) :: (55, 3, 242, .getfield 233) :: (58, 1, 1, .iconst 1) :: (59, 1, 0, .iadd) :: (60, 3, 242, .putfield 233) :: (63, 3, 7, .goto (-56)) :: C_X7_readsAll_66
def C_X7_readsAll_51 : List zCE := (51, 1, (-1), .iconst (-1)) :: (52, 1, 0, .ireturn) :: C_X7_readsAll_53
def C_X7_readsAll_31 : List zCE := (31, 1, 0, .aload_n 0) :: (32, 3, 240, .getfield 31) :: (35, 1, 0, .aload_n 0) :: (36, 3, 242, .getfield 233) :: (39, 1, 0, .iaload) :: (40, 2, 59, .bipush 59) :: (42, 3, 51, .if_icmp .ne 9) :: (45, 1, 0, .iload_n 1) :: (46, 2, 14, .bipush 14) :: (48, 3, 53, .if_icmp .ne 5) :: C_X7_readsAll_51
def C_X7_readsAll_7 : List zCE := (7, 1, 0, .aload_n 0) :: (8, 1, 0, .iload_n 1) :: (9, 3, 167, .invokevirtual 246) :: (12, 3, 66, .ifCond .eq 54) :: (15, 3, 0, .iinc 1 1) :: (18, 1, 0, .aload_n 0) :: (19, 3, 242, .getfield 233) :: (22, 1, 0, .aload_n 0) :: (23, 3, 241, .getfield 230) :: (26, 3, 31, .if_icmp .ne 5) :: (29, 1, 0, .iload_n 1) :: (30, 1, 0, .ireturn) :: C_X7_readsAll_31
def C_X7_readsAll_0 : List zCE := (0, 1, 0, .aload_n 0) :: (1, 1, 0, .iconst 0) :: (2, 3, 242, .putfield 233) :: (5, 1, 0, .iconst 0) :: (6, 1, 0, .istore_n 1) :: C_X7_readsAll_7
def C_X7_does_107 : List zCE := (107, 1, 0, .aload_n 0) :: (108, 1, 0, .iload_n 2) :: (109, 1, 0, .iload_n 3) :: (110, 3, 156, .invokevirtual 261) :: (113, 1, 0, .ireturn) :: []
def C_X7_does_100 : List zCE := (100, 1, 0, .aload_n 0) :: (101, 1, 0, .iload_n 2) :: (102, 1, 0, .iload_n 3) :: (103, 3, 119, .invokevirtual 258) :: (106, 1, 0, .ireturn) :: C_X7_does_107
def C_X7_does_83 : List zCE := (83, 1, 0, .aload_n 0) :: (84, 1, 0, .iload_n 2) :: (85, 1, 0, .iload_n 3) :: (86, 1, 0, .aload_n 0) :: (87, 3, 243, .getfield 34) :: (90, 1, 4, .iconst 4) :: (91, 1, 0, .iload_n 1) :: (92, 1, 0, .imul) :: (93, 1, 3, .iconst 3) :: (94, 1, 0, .iadd) :: (95, 1, 0, .iaload) :: (96, 3, 114, .invokevirtual 255) :: (99, 1, 0, .ireturn) :: C_X7_does_100
def C_X7_does_78 : List zCE := (78, 1, 0, .aload_n 0) :: (79, 3, 111, .invokevirtual 252) :: (82, 1, 0, .ireturn) :: C_X7_does_83
def C_X7_does_72 : List zCE := (72, 1, 0, .aload_n 0) :: (73, 1, 0, .iload_n 2) :: (74, 3, 110, .invokevirtual 249) :: (77, 1, 0, .ireturn) :: C_X7_does_78
def C_X7_does_0 : List zCE := (0, 1, 0, .aload_n 0) :: (1, 3, 243, .getfield 34) :: (4, 1, 4, .iconst 4) :: (5, 1, 0, .iload_n 1) :: (6, 1, 0, .imul) :: (7, 1, 1, .iconst 1) :: (8, 1, 0, .iadd) :: (9, 1, 0, .iaload) :: (10, 1, 0, .istore_n 2) :: (11, 1, 0, .aload_n 0) :: (12, 3, 243, .getfield 34) :: (15, 1, 4, .iconst 4) :: (16, 1, 0, .iload_n 1) :: (17, 1, 0, .imul) :: (18, 1, 2, .iconst 2) :: (19, 1, 0, .iadd) :: (20, 1, 0, .iaload) :: (21, 1, 0, .istore_n 3) :: (22, 1, 0, .aload_n 0) :: (23, 3, 243, .getfield 34) :: (26, 1, 4, .iconst 4) :: (27, 1, 0, .iload_n 1) :: (28, 1, 0, .imul) :: (29, 1, 0, .iaload) :: (30, 42, 0, .lookupswitch 77 #[(104, 70), (110, 42), (112, 53), (116, 48)]) :: C_X7_does_72
def C_X7_read_65 : List zCE := (65, 1, 0, .iload_n 2) :: (66, 1, 0, .ireturn) :: []
def C_X7_read_57 : List zCE := (57, 1, 0, .iadd) :: (58, 1, 0, .istore_n 2) :: (59, 3, 0, .iinc 3 1) :: (62, 3, 27, .goto (-35)) :: C_X7_read_65
def C_X7_read_56 : List zCE := (56, 1, 0, .iconst 0) :: C_X7_read_57
def C_X7_read_52 : List zCE := (52, 1, 1, .iconst 1) :: (53, 3, 57, .goto 4) :: C_X7_read_56
def C_X7_read_27 : List zCE := (27, 1, 0, .iload_n 3) :: (28, 1, 0, .iload_n 1) :: (29, 3, 65, .if_icmp .ge 36) :: (32, 1, 0, .aload_n 0) :: (33, 1, 0, .iload_n 3) :: (34, 3, 169, .invokevirtual 267) :: (37, 2, 0, .istore 4) :: (39, 1, 0, .iload_n 2) :: (40, 2, 0, .iload 4) :: (42, 3, 52, .ifCond .ge 10) :: (45, 2, 0, .iload 4) :: (47, 2, (-5), .bipush (-5)) :: (49, 3, 56, .if_icmp .ne 7) :: C_X7_read_52
def C_X7_read_23 : List zCE := (23, 1, 0, .iconst 0) :: (24, 1, 0, .istore_n 2) :: (25, 1, 0, .iconst 0) :: (26, 1, 0, .istore_n 3) :: C_X7_read_27
def C_X7_read_0 : List zCE := (0, 1, 0, .aload_n 0) :: (1, 3, 168, .invokevirtual 264) :: (4, 1, 0, .istore_n 1) :: (5, 1, 0, .aload_n 0) :: (6, 1, 0, .iconst 0) :: (7, 3, 241, .putfield 230) :: (10, 1, 0, .iload_n 1) :: (11, 1, (-1), .iconst (-1)) :: (12, 3, 23, .if_icmp .ne 11) :: (15, 2, (-10), .bipush (-10)) :: (17, 1, 0, .aload_n 0) :: (18, 3, 242, .getfield 233) :: (21, 1, 0, .isub) :: (22, 1, 0, .ireturn) :: C_X7_read_23
def C_X7_see_50 : List zCE := (50, 1, 0, .aload_n 0) :: (51, 3, 224, .getfield 11) :: (54, 2, 53, .bipush 53) :: (56, 1, 0, .aload_n 0) :: (57, 3, 224, .getfield 11) :: (60, 1, 2, .iconst 2) :: (61, 1, 0, .iaload) :: (62, 1, 0, .iadd) :: (63, 2, 10, .bipush 10) :: (65, 1, 0, .iload_n 1) :: (66, 1, 0, .imul) :: (67, 1, 0, .iload_n 2) :: (68, 1, 0, .iadd) :: (69, 1, 0, .iastore) :: (70, 1, 0, .aload_n 0) :: (71, 3, 224, .getfield 11) :: (74, 1, 2, .iconst 2) :: (75, 1, 0, .dup2) :: (76, 1, 0, .iaload) :: (77, 1, 1, .iconst 1) :: (78, 1, 0, .iadd) :: (79, 1, 0, .iastore) :: (80, 1, 0, .aload_n 0) :: (81, 3, 224, .getfield 11) :: (84, 1, 2, .iconst 2) :: (85, 1, 0, .iaload) :: (86, 1, 0, .ireturn) :: []
def C_X7_see_37 : List zCE := (37, 1, 0, .aload_n 0) :: (38, 3, 224, .getfield 11) :: (41, 1, 2, .iconst 2) :: (42, 1, 0, .iaload) :: (43, 1, 5, .iconst 5) :: (44, 3, 50, .if_icmp .ne 6) :: (47, 2, (-4), .bipush (-4)) :: (49, 1, 0, .ireturn) :: C_X7_see_50
def C_X7_see_24 : List zCE := (24, 1, 0, .iload_n 2) :: (25, 1, 0, .i2l) :: (26, 1, 0, .lconst 0) :: (27, 1, 1, .lconst 1) :: (28, 3, 105, .invokestatic 47) :: (31, 3, 37, .ifCond .ne 6) :: (34, 2, (-2), .bipush (-2)) :: (36, 1, 0, .ireturn) :: C_X7_see_37
def C_X7_see_14 : List zCE := (14, 1, 0, .aload_n 0) :: (15, 1, 0, .iload_n 1) :: (16, 3, 107, .invokevirtual 63) :: (19, 3, 24, .ifCond .ne 5) :: (22, 1, (-1), .iconst (-1)) :: (23, 1, 0, .ireturn) :: C_X7_see_24
def C_X7_see_0 : List zCE := (0, 1, 0, .iload_n 1) :: (1, 1, (-1), .iconst (-1)) :: (2, 3, 14, .if_icmp .ne 12) :: (5, 1, 0, .aload_n 0) :: (6, 3, 224, .getfield 11) :: (9, 1, 2, .iconst 2) :: (10, 1, 0, .iconst 0) :: (11, 1, 0, .iastore) :: (12, 1, 0, .iconst 0) :: (13, 1, 0, .ireturn) :: C_X7_see_14
def C_X7_isSeenSo_60 : List zCE := (60, 1, 0, .iload_n 1) :: (61, 1, 1, .ireturn) :: []
def C_X7_isSeenSo_46 : List zCE := (46, 1, 0, .iload_n 3) :: (47, 2, 10, .bipush 10) :: (49, 1, 0, .idiv) :: (50, 3, 150, .invokevirtual 181) :: (53, 1, 0, .istore_n 1) :: (54, 3, 0, .iinc 2 1) :: (57, 3, 9, .goto (-48)) :: C_X7_isSeenSo_60
def C_X7_isSeenSo_45 : List zCE := (45, 1, 0, .iconst 0) :: C_X7_isSeenSo_46
def C_X7_isSeenSo_9 : List zCE := (9, 1, 0, .iload_n 2) :: (10, 1, 0, .aload_n 0) :: (11, 3, 224, .getfield 11) :: (14, 1, 2, .iconst 2) :: (15, 1, 0, .iaload) :: (16, 3, 60, .if_icmp .ge 44) :: (19, 1, 0, .iload_n 1) :: (20, 3, 60, .ifCond .eq 40) :: (23, 1, 0, .aload_n 0) :: (24, 3, 224, .getfield 11) :: (27, 2, 53, .bipush 53) :: (29, 1, 0, .iload_n 2) :: (30, 1, 0, .iadd) :: (31, 1, 0, .iaload) :: (32, 1, 0, .istore_n 3) :: (33, 1, 0, .aload_n 0) :: (34, 1, 0, .iload_n 3) :: (35, 2, 10, .bipush 10) :: (37, 1, 0, .irem) :: (38, 3, 45, .ifCond .ne 7) :: (41, 1, 1, .iconst 1) :: (42, 3, 46, .goto 4) :: C_X7_isSeenSo_45
def C_X7_isSeenSo_0 : List zCE := (0, 1, 0, .aload_n 0) :: (1, 1, 0, .iconst 0) :: (2, 1, 1, .iconst 1) :: (3, 3, 148, .invokevirtual 185) :: (6, 1, 0, .istore_n 1) :: (7, 1, 0, .iconst 0) :: (8, 1, 0, .istore_n 2) :: C_X7_isSeenSo_9
def C_X7_fits_115 : List zCE := (115, 1, 0, .ireturn) :: []
def C_X7_fits_113 : List zCE := (113, 2, 0, .iload 7) :: C_X7_fits_115
def C_X7_fits_95 : List zCE := (95, 1, 0, .aload_n 0) :: (96, 3, 224, .getfield 11) :: (99, 2, 0, .iload 4) :: (101, 2, 0, .iload 5) :: (103, 1, 0, .iastore) :: (104, 1, 0, .iload_n 3) :: (105, 3, 113, .ifCond .ne 8) :: (108, 2, 0, .iload 6) :: (110, 3, 115, .goto 5) :: C_X7_fits_113
def C_X7_fits_89 : List zCE := (89, 3, 0, .iinc 8 (-1)) :: (92, 3, 61, .goto (-31)) :: C_X7_fits_95
def C_X7_fits_61 : List zCE := (61, 2, 0, .iload 8) :: (63, 3, 95, .ifCond .lt 32) :: (66, 1, 0, .aload_n 0) :: (67, 3, 224, .getfield 11) :: (70, 2, 0, .iload 4) :: (72, 2, 0, .iload 8) :: (74, 1, 0, .iastore) :: (75, 1, 0, .aload_n 0) :: (76, 3, 172, .invokevirtual 270) :: (79, 3, 89, .ifCond .eq 10) :: (82, 3, 0, .iinc 6 1) :: (85, 2, 0, .iload 8) :: (87, 2, 0, .istore 7) :: C_X7_fits_89
def C_X7_fits_30 : List zCE := (30, 2, 29, .bipush 29) :: (32, 2, 6, .bipush 6) :: (34, 1, 0, .iload_n 1) :: (35, 1, 0, .imul) :: (36, 1, 0, .iadd) :: (37, 1, 0, .iload_n 2) :: (38, 1, 0, .iadd) :: (39, 2, 0, .istore 4) :: (41, 1, 0, .aload_n 0) :: (42, 3, 224, .getfield 11) :: (45, 2, 0, .iload 4) :: (47, 1, 0, .iaload) :: (48, 2, 0, .istore 5) :: (50, 1, 0, .iconst 0) :: (51, 2, 0, .istore 6) :: (53, 2, (-5), .bipush (-5)) :: (55, 2, 0, .istore 7) :: (57, 2, 20, .bipush 20) :: (59, 2, 0, .istore 8) :: C_X7_fits_61
def C_X7_fits_28 : List zCE := (28, 1, (-1), .iconst (-1)) :: (29, 1, 0, .ireturn) :: C_X7_fits_30
def C_X7_fits_0 : List zCE := (0, 1, 0, .iload_n 1) :: (1, 1, 0, .i2l) :: (2, 1, 0, .lconst 0) :: (3, 1, 1, .lconst 1) :: (4, 3, 105, .invokestatic 47) :: (7, 3, 28, .ifCond .eq 21) :: (10, 1, 0, .aload_n 0) :: (11, 1, 0, .iload_n 2) :: (12, 3, 107, .invokevirtual 63) :: (15, 3, 28, .ifCond .eq 13) :: (18, 1, 0, .iload_n 3) :: (19, 1, 0, .i2l) :: (20, 1, 0, .lconst 0) :: (21, 1, 1, .lconst 1) :: (22, 3, 105, .invokestatic 47) :: (25, 3, 30, .ifCond .ne 5) :: C_X7_fits_28
def C_X7_odds_83 : List zCE := (83, 1, 0, .aload_n 0) :: (84, 3, 224, .getfield 11) :: (87, 2, 29, .bipush 29) :: (89, 1, 0, .iload_n 1) :: (90, 1, 0, .iadd) :: (91, 1, 0, .iload_n 3) :: (92, 1, 0, .iastore) :: (93, 2, 0, .iload 4) :: (95, 1, 0, .i2l) :: (96, 3, 10, .ldc2_w 273) :: (99, 1, 0, .iload_n 2) :: (100, 3, 122, .invokestatic 83) :: (103, 1, 0, .lreturn) :: []
def C_X7_odds_74 : List zCE := (74, 1, 0, .iadd) :: (75, 2, 0, .istore 4) :: (77, 3, 0, .iinc 5 1) :: (80, 3, 32, .goto (-48)) :: C_X7_odds_83
def C_X7_odds_73 : List zCE := (73, 1, 0, .iconst 0) :: C_X7_odds_74
def C_X7_odds_32 : List zCE := (32, 2, 0, .iload 5) :: (34, 2, 10, .bipush 10) :: (36, 3, 83, .if_icmp .gt 47) :: (39, 1, 0, .aload_n 0) :: (40, 3, 224, .getfield 11) :: (43, 2, 29, .bipush 29) :: (45, 1, 0, .iload_n 1) :: (46, 1, 0, .iadd) :: (47, 2, 0, .iload 5) :: (49, 1, 0, .iastore) :: (50, 2, 0, .iload 4) :: (52, 1, 0, .aload_n 0) :: (53, 1, 0, .iconst 0) :: (54, 1, 1, .iconst 1) :: (55, 3, 148, .invokevirtual 185) :: (58, 3, 73, .ifCond .eq 15) :: (61, 1, 0, .aload_n 0) :: (62, 3, 229, .getfield 153) :: (65, 1, 0, .iload_n 1) :: (66, 3, 73, .if_icmp .ne 7) :: (69, 1, 1, .iconst 1) :: (70, 3, 74, .goto 4) :: C_X7_odds_73
def C_X7_odds_19 : List zCE := (19, 1, 0, .aload_n 0) :: (20, 1, 0, .iconst 0) :: (21, 1, 0, .iload_n 1) :: (22, 3, 113, .invokevirtual 68) :: (25, 1, 0, .istore_n 3) :: (26, 1, 0, .iconst 0) :: (27, 2, 0, .istore 4) :: (29, 1, 1, .iconst 1) :: (30, 2, 0, .istore 5) :: C_X7_odds_32
def C_X7_odds_15 : List zCE := (15, 3, (-9223372036854775808), .ldc2_w 100) :: (18, 1, 0, .lreturn) :: C_X7_odds_19
def C_X7_odds_0 : List zCE := (0, 1, 0, .aload_n 0) :: (1, 1, 0, .iload_n 1) :: (2, 3, 107, .invokevirtual 63) :: (5, 3, 15, .ifCond .eq 10) :: (8, 1, 0, .iload_n 2) :: (9, 3, 109, .invokestatic 97) :: (12, 3, 19, .ifCond .ne 7) :: C_X7_odds_15
def C_X7_mean_47 : List zCE := (47, 1, 0, .lreturn) :: []
def C_X7_mean_44 : List zCE := (44, 3, (-9223372036854775808), .ldc2_w 100) :: C_X7_mean_47
def C_X7_mean_0 : List zCE := (0, 1, 0, .aload_n 0) :: (1, 1, 0, .iload_n 1) :: (2, 3, 106, .invokevirtual 51) :: (5, 3, 44, .ifCond .eq 39) :: (8, 1, 0, .iload_n 2) :: (9, 3, 109, .invokestatic 97) :: (12, 3, 44, .ifCond .eq 32) :: (15, 1, 0, .aload_n 0) :: (16, 3, 224, .getfield 11) :: (19, 1, 1, .iconst 1) :: (20, 1, 0, .iaload) :: (21, 3, 44, .ifCond .le 23) :: (24, 1, 0, .aload_n 0) :: (25, 1, 0, .iload_n 1) :: (26, 3, 116, .invokevirtual 72) :: (29, 1, 0, .i2l) :: (30, 1, 0, .aload_n 0) :: (31, 3, 224, .getfield 11) :: (34, 1, 1, .iconst 1) :: (35, 1, 0, .iaload) :: (36, 1, 0, .i2l) :: (37, 1, 0, .iload_n 2) :: (38, 3, 122, .invokestatic 83) :: (41, 3, 47, .goto 6) :: C_X7_mean_44
def C_X7_event_75 : List zCE := (75, 1, 0, .aload_n 0) :: (76, 3, 224, .getfield 11) :: (79, 2, 58, .bipush 58) :: (81, 1, 2, .iconst 2) :: (82, 1, 0, .aload_n 0) :: (83, 3, 224, .getfield 11) :: (86, 1, 3, .iconst 3) :: (87, 1, 0, .iaload) :: (88, 1, 0, .imul) :: (89, 1, 0, .iadd) :: (90, 1, 0, .iload_n 1) :: (91, 1, 0, .iastore) :: (92, 1, 0, .aload_n 0) :: (93, 3, 224, .getfield 11) :: (96, 2, 58, .bipush 58) :: (98, 1, 2, .iconst 2) :: (99, 1, 0, .aload_n 0) :: (100, 3, 224, .getfield 11) :: (103, 1, 3, .iconst 3) :: (104, 1, 0, .iaload) :: (105, 1, 0, .imul) :: (106, 1, 0, .iadd) :: (107, 1, 1, .iconst 1) :: (108, 1, 0, .iadd) :: (109, 1, 0, .iload_n 2) :: (110, 1, 0, .iastore) :: (111, 1, 0, .aload_n 0) :: (112, 3, 224, .getfield 11) :: (115, 1, 3, .iconst 3) :: (116, 1, 0, .dup2) :: (117, 1, 0, .iaload) :: (118, 1, 1, .iconst 1) :: (119, 1, 0, .iadd) :: (120, 1, 0, .iastore) :: (121, 1, 0, .aload_n 0) :: (122, 3, 224, .getfield 11) :: (125, 1, 3, .iconst 3) :: (126, 1, 0, .iaload) :: (127, 1, 0, .ireturn) :: []
def C_X7_event_61 : List zCE := (61, 1, 0, .aload_n 0) :: (62, 3, 224, .getfield 11) :: (65, 1, 3, .iconst 3) :: (66, 1, 0, .iaload) :: (67, 2, 8, .bipush 8) :: (69, 3, 75, .if_icmp .ne 6) :: (72, 2, (-4), .bipush (-4)) :: (74, 1, 0, .ireturn) :: C_X7_event_75
def C_X7_event_41 : List zCE := (41, 1, 0, .iload_n 1) :: (42, 1, 3, .iconst 3) :: (43, 3, 61, .if_icmp .ne 18) :: (46, 1, 0, .iload_n 2) :: (47, 1, 0, .i2l) :: (48, 1, 0, .lconst 0) :: (49, 3, 99, .ldc2_w 66) :: (52, 3, 105, .invokestatic 47) :: (55, 3, 61, .ifCond .ne 6) :: (58, 2, (-2), .bipush (-2)) :: (60, 1, 0, .ireturn) :: C_X7_event_61
def C_X7_event_39 : List zCE := (39, 1, (-1), .iconst (-1)) :: (40, 1, 0, .ireturn) :: C_X7_event_41
def C_X7_event_14 : List zCE := (14, 1, 0, .iload_n 1) :: (15, 1, 0, .i2l) :: (16, 1, 0, .lconst 0) :: (17, 3, 3, .ldc2_w 275) :: (20, 3, 105, .invokestatic 47) :: (23, 3, 39, .ifCond .eq 16) :: (26, 1, 0, .iload_n 1) :: (27, 1, 3, .iconst 3) :: (28, 3, 41, .if_icmp .ge 13) :: (31, 1, 0, .aload_n 0) :: (32, 1, 0, .iload_n 2) :: (33, 3, 107, .invokevirtual 63) :: (36, 3, 41, .ifCond .ne 5) :: C_X7_event_39
def C_X7_event_0 : List zCE := (0, 1, 0, .iload_n 1) :: (1, 1, (-1), .iconst (-1)) :: (2, 3, 14, .if_icmp .ne 12) :: (5, 1, 0, .aload_n 0) :: (6, 3, 224, .getfield 11) :: (9, 1, 3, .iconst 3) :: (10, 1, 0, .iconst 0) :: (11, 1, 0, .iastore) :: (12, 1, 0, .iconst 0) :: (13, 1, 0, .ireturn) :: C_X7_event_14
def C_X7_happens_116 : List zCE := (116, 1, 0, .return_) :: []
def C_X7_happens_110 : List zCE := (110, 3, 0, .iinc 3 1) :: (113, 3, 2, .goto (-111)) :: C_X7_happens_116
def C_X7_happens_103 : List zCE := (103, 1, 0, .iastore) :: (104, 3, 0, .iinc 4 1) :: (107, 3, 15, .goto (-92)) :: C_X7_happens_110
def C_X7_happens_96 : List zCE := (96, 1, 0, .aload_n 0) :: (97, 1, 0, .iload_n 3) :: (98, 2, 0, .iload 4) :: (100, 3, 113, .invokevirtual 68) :: C_X7_happens_103
def C_X7_happens_71 : List zCE := (71, 2, 0, .istore 5) :: (73, 1, 0, .aload_n 0) :: (74, 3, 224, .getfield 11) :: (77, 2, 29, .bipush 29) :: (79, 2, 6, .bipush 6) :: (81, 1, 0, .iload_n 3) :: (82, 1, 0, .imul) :: (83, 1, 0, .iadd) :: (84, 2, 0, .iload 4) :: (86, 1, 0, .iadd) :: (87, 2, 0, .iload 5) :: (89, 3, 96, .ifCond .eq 7) :: (92, 1, 0, .iconst 0) :: (93, 3, 103, .goto 10) :: C_X7_happens_96
def C_X7_happens_70 : List zCE := (70, 1, 0, .iconst 0) :: C_X7_happens_71
def C_X7_happens_66 : List zCE := (66, 1, 1, .iconst 1) :: (67, 3, 71, .goto 4) :: C_X7_happens_70
def C_X7_happens_50 : List zCE := (50, 2, 0, .iload 4) :: (52, 1, 0, .iload_n 2) :: (53, 3, 70, .if_icmp .ne 17) :: (56, 1, 0, .iload_n 1) :: (57, 1, 2, .iconst 2) :: (58, 3, 66, .if_icmp .eq 8) :: (61, 1, 0, .iload_n 1) :: (62, 1, 0, .iload_n 3) :: (63, 3, 70, .if_icmp .ne 7) :: C_X7_happens_66
def C_X7_happens_46 : List zCE := (46, 1, 0, .iconst 0) :: (47, 3, 71, .goto 24) :: C_X7_happens_50
def C_X7_happens_15 : List zCE := (15, 2, 0, .iload 4) :: (17, 1, 0, .aload_n 0) :: (18, 3, 224, .getfield 11) :: (21, 1, 1, .iconst 1) :: (22, 1, 0, .iaload) :: (23, 3, 110, .if_icmp .ge 87) :: (26, 1, 0, .iload_n 1) :: (27, 1, 3, .iconst 3) :: (28, 3, 50, .if_icmp .ne 22) :: (31, 1, 0, .aload_n 0) :: (32, 1, 0, .iload_n 3) :: (33, 2, 0, .iload 4) :: (35, 3, 113, .invokevirtual 68) :: (38, 1, 0, .iload_n 2) :: (39, 3, 46, .if_icmp .ge 7) :: (42, 1, 1, .iconst 1) :: (43, 3, 71, .goto 28) :: C_X7_happens_46
def C_X7_happens_2 : List zCE := (2, 1, 0, .iload_n 3) :: (3, 1, 0, .aload_n 0) :: (4, 3, 224, .getfield 11) :: (7, 1, 0, .iconst 0) :: (8, 1, 0, .iaload) :: (9, 3, 116, .if_icmp .ge 107) :: (12, 1, 0, .iconst 0) :: (13, 2, 0, .istore 4) :: C_X7_happens_15
def C_X7_happens_0 : List zCE := (0, 1, 0, .iconst 0) :: (1, 1, 0, .istore_n 3) :: C_X7_happens_2
def C_X7_afterNow_35 : List zCE := (35, 1, 0, .lreturn) :: []
def C_X7_afterNow_29 : List zCE := (29, 1, 0, .aload_n 0) :: (30, 1, 0, .iconst 0) :: (31, 1, 0, .iload_n 1) :: (32, 3, 153, .invokevirtual 192) :: C_X7_afterNow_35
def C_X7_afterNow_13 : List zCE := (13, 1, 0, .iload_n 1) :: (14, 1, 2, .iconst 2) :: (15, 3, 29, .if_icmp .ne 14) :: (18, 1, 0, .aload_n 0) :: (19, 3, 229, .getfield 153) :: (22, 3, 118, .invokestatic 76) :: (25, 1, 0, .i2l) :: (26, 3, 35, .goto 9) :: C_X7_afterNow_29
def C_X7_afterNow_0 : List zCE := (0, 1, 0, .aload_n 0) :: (1, 1, 0, .iconst 0) :: (2, 1, 1, .iconst 1) :: (3, 3, 148, .invokevirtual 185) :: (6, 3, 13, .ifCond .ne 7) :: (9, 3, (-9223372036854775808), .ldc2_w 100) :: (12, 1, 0, .lreturn) :: C_X7_afterNow_13
def C_X7_after_77 : List zCE := (77, 1, 0, .aload_n 0) :: (78, 1, 0, .iload_n 1) :: (79, 3, 178, .invokevirtual 280) :: (82, 1, 0, .lstore_n 2) :: (83, 1, 0, .aload_n 0) :: (84, 3, 226, .getfield 18) :: (87, 1, 0, .iconst 0) :: (88, 1, 0, .aload_n 0) :: (89, 3, 224, .getfield 11) :: (92, 1, 0, .iconst 0) :: (93, 2, 82, .bipush 82) :: (95, 3, 9999, .invokestatic 209) :: (98, 1, 0, .lload_n 2) :: (99, 1, 0, .lreturn) :: []
def C_X7_after_33 : List zCE := (33, 1, 0, .iload_n 2) :: (34, 1, 0, .aload_n 0) :: (35, 3, 226, .getfield 18) :: (38, 1, 3, .iconst 3) :: (39, 1, 0, .iaload) :: (40, 3, 77, .if_icmp .ge 37) :: (43, 1, 0, .aload_n 0) :: (44, 1, 0, .aload_n 0) :: (45, 3, 226, .getfield 18) :: (48, 2, 58, .bipush 58) :: (50, 1, 2, .iconst 2) :: (51, 1, 0, .iload_n 2) :: (52, 1, 0, .imul) :: (53, 1, 0, .iadd) :: (54, 1, 0, .iaload) :: (55, 1, 0, .aload_n 0) :: (56, 3, 226, .getfield 18) :: (59, 2, 58, .bipush 58) :: (61, 1, 2, .iconst 2) :: (62, 1, 0, .iload_n 2) :: (63, 1, 0, .imul) :: (64, 1, 0, .iadd) :: (65, 1, 1, .iconst 1) :: (66, 1, 0, .iadd) :: (67, 1, 0, .iaload) :: (68, 3, 177, .invokevirtual 277) :: (71, 3, 0, .iinc 2 1) :: (74, 3, 33, .goto (-41)) :: C_X7_after_77
def C_X7_after_16 : List zCE := (16, 1, 0, .aload_n 0) :: (17, 3, 224, .getfield 11) :: (20, 1, 0, .iconst 0) :: (21, 1, 0, .aload_n 0) :: (22, 3, 226, .getfield 18) :: (25, 1, 0, .iconst 0) :: (26, 2, 82, .bipush 82) :: (28, 3, 9999, .invokestatic 209) :: (31, 1, 0, .iconst 0) :: (32, 1, 0, .istore_n 2) :: C_X7_after_33
def C_X7_after_0 : List zCE := (0, 1, 0, .iload_n 1) :: (1, 1, 0, .i2l) :: (2, 1, 0, .lconst 0) :: (3, 3, 2, .ldc2_w 55) :: (6, 3, 105, .invokestatic 47) :: (9, 3, 16, .ifCond .ne 7) :: (12, 3, (-9223372036854775808), .ldc2_w 100) :: (15, 1, 0, .lreturn) :: C_X7_after_16
def C_X7_book_46 : List zCE := (46, 1, 0, .aload_n 0) :: (47, 3, 224, .getfield 11) :: (50, 2, 74, .bipush 74) :: (52, 1, 0, .aload_n 0) :: (53, 3, 224, .getfield 11) :: (56, 1, 4, .iconst 4) :: (57, 1, 0, .iaload) :: (58, 1, 0, .iadd) :: (59, 2, 10, .bipush 10) :: (61, 1, 0, .iload_n 1) :: (62, 1, 0, .imul) :: (63, 1, 0, .iload_n 2) :: (64, 1, 0, .iadd) :: (65, 1, 0, .iastore) :: (66, 1, 0, .aload_n 0) :: (67, 3, 224, .getfield 11) :: (70, 1, 4, .iconst 4) :: (71, 1, 0, .dup2) :: (72, 1, 0, .iaload) :: (73, 1, 1, .iconst 1) :: (74, 1, 0, .iadd) :: (75, 1, 0, .iastore) :: (76, 1, 0, .aload_n 0) :: (77, 3, 224, .getfield 11) :: (80, 1, 4, .iconst 4) :: (81, 1, 0, .iaload) :: (82, 1, 0, .ireturn) :: []
def C_X7_book_32 : List zCE := (32, 1, 0, .aload_n 0) :: (33, 3, 224, .getfield 11) :: (36, 1, 4, .iconst 4) :: (37, 1, 0, .iaload) :: (38, 2, 8, .bipush 8) :: (40, 3, 46, .if_icmp .ne 6) :: (43, 2, (-4), .bipush (-4)) :: (45, 1, 0, .ireturn) :: C_X7_book_46
def C_X7_book_30 : List zCE := (30, 1, (-1), .iconst (-1)) :: (31, 1, 0, .ireturn) :: C_X7_book_32
def C_X7_book_14 : List zCE := (14, 1, 0, .aload_n 0) :: (15, 1, 0, .iload_n 1) :: (16, 3, 107, .invokevirtual 63) :: (19, 3, 30, .ifCond .eq 11) :: (22, 1, 0, .aload_n 0) :: (23, 1, 0, .iload_n 2) :: (24, 3, 106, .invokevirtual 51) :: (27, 3, 32, .ifCond .ne 5) :: C_X7_book_30
def C_X7_book_0 : List zCE := (0, 1, 0, .iload_n 1) :: (1, 1, (-1), .iconst (-1)) :: (2, 3, 14, .if_icmp .ne 12) :: (5, 1, 0, .aload_n 0) :: (6, 3, 224, .getfield 11) :: (9, 1, 4, .iconst 4) :: (10, 1, 0, .iconst 0) :: (11, 1, 0, .iastore) :: (12, 1, 0, .iconst 0) :: (13, 1, 0, .ireturn) :: C_X7_book_14
def C_X7_looked_51 : List zCE := (51, 2, (-5), .bipush (-5)) :: (53, 1, 0, .ireturn) :: []
def C_X7_looked_45 : List zCE := (45, 3, 0, .iinc 1 1) :: (48, 3, 2, .goto (-46)) :: C_X7_looked_51
def C_X7_looked_2 : List zCE := (2, 1, 0, .iload_n 1) :: (3, 1, 0, .aload_n 0) :: (4, 3, 224, .getfield 11) :: (7, 1, 4, .iconst 4) :: (8, 1, 0, .iaload) :: (9, 3, 51, .if_icmp .ge 42) :: (12, 1, 0, .aload_n 0) :: (13, 1, 0, .aload_n 0) :: (14, 3, 224, .getfield 11) :: (17, 2, 74, .bipush 74) :: (19, 1, 0, .iload_n 1) :: (20, 1, 0, .iadd) :: (21, 1, 0, .iaload) :: (22, 2, 10, .bipush 10) :: (24, 1, 0, .irem) :: (25, 1, 0, .aload_n 0) :: (26, 3, 224, .getfield 11) :: (29, 2, 74, .bipush 74) :: (31, 1, 0, .iload_n 1) :: (32, 1, 0, .iadd) :: (33, 1, 0, .iaload) :: (34, 2, 10, .bipush 10) :: (36, 1, 0, .idiv) :: (37, 3, 127, .invokevirtual 102) :: (40, 3, 45, .ifCond .ne 5) :: (43, 1, 0, .iload_n 1) :: (44, 1, 0, .ireturn) :: C_X7_looked_45
def C_X7_looked_0 : List zCE := (0, 1, 0, .iconst 0) :: (1, 1, 0, .istore_n 1) :: C_X7_looked_2
def C_X7_image_0 : List zCE := (0, 1, 0, .aload_n 0) :: (1, 3, 224, .getfield 11) :: (4, 1, 0, .iconst 0) :: (5, 1, 0, .aload_n 0) :: (6, 3, 225, .getfield 15) :: (9, 1, 0, .iconst 0) :: (10, 2, 82, .bipush 82) :: (12, 3, 9999, .invokestatic 209) :: (15, 1, 0, .aload_n 0) :: (16, 1, 1, .iconst 1) :: (17, 3, 227, .putfield 284) :: (20, 1, 0, .aload_n 0) :: (21, 3, 224, .getfield 11) :: (24, 1, 1, .iconst 1) :: (25, 1, 0, .iaload) :: (26, 1, 0, .ireturn) :: []
def C_X7_undo_10 : List zCE := (10, 1, 0, .aload_n 0) :: (11, 3, 225, .getfield 15) :: (14, 1, 0, .iconst 0) :: (15, 1, 0, .aload_n 0) :: (16, 3, 224, .getfield 11) :: (19, 1, 0, .iconst 0) :: (20, 2, 82, .bipush 82) :: (22, 3, 9999, .invokestatic 209) :: (25, 1, 0, .aload_n 0) :: (26, 3, 224, .getfield 11) :: (29, 1, 1, .iconst 1) :: (30, 1, 0, .iaload) :: (31, 1, 0, .ireturn) :: []
def C_X7_undo_0 : List zCE := (0, 1, 0, .aload_n 0) :: (1, 3, 227, .getfield 284) :: (4, 3, 10, .ifCond .ne 6) :: (7, 2, (-3), .bipush (-3)) :: (9, 1, 0, .ireturn) :: C_X7_undo_10
def C_X7_count_58 : List zCE := (58, 2, (-2), .bipush (-2)) :: (60, 1, 0, .ireturn) :: []
def C_X7_count_53 : List zCE := (53, 1, 0, .aload_n 0) :: (54, 3, 241, .getfield 230) :: (57, 1, 0, .ireturn) :: C_X7_count_58
def C_X7_count_46 : List zCE := (46, 1, 0, .aload_n 0) :: (47, 3, 224, .getfield 11) :: (50, 1, 4, .iconst 4) :: (51, 1, 0, .iaload) :: (52, 1, 0, .ireturn) :: C_X7_count_53
def C_X7_count_39 : List zCE := (39, 1, 0, .aload_n 0) :: (40, 3, 224, .getfield 11) :: (43, 1, 3, .iconst 3) :: (44, 1, 0, .iaload) :: (45, 1, 0, .ireturn) :: C_X7_count_46
def C_X7_count_32 : List zCE := (32, 1, 0, .aload_n 0) :: (33, 3, 224, .getfield 11) :: (36, 1, 2, .iconst 2) :: (37, 1, 0, .iaload) :: (38, 1, 0, .ireturn) :: C_X7_count_39
def C_X7_count_0 : List zCE := (0, 1, 0, .iload_n 1) :: (1, 31, 0, .tableswitch 57 0 3 #[31, 38, 45, 52]) :: C_X7_count_32
def C_X7_isTape_0 : List zCE := (0, 1, 0, .iload_n 0) :: (1, 1, 0, .i2l) :: (2, 1, 0, .lconst 0) :: (3, 3, 5, .ldc2_w 288) :: (6, 3, 105, .invokestatic 47) :: (9, 1, 1, .ireturn) :: []
def C_X7_tape_101 : List zCE := (101, 1, 1, .iconst 1) :: (102, 1, 0, .ireturn) :: []
def C_X7_tape_75 : List zCE := (75, 2, 0, .iload 4) :: (77, 2, 60, .bipush 60) :: (79, 3, 101, .if_icmp .ge 22) :: (82, 1, 0, .aload_n 0) :: (83, 3, 246, .getfield 43) :: (86, 2, 60, .bipush 60) :: (88, 1, 0, .iload_n 1) :: (89, 1, 0, .imul) :: (90, 2, 0, .iload 4) :: (92, 1, 0, .iadd) :: (93, 1, 0, .lconst 0) :: (94, 1, 0, .lastore) :: (95, 3, 0, .iinc 4 1) :: (98, 3, 75, .goto (-23)) :: C_X7_tape_101
def C_X7_tape_71 : List zCE := (71, 1, 0, .iastore) :: (72, 1, 0, .iconst 0) :: (73, 2, 0, .istore 4) :: C_X7_tape_75
def C_X7_tape_70 : List zCE := (70, 1, 0, .iload_n 3) :: C_X7_tape_71
def C_X7_tape_49 : List zCE := (49, 1, 0, .aload_n 0) :: (50, 3, 244, .getfield 37) :: (53, 1, 0, .iload_n 1) :: (54, 1, 0, .iload_n 2) :: (55, 1, 0, .iastore) :: (56, 1, 0, .aload_n 0) :: (57, 3, 245, .getfield 40) :: (60, 1, 0, .iload_n 1) :: (61, 1, 0, .iload_n 2) :: (62, 1, (-1), .iconst (-1)) :: (63, 3, 70, .if_icmp .ne 7) :: (66, 1, 0, .iconst 0) :: (67, 3, 71, .goto 4) :: C_X7_tape_70
def C_X7_tape_37 : List zCE := (37, 1, 0, .iload_n 2) :: (38, 1, (-1), .iconst (-1)) :: (39, 3, 49, .if_icmp .eq 10) :: (42, 1, 0, .iload_n 3) :: (43, 3, 49, .ifCond .ge 6) :: (46, 2, (-14), .bipush (-14)) :: (48, 1, 0, .ireturn) :: C_X7_tape_49
def C_X7_tape_34 : List zCE := (34, 2, (-2), .bipush (-2)) :: (36, 1, 0, .ireturn) :: C_X7_tape_37
def C_X7_tape_9 : List zCE := (9, 1, 0, .iload_n 2) :: (10, 1, 0, .i2l) :: (11, 3, (-1), .ldc2_w 195) :: (14, 3, 4, .ldc2_w 57) :: (17, 3, 105, .invokestatic 47) :: (20, 3, 34, .ifCond .eq 14) :: (23, 1, 0, .iload_n 2) :: (24, 1, (-1), .iconst (-1)) :: (25, 3, 37, .if_icmp .eq 12) :: (28, 1, 0, .iload_n 3) :: (29, 2, 60, .bipush 60) :: (31, 3, 37, .if_icmp .le 6) :: C_X7_tape_34
def C_X7_tape_0 : List zCE := (0, 1, 0, .iload_n 1) :: (1, 3, 185, .invokestatic 290) :: (4, 3, 9, .ifCond .ne 5) :: (7, 1, (-1), .iconst (-1)) :: (8, 1, 0, .ireturn) :: C_X7_tape_9
def C_X7_kept_59 : List zCE := (59, 1, 0, .lreturn) :: []
def C_X7_kept_58 : List zCE := (58, 1, 1, .lconst 1) :: C_X7_kept_59
def C_X7_kept_48 : List zCE := (48, 1, 0, .lload_n 1) :: (49, 1, 0, .lconst 0) :: (50, 1, 0, .lcmp) :: (51, 3, 58, .ifCond .ne 7) :: (54, 1, 0, .lconst 0) :: (55, 3, 59, .goto 4) :: C_X7_kept_58
def C_X7_kept_46 : List zCE := (46, 1, 0, .lload_n 1) :: (47, 1, 0, .lreturn) :: C_X7_kept_48
def C_X7_kept_42 : List zCE := (42, 1, 0, .lload_n 1) :: (43, 1, 0, .l2i) :: (44, 1, 0, .i2l) :: (45, 1, 0, .lreturn) :: C_X7_kept_46
def C_X7_kept_37 : List zCE := (37, 1, 0, .lload_n 1) :: (38, 1, 0, .l2i) :: (39, 1, 0, .i2s) :: (40, 1, 0, .i2l) :: (41, 1, 0, .lreturn) :: C_X7_kept_42
def C_X7_kept_32 : List zCE := (32, 1, 0, .lload_n 1) :: (33, 1, 0, .l2i) :: (34, 1, 0, .i2b) :: (35, 1, 0, .i2l) :: (36, 1, 0, .lreturn) :: C_X7_kept_37
def C_X7_kept_0 : List zCE := (0, 1, 0, .iload_n 0) :: (1, 31, 0, .tableswitch 47 0 3 #[31, 36, 41, 45]) :: C_X7_kept_32
def C_X7_item_43 : List zCE := (43, 1, 0, .aload_n 0) :: (44, 3, 246, .getfield 43) :: (47, 2, 60, .bipush 60) :: (49, 1, 0, .iload_n 1) :: (50, 1, 0, .imul) :: (51, 1, 0, .iload_n 2) :: (52, 1, 0, .iadd) :: (53, 1, 0, .aload_n 0) :: (54, 3, 244, .getfield 37) :: (57, 1, 0, .iload_n 1) :: (58, 1, 0, .iaload) :: (59, 1, 0, .lload_n 3) :: (60, 3, 187, .invokestatic 293) :: (63, 1, 0, .lastore) :: (64, 1, 1, .iconst 1) :: (65, 1, 0, .ireturn) :: []
def C_X7_item_22 : List zCE := (22, 1, 0, .iload_n 2) :: (23, 1, 0, .i2l) :: (24, 1, 0, .lconst 0) :: (25, 1, 0, .aload_n 0) :: (26, 3, 245, .getfield 40) :: (29, 1, 0, .iload_n 1) :: (30, 1, 0, .iaload) :: (31, 1, 1, .iconst 1) :: (32, 1, 0, .isub) :: (33, 1, 0, .i2l) :: (34, 3, 105, .invokestatic 47) :: (37, 3, 43, .ifCond .ne 6) :: (40, 2, (-13), .bipush (-13)) :: (42, 1, 0, .ireturn) :: C_X7_item_43
def C_X7_item_9 : List zCE := (9, 1, 0, .aload_n 0) :: (10, 3, 244, .getfield 37) :: (13, 1, 0, .iload_n 1) :: (14, 1, 0, .iaload) :: (15, 1, (-1), .iconst (-1)) :: (16, 3, 22, .if_icmp .ne 6) :: (19, 2, (-11), .bipush (-11)) :: (21, 1, 0, .ireturn) :: C_X7_item_22
def C_X7_item_0 : List zCE := (0, 1, 0, .iload_n 1) :: (1, 3, 185, .invokestatic 290) :: (4, 3, 9, .ifCond .ne 5) :: (7, 1, (-1), .iconst (-1)) :: (8, 1, 0, .ireturn) :: C_X7_item_9
def C_X7_peek_42 : List zCE := (42, 1, 0, .lreturn) :: []
def C_X7_peek_39 : List zCE := (39, 3, (-9223372036854775808), .ldc2_w 100) :: C_X7_peek_42
def C_X7_peek_0 : List zCE := (0, 1, 0, .iload_n 1) :: (1, 3, 185, .invokestatic 290) :: (4, 3, 39, .ifCond .eq 35) :: (7, 1, 0, .iload_n 2) :: (8, 1, 0, .i2l) :: (9, 1, 0, .lconst 0) :: (10, 1, 0, .aload_n 0) :: (11, 3, 245, .getfield 40) :: (14, 1, 0, .iload_n 1) :: (15, 1, 0, .iaload) :: (16, 1, 1, .iconst 1) :: (17, 1, 0, .isub) :: (18, 1, 0, .i2l) :: (19, 3, 105, .invokestatic 47) :: (22, 3, 39, .ifCond .eq 17) :: (25, 1, 0, .aload_n 0) :: (26, 3, 246, .getfield 43) :: (29, 2, 60, .bipush 60) :: (31, 1, 0, .iload_n 1) :: (32, 1, 0, .imul) :: (33, 1, 0, .iload_n 2) :: (34, 1, 0, .iadd) :: (35, 1, 0, .laload) :: (36, 3, 42, .goto 6) :: C_X7_peek_39
def C_X7_shift_101 : List zCE := (101, 1, 0, .aload_n 0) :: (102, 3, 246, .getfield 43) :: (105, 2, 60, .bipush 60) :: (107, 1, 0, .iload_n 1) :: (108, 1, 0, .imul) :: (109, 1, 0, .iload_n 2) :: (110, 1, 0, .iadd) :: (111, 1, 0, .aload_n 0) :: (112, 3, 246, .getfield 43) :: (115, 2, 60, .bipush 60) :: (117, 1, 0, .iload_n 3) :: (118, 1, 0, .imul) :: (119, 2, 0, .iload 4) :: (121, 1, 0, .iadd) :: (122, 2, 0, .iload 5) :: (124, 3, 9999, .invokestatic 209) :: (127, 2, 0, .iload 5) :: (129, 1, 0, .ireturn) :: []
def C_X7_shift_98 : List zCE := (98, 2, (-13), .bipush (-13)) :: (100, 1, 0, .ireturn) :: C_X7_shift_101
def C_X7_shift_57 : List zCE := (57, 2, 0, .iload 5) :: (59, 3, 98, .ifCond .lt 39) :: (62, 1, 0, .iload_n 2) :: (63, 3, 98, .ifCond .lt 35) :: (66, 2, 0, .iload 4) :: (68, 3, 98, .ifCond .lt 30) :: (71, 1, 0, .iload_n 2) :: (72, 1, 0, .aload_n 0) :: (73, 3, 245, .getfield 40) :: (76, 1, 0, .iload_n 1) :: (77, 1, 0, .iaload) :: (78, 2, 0, .iload 5) :: (80, 1, 0, .isub) :: (81, 3, 98, .if_icmp .gt 17) :: (84, 2, 0, .iload 4) :: (86, 1, 0, .aload_n 0) :: (87, 3, 245, .getfield 40) :: (90, 1, 0, .iload_n 3) :: (91, 1, 0, .iaload) :: (92, 2, 0, .iload 5) :: (94, 1, 0, .isub) :: (95, 3, 101, .if_icmp .le 6) :: C_X7_shift_98
def C_X7_shift_39 : List zCE := (39, 1, 0, .aload_n 0) :: (40, 3, 244, .getfield 37) :: (43, 1, 0, .iload_n 1) :: (44, 1, 0, .iaload) :: (45, 1, 0, .aload_n 0) :: (46, 3, 244, .getfield 37) :: (49, 1, 0, .iload_n 3) :: (50, 1, 0, .iaload) :: (51, 3, 57, .if_icmp .eq 6) :: (54, 2, (-12), .bipush (-12)) :: (56, 1, 0, .ireturn) :: C_X7_shift_57
def C_X7_shift_36 : List zCE := (36, 2, (-11), .bipush (-11)) :: (38, 1, 0, .ireturn) :: C_X7_shift_39
def C_X7_shift_16 : List zCE := (16, 1, 0, .aload_n 0) :: (17, 3, 244, .getfield 37) :: (20, 1, 0, .iload_n 1) :: (21, 1, 0, .iaload) :: (22, 1, (-1), .iconst (-1)) :: (23, 3, 36, .if_icmp .eq 13) :: (26, 1, 0, .aload_n 0) :: (27, 3, 244, .getfield 37) :: (30, 1, 0, .iload_n 3) :: (31, 1, 0, .iaload) :: (32, 1, (-1), .iconst (-1)) :: (33, 3, 39, .if_icmp .ne 6) :: C_X7_shift_36
def C_X7_shift_14 : List zCE := (14, 1, (-1), .iconst (-1)) :: (15, 1, 0, .ireturn) :: C_X7_shift_16
def C_X7_shift_0 : List zCE := (0, 1, 0, .iload_n 1) :: (1, 3, 185, .invokestatic 290) :: (4, 3, 14, .ifCond .eq 10) :: (7, 1, 0, .iload_n 3) :: (8, 3, 185, .invokestatic 290) :: (11, 3, 16, .ifCond .ne 5) :: C_X7_shift_14
def C_X7_judge_99 : List zCE := (99, 2, (-5), .bipush (-5)) :: (101, 1, 0, .ireturn) :: []
def C_X7_judge_93 : List zCE := (93, 3, 0, .iinc 3 1) :: (96, 3, 34, .goto (-62)) :: C_X7_judge_99
def C_X7_judge_65 : List zCE := (65, 1, 0, .aload_n 0) :: (66, 3, 246, .getfield 43) :: (69, 2, 60, .bipush 60) :: (71, 1, 0, .iload_n 1) :: (72, 1, 0, .imul) :: (73, 1, 0, .iload_n 2) :: (74, 1, 0, .iadd) :: (75, 1, 0, .iload_n 3) :: (76, 1, 0, .iadd) :: (77, 1, 0, .laload) :: (78, 1, 0, .aload_n 0) :: (79, 3, 224, .getfield 11) :: (82, 1, 5, .iconst 5) :: (83, 1, 0, .iload_n 3) :: (84, 1, 0, .iadd) :: (85, 1, 0, .iaload) :: (86, 1, 0, .i2l) :: (87, 1, 0, .lcmp) :: (88, 3, 93, .ifCond .eq 5) :: (91, 1, 0, .iload_n 3) :: (92, 1, 0, .ireturn) :: C_X7_judge_93
def C_X7_judge_60 : List zCE := (60, 2, 100, .bipush 100) :: (62, 1, 0, .iload_n 3) :: (63, 1, 0, .iadd) :: (64, 1, 0, .ireturn) :: C_X7_judge_65
def C_X7_judge_34 : List zCE := (34, 1, 0, .iload_n 3) :: (35, 1, 0, .aload_n 0) :: (36, 3, 224, .getfield 11) :: (39, 1, 1, .iconst 1) :: (40, 1, 0, .iaload) :: (41, 3, 99, .if_icmp .ge 58) :: (44, 1, 0, .iload_n 2) :: (45, 3, 60, .ifCond .lt 15) :: (48, 1, 0, .iload_n 2) :: (49, 1, 0, .aload_n 0) :: (50, 3, 245, .getfield 40) :: (53, 1, 0, .iload_n 1) :: (54, 1, 0, .iaload) :: (55, 1, 0, .iload_n 3) :: (56, 1, 0, .isub) :: (57, 3, 65, .if_icmp .lt 8) :: C_X7_judge_60
def C_X7_judge_32 : List zCE := (32, 1, 0, .iconst 0) :: (33, 1, 0, .istore_n 3) :: C_X7_judge_34
def C_X7_judge_9 : List zCE := (9, 1, 0, .aload_n 0) :: (10, 3, 244, .getfield 37) :: (13, 1, 0, .iload_n 1) :: (14, 1, 0, .iaload) :: (15, 1, (-1), .iconst (-1)) :: (16, 3, 32, .if_icmp .eq 16) :: (19, 1, 0, .aload_n 0) :: (20, 3, 244, .getfield 37) :: (23, 1, 0, .iload_n 1) :: (24, 1, 0, .iaload) :: (25, 1, 3, .iconst 3) :: (26, 3, 32, .if_icmp .eq 6) :: (29, 2, (-12), .bipush (-12)) :: (31, 1, 0, .ireturn) :: C_X7_judge_32
def C_X7_judge_0 : List zCE := (0, 1, 0, .iload_n 1) :: (1, 3, 185, .invokestatic 290) :: (4, 3, 9, .ifCond .ne 5) :: (7, 1, (-1), .iconst (-1)) :: (8, 1, 0, .ireturn) :: C_X7_judge_9
def C_J6_bitCount_0 : List zCE := (0, 1, 0, .iload_n 0) :: (1, 1, 0, .iload_n 0) :: (2, 1, 1, .iconst 1) :: (3, 1, 0, .iushr) :: (4, 3, 1431655765, .ldc_w 265) :: (7, 1, 0, .iand) :: (8, 1, 0, .isub) :: (9, 1, 0, .istore_n 0) :: (10, 1, 0, .iload_n 0) :: (11, 3, 858993459, .ldc_w 266) :: (14, 1, 0, .iand) :: (15, 1, 0, .iload_n 0) :: (16, 1, 2, .iconst 2) :: (17, 1, 0, .iushr) :: (18, 3, 858993459, .ldc_w 266) :: (21, 1, 0, .iand) :: (22, 1, 0, .iadd) :: (23, 1, 0, .istore_n 0) :: (24, 1, 0, .iload_n 0) :: (25, 1, 0, .iload_n 0) :: (26, 1, 4, .iconst 4) :: (27, 1, 0, .iushr) :: (28, 1, 0, .iadd) :: (29, 3, 252645135, .ldc_w 267) :: (32, 1, 0, .iand) :: (33, 1, 0, .istore_n 0) :: (34, 1, 0, .iload_n 0) :: (35, 1, 0, .iload_n 0) :: (36, 2, 8, .bipush 8) :: (38, 1, 0, .iushr) :: (39, 1, 0, .iadd) :: (40, 1, 0, .istore_n 0) :: (41, 1, 0, .iload_n 0) :: (42, 1, 0, .iload_n 0) :: (43, 2, 16, .bipush 16) :: (45, 1, 0, .iushr) :: (46, 1, 0, .iadd) :: (47, 1, 0, .istore_n 0) :: (48, 1, 0, .iload_n 0) :: (49, 2, 63, .bipush 63) :: (51, 1, 0, .iand) :: (52, 1, 0, .ireturn) :: []
def C_L_law_1469 : List zCE := (1469, 1, 1, .iconst 1) :: (1470, 1, 1, .ireturn) :: []
def C_L_law_1463 : List zCE := (1463, 3, 0, .iinc 3 6) :: (1466, 3, 18, .goto (-1448)) :: C_L_law_1469
def C_L_law_1400 : List zCE := (1400, 1, 0, .aload_n 1) :: (1401, 1, 0, .aload_n 0) :: (1402, 1, 0, .iload_n 3) :: (1403, 1, 1, .iconst 1) :: (1404, 1, 0, .iadd) :: (1405, 1, 0, .iaload) :: (1406, 1, 0, .aload_n 0) :: (1407, 1, 0, .iload_n 3) :: (1408, 1, 2, .iconst 2) :: (1409, 1, 0, .iadd) :: (1410, 1, 0, .iaload) :: (1411, 1, 0, .aload_n 0) :: (1412, 1, 0, .iload_n 3) :: (1413, 1, 3, .iconst 3) :: (1414, 1, 0, .iadd) :: (1415, 1, 0, .iaload) :: (1416, 1, 0, .aload_n 0) :: (1417, 1, 0, .iload_n 3) :: (1418, 1, 4, .iconst 4) :: (1419, 1, 0, .iadd) :: (1420, 1, 0, .iaload) :: (1421, 1, 0, .aload_n 0) :: (1422, 1, 0, .iload_n 3) :: (1423, 1, 5, .iconst 5) :: (1424, 1, 0, .iadd) :: (1425, 1, 0, .iaload) :: (1426, 3, 84, .invokevirtual 172) :: (1429, 1, 0, .aload_n 2) :: (1430, 1, 0, .aload_n 0) :: (1431, 1, 0, .iload_n 3) :: (1432, 1, 1, .iconst 1) :: (1433, 1, 0, .iadd) :: (1434, 1, 0, .iaload) :: (1435, 1, 0, .aload_n 0) :: (1436, 1, 0, .iload_n 3) :: (1437, 1, 2, .iconst 2) :: (1438, 1, 0, .iadd) :: (1439, 1, 0, .iaload) :: (1440, 1, 0, .aload_n 0) :: (1441, 1, 0, .iload_n 3) :: (1442, 1, 3, .iconst 3) :: (1443, 1, 0, .iadd) :: (1444, 1, 0, .iaload) :: (1445, 1, 0, .aload_n 0) :: (1446, 1, 0, .iload_n 3) :: (1447, 1, 4, .iconst 4) :: (1448, 1, 0, .iadd) :: (1449, 1, 0, .iaload) :: (1450, 1, 0, .aload_n 0) :: (1451, 1, 0, .iload_n 3) :: (1452, 1, 5, .iconst 5) :: (1453, 1, 0, .iadd) :: (1454, 1, 0, .iaload) :: (1455, 3, 190, .invokevirtual 176) :: (1458, 3, 1463, .if_icmp .eq 5) :: (1461, 1, 0, .iconst 0) :: (1462, 1, 1, .ireturn) :: C_L_law_1463
def C_L_law_1366 : List zCE := (1366, 1, 0, .aload_n 1) :: (1367, 1, 0, .aload_n 0) :: (1368, 1, 0, .iload_n 3) :: (1369, 1, 1, .iconst 1) :: (1370, 1, 0, .iadd) :: (1371, 1, 0, .iaload) :: (1372, 1, 0, .aload_n 0) :: (1373, 1, 0, .iload_n 3) :: (1374, 1, 2, .iconst 2) :: (1375, 1, 0, .iadd) :: (1376, 1, 0, .iaload) :: (1377, 3, 83, .invokevirtual 168) :: (1380, 1, 0, .aload_n 2) :: (1381, 1, 0, .aload_n 0) :: (1382, 1, 0, .iload_n 3) :: (1383, 1, 1, .iconst 1) :: (1384, 1, 0, .iadd) :: (1385, 1, 0, .iaload) :: (1386, 1, 0, .aload_n 0) :: (1387, 1, 0, .iload_n 3) :: (1388, 1, 2, .iconst 2) :: (1389, 1, 0, .iadd) :: (1390, 1, 0, .iaload) :: (1391, 3, 189, .invokevirtual 171) :: (1394, 1, 0, .lcmp) :: (1395, 3, 1463, .ifCond .eq 68) :: (1398, 1, 0, .iconst 0) :: (1399, 1, 1, .ireturn) :: C_L_law_1400
def C_L_law_1293 : List zCE := (1293, 1, 0, .aload_n 1) :: (1294, 1, 0, .aload_n 0) :: (1295, 1, 0, .iload_n 3) :: (1296, 1, 1, .iconst 1) :: (1297, 1, 0, .iadd) :: (1298, 1, 0, .iaload) :: (1299, 1, 0, .aload_n 0) :: (1300, 1, 0, .iload_n 3) :: (1301, 1, 2, .iconst 2) :: (1302, 1, 0, .iadd) :: (1303, 1, 0, .iaload) :: (1304, 1, 0, .aload_n 0) :: (1305, 1, 0, .iload_n 3) :: (1306, 1, 3, .iconst 3) :: (1307, 1, 0, .iadd) :: (1308, 1, 0, .iaload) :: (1309, 1, 0, .i2l) :: (1310, 2, 32, .bipush 32) :: (1312, 1, 0, .lshl) :: (1313, 1, 0, .aload_n 0) :: (1314, 1, 0, .iload_n 3) :: (1315, 1, 4, .iconst 4) :: (1316, 1, 0, .iadd) :: (1317, 1, 0, .iaload) :: (1318, 1, 0, .i2l) :: (1319, 3, 4294967295, .ldc2_w 161) :: (1322, 1, 0, .land) :: (1323, 1, 0, .lor) :: (1324, 3, 82, .invokevirtual 163) :: (1327, 1, 0, .aload_n 2) :: (1328, 1, 0, .aload_n 0) :: (1329, 1, 0, .iload_n 3) :: (1330, 1, 1, .iconst 1) :: (1331, 1, 0, .iadd) :: (1332, 1, 0, .iaload) :: (1333, 1, 0, .aload_n 0) :: (1334, 1, 0, .iload_n 3) :: (1335, 1, 2, .iconst 2) :: (1336, 1, 0, .iadd) :: (1337, 1, 0, .iaload) :: (1338, 1, 0, .aload_n 0) :: (1339, 1, 0, .iload_n 3) :: (1340, 1, 3, .iconst 3) :: (1341, 1, 0, .iadd) :: (1342, 1, 0, .iaload) :: (1343, 1, 0, .i2l) :: (1344, 2, 32, .bipush 32) :: (1346, 1, 0, .lshl) :: (1347, 1, 0, .aload_n 0) :: (1348, 1, 0, .iload_n 3) :: (1349, 1, 4, .iconst 4) :: (1350, 1, 0, .iadd) :: (1351, 1, 0, .iaload) :: (1352, 1, 0, .i2l) :: (1353, 3, 4294967295, .ldc2_w 161) :: (1356, 1, 0, .land) :: (1357, 1, 0, .lor) :: (1358, 3, 188, .invokevirtual 167) :: (1361, 3, 1463, .if_icmp .eq 102) :: (1364, 1, 0, .iconst 0) :: (1365, 1, 1, .ireturn) :: C_L_law_1366
def C_L_law_1250 : List zCE := (1250, 1, 0, .aload_n 1) :: (1251, 1, 0, .aload_n 0) :: (1252, 1, 0, .iload_n 3) :: (1253, 1, 1, .iconst 1) :: (1254, 1, 0, .iadd) :: (1255, 1, 0, .iaload) :: (1256, 1, 0, .aload_n 0) :: (1257, 1, 0, .iload_n 3) :: (1258, 1, 2, .iconst 2) :: (1259, 1, 0, .iadd) :: (1260, 1, 0, .iaload) :: (1261, 1, 0, .aload_n 0) :: (1262, 1, 0, .iload_n 3) :: (1263, 1, 3, .iconst 3) :: (1264, 1, 0, .iadd) :: (1265, 1, 0, .iaload) :: (1266, 3, 81, .invokevirtual 157) :: (1269, 1, 0, .aload_n 2) :: (1270, 1, 0, .aload_n 0) :: (1271, 1, 0, .iload_n 3) :: (1272, 1, 1, .iconst 1) :: (1273, 1, 0, .iadd) :: (1274, 1, 0, .iaload) :: (1275, 1, 0, .aload_n 0) :: (1276, 1, 0, .iload_n 3) :: (1277, 1, 2, .iconst 2) :: (1278, 1, 0, .iadd) :: (1279, 1, 0, .iaload) :: (1280, 1, 0, .aload_n 0) :: (1281, 1, 0, .iload_n 3) :: (1282, 1, 3, .iconst 3) :: (1283, 1, 0, .iadd) :: (1284, 1, 0, .iaload) :: (1285, 3, 186, .invokevirtual 160) :: (1288, 3, 1463, .if_icmp .eq 175) :: (1291, 1, 0, .iconst 0) :: (1292, 1, 1, .ireturn) :: C_L_law_1293
def C_L_law_1227 : List zCE := (1227, 1, 0, .aload_n 1) :: (1228, 1, 0, .aload_n 0) :: (1229, 1, 0, .iload_n 3) :: (1230, 1, 1, .iconst 1) :: (1231, 1, 0, .iadd) :: (1232, 1, 0, .iaload) :: (1233, 3, 80, .invokevirtual 153) :: (1236, 1, 0, .aload_n 2) :: (1237, 1, 0, .aload_n 0) :: (1238, 1, 0, .iload_n 3) :: (1239, 1, 1, .iconst 1) :: (1240, 1, 0, .iadd) :: (1241, 1, 0, .iaload) :: (1242, 3, 184, .invokevirtual 156) :: (1245, 3, 1463, .if_icmp .eq 218) :: (1248, 1, 0, .iconst 0) :: (1249, 1, 1, .ireturn) :: C_L_law_1250
def C_L_law_1214 : List zCE := (1214, 1, 0, .aload_n 1) :: (1215, 3, 79, .invokevirtual 149) :: (1218, 1, 0, .aload_n 2) :: (1219, 3, 183, .invokevirtual 152) :: (1222, 3, 1463, .if_icmp .eq 241) :: (1225, 1, 0, .iconst 0) :: (1226, 1, 1, .ireturn) :: C_L_law_1227
def C_L_law_1201 : List zCE := (1201, 1, 0, .aload_n 1) :: (1202, 3, 78, .invokevirtual 145) :: (1205, 1, 0, .aload_n 2) :: (1206, 3, 182, .invokevirtual 148) :: (1209, 3, 1463, .if_icmp .eq 254) :: (1212, 1, 0, .iconst 0) :: (1213, 1, 1, .ireturn) :: C_L_law_1214
def C_L_law_1168 : List zCE := (1168, 1, 0, .aload_n 1) :: (1169, 1, 0, .aload_n 0) :: (1170, 1, 0, .iload_n 3) :: (1171, 1, 1, .iconst 1) :: (1172, 1, 0, .iadd) :: (1173, 1, 0, .iaload) :: (1174, 1, 0, .aload_n 0) :: (1175, 1, 0, .iload_n 3) :: (1176, 1, 2, .iconst 2) :: (1177, 1, 0, .iadd) :: (1178, 1, 0, .iaload) :: (1179, 3, 77, .invokevirtual 141) :: (1182, 1, 0, .aload_n 2) :: (1183, 1, 0, .aload_n 0) :: (1184, 1, 0, .iload_n 3) :: (1185, 1, 1, .iconst 1) :: (1186, 1, 0, .iadd) :: (1187, 1, 0, .iaload) :: (1188, 1, 0, .aload_n 0) :: (1189, 1, 0, .iload_n 3) :: (1190, 1, 2, .iconst 2) :: (1191, 1, 0, .iadd) :: (1192, 1, 0, .iaload) :: (1193, 3, 191, .invokevirtual 144) :: (1196, 3, 1463, .if_icmp .eq 267) :: (1199, 1, 0, .iconst 0) :: (1200, 1, 1, .ireturn) :: C_L_law_1201
def C_L_law_1155 : List zCE := (1155, 1, 0, .aload_n 1) :: (1156, 3, 76, .invokevirtual 137) :: (1159, 1, 0, .aload_n 2) :: (1160, 3, 181, .invokevirtual 140) :: (1163, 3, 1463, .if_icmp .eq 300) :: (1166, 1, 0, .iconst 0) :: (1167, 1, 1, .ireturn) :: C_L_law_1168
def C_L_law_1122 : List zCE := (1122, 1, 0, .aload_n 1) :: (1123, 1, 0, .aload_n 0) :: (1124, 1, 0, .iload_n 3) :: (1125, 1, 1, .iconst 1) :: (1126, 1, 0, .iadd) :: (1127, 1, 0, .iaload) :: (1128, 1, 0, .aload_n 0) :: (1129, 1, 0, .iload_n 3) :: (1130, 1, 2, .iconst 2) :: (1131, 1, 0, .iadd) :: (1132, 1, 0, .iaload) :: (1133, 3, 75, .invokevirtual 133) :: (1136, 1, 0, .aload_n 2) :: (1137, 1, 0, .aload_n 0) :: (1138, 1, 0, .iload_n 3) :: (1139, 1, 1, .iconst 1) :: (1140, 1, 0, .iadd) :: (1141, 1, 0, .iaload) :: (1142, 1, 0, .aload_n 0) :: (1143, 1, 0, .iload_n 3) :: (1144, 1, 2, .iconst 2) :: (1145, 1, 0, .iadd) :: (1146, 1, 0, .iaload) :: (1147, 3, 180, .invokevirtual 136) :: (1150, 3, 1463, .if_icmp .eq 313) :: (1153, 1, 0, .iconst 0) :: (1154, 1, 1, .ireturn) :: C_L_law_1155
def C_L_law_1098 : List zCE := (1098, 1, 0, .aload_n 1) :: (1099, 1, 0, .aload_n 0) :: (1100, 1, 0, .iload_n 3) :: (1101, 1, 1, .iconst 1) :: (1102, 1, 0, .iadd) :: (1103, 1, 0, .iaload) :: (1104, 3, 74, .invokevirtual 129) :: (1107, 1, 0, .aload_n 2) :: (1108, 1, 0, .aload_n 0) :: (1109, 1, 0, .iload_n 3) :: (1110, 1, 1, .iconst 1) :: (1111, 1, 0, .iadd) :: (1112, 1, 0, .iaload) :: (1113, 3, 179, .invokevirtual 132) :: (1116, 1, 0, .lcmp) :: (1117, 3, 1463, .ifCond .eq 346) :: (1120, 1, 0, .iconst 0) :: (1121, 1, 1, .ireturn) :: C_L_law_1122
def C_L_law_1065 : List zCE := (1065, 1, 0, .aload_n 1) :: (1066, 1, 0, .aload_n 0) :: (1067, 1, 0, .iload_n 3) :: (1068, 1, 1, .iconst 1) :: (1069, 1, 0, .iadd) :: (1070, 1, 0, .iaload) :: (1071, 1, 0, .aload_n 0) :: (1072, 1, 0, .iload_n 3) :: (1073, 1, 2, .iconst 2) :: (1074, 1, 0, .iadd) :: (1075, 1, 0, .iaload) :: (1076, 3, 73, .invokevirtual 125) :: (1079, 1, 0, .aload_n 2) :: (1080, 1, 0, .aload_n 0) :: (1081, 1, 0, .iload_n 3) :: (1082, 1, 1, .iconst 1) :: (1083, 1, 0, .iadd) :: (1084, 1, 0, .iaload) :: (1085, 1, 0, .aload_n 0) :: (1086, 1, 0, .iload_n 3) :: (1087, 1, 2, .iconst 2) :: (1088, 1, 0, .iadd) :: (1089, 1, 0, .iaload) :: (1090, 3, 176, .invokevirtual 128) :: (1093, 3, 1463, .if_icmp .eq 370) :: (1096, 1, 0, .iconst 0) :: (1097, 1, 1, .ireturn) :: C_L_law_1098
def C_L_law_1031 : List zCE := (1031, 1, 0, .aload_n 1) :: (1032, 1, 0, .aload_n 0) :: (1033, 1, 0, .iload_n 3) :: (1034, 1, 1, .iconst 1) :: (1035, 1, 0, .iadd) :: (1036, 1, 0, .iaload) :: (1037, 1, 0, .aload_n 0) :: (1038, 1, 0, .iload_n 3) :: (1039, 1, 2, .iconst 2) :: (1040, 1, 0, .iadd) :: (1041, 1, 0, .iaload) :: (1042, 3, 72, .invokevirtual 121) :: (1045, 1, 0, .aload_n 2) :: (1046, 1, 0, .aload_n 0) :: (1047, 1, 0, .iload_n 3) :: (1048, 1, 1, .iconst 1) :: (1049, 1, 0, .iadd) :: (1050, 1, 0, .iaload) :: (1051, 1, 0, .aload_n 0) :: (1052, 1, 0, .iload_n 3) :: (1053, 1, 2, .iconst 2) :: (1054, 1, 0, .iadd) :: (1055, 1, 0, .iaload) :: (1056, 3, 175, .invokevirtual 124) :: (1059, 1, 0, .lcmp) :: (1060, 3, 1463, .ifCond .eq 403) :: (1063, 1, 0, .iconst 0) :: (1064, 1, 1, .ireturn) :: C_L_law_1065
def C_L_law_997 : List zCE := (997, 1, 0, .aload_n 1) :: (998, 1, 0, .aload_n 0) :: (999, 1, 0, .iload_n 3) :: (1000, 1, 1, .iconst 1) :: (1001, 1, 0, .iadd) :: (1002, 1, 0, .iaload) :: (1003, 1, 0, .aload_n 0) :: (1004, 1, 0, .iload_n 3) :: (1005, 1, 2, .iconst 2) :: (1006, 1, 0, .iadd) :: (1007, 1, 0, .iaload) :: (1008, 3, 71, .invokevirtual 116) :: (1011, 1, 0, .aload_n 2) :: (1012, 1, 0, .aload_n 0) :: (1013, 1, 0, .iload_n 3) :: (1014, 1, 1, .iconst 1) :: (1015, 1, 0, .iadd) :: (1016, 1, 0, .iaload) :: (1017, 1, 0, .aload_n 0) :: (1018, 1, 0, .iload_n 3) :: (1019, 1, 2, .iconst 2) :: (1020, 1, 0, .iadd) :: (1021, 1, 0, .iaload) :: (1022, 3, 174, .invokevirtual 120) :: (1025, 1, 0, .lcmp) :: (1026, 3, 1463, .ifCond .eq 437) :: (1029, 1, 0, .iconst 0) :: (1030, 1, 1, .ireturn) :: C_L_law_1031
def C_L_law_954 : List zCE := (954, 1, 0, .aload_n 1) :: (955, 1, 0, .aload_n 0) :: (956, 1, 0, .iload_n 3) :: (957, 1, 1, .iconst 1) :: (958, 1, 0, .iadd) :: (959, 1, 0, .iaload) :: (960, 1, 0, .aload_n 0) :: (961, 1, 0, .iload_n 3) :: (962, 1, 2, .iconst 2) :: (963, 1, 0, .iadd) :: (964, 1, 0, .iaload) :: (965, 1, 0, .aload_n 0) :: (966, 1, 0, .iload_n 3) :: (967, 1, 3, .iconst 3) :: (968, 1, 0, .iadd) :: (969, 1, 0, .iaload) :: (970, 3, 70, .invokevirtual 112) :: (973, 1, 0, .aload_n 2) :: (974, 1, 0, .aload_n 0) :: (975, 1, 0, .iload_n 3) :: (976, 1, 1, .iconst 1) :: (977, 1, 0, .iadd) :: (978, 1, 0, .iaload) :: (979, 1, 0, .aload_n 0) :: (980, 1, 0, .iload_n 3) :: (981, 1, 2, .iconst 2) :: (982, 1, 0, .iadd) :: (983, 1, 0, .iaload) :: (984, 1, 0, .aload_n 0) :: (985, 1, 0, .iload_n 3) :: (986, 1, 3, .iconst 3) :: (987, 1, 0, .iadd) :: (988, 1, 0, .iaload) :: (989, 3, 173, .invokevirtual 115) :: (992, 3, 1463, .if_icmp .eq 471) :: (995, 1, 0, .iconst 0) :: (996, 1, 1, .ireturn) :: C_L_law_997
def C_L_law_921 : List zCE := (921, 1, 0, .aload_n 1) :: (922, 1, 0, .aload_n 0) :: (923, 1, 0, .iload_n 3) :: (924, 1, 1, .iconst 1) :: (925, 1, 0, .iadd) :: (926, 1, 0, .iaload) :: (927, 1, 0, .aload_n 0) :: (928, 1, 0, .iload_n 3) :: (929, 1, 2, .iconst 2) :: (930, 1, 0, .iadd) :: (931, 1, 0, .iaload) :: (932, 3, 69, .invokevirtual 108) :: (935, 1, 0, .aload_n 2) :: (936, 1, 0, .aload_n 0) :: (937, 1, 0, .iload_n 3) :: (938, 1, 1, .iconst 1) :: (939, 1, 0, .iadd) :: (940, 1, 0, .iaload) :: (941, 1, 0, .aload_n 0) :: (942, 1, 0, .iload_n 3) :: (943, 1, 2, .iconst 2) :: (944, 1, 0, .iadd) :: (945, 1, 0, .iaload) :: (946, 3, 171, .invokevirtual 111) :: (949, 3, 1463, .if_icmp .eq 514) :: (952, 1, 0, .iconst 0) :: (953, 1, 1, .ireturn) :: C_L_law_954
def C_L_law_897 : List zCE := (897, 1, 0, .aload_n 1) :: (898, 1, 0, .aload_n 0) :: (899, 1, 0, .iload_n 3) :: (900, 1, 1, .iconst 1) :: (901, 1, 0, .iadd) :: (902, 1, 0, .iaload) :: (903, 3, 68, .invokevirtual 103) :: (906, 1, 0, .aload_n 2) :: (907, 1, 0, .aload_n 0) :: (908, 1, 0, .iload_n 3) :: (909, 1, 1, .iconst 1) :: (910, 1, 0, .iadd) :: (911, 1, 0, .iaload) :: (912, 3, 161, .invokevirtual 107) :: (915, 1, 0, .lcmp) :: (916, 3, 1463, .ifCond .eq 547) :: (919, 1, 0, .iconst 0) :: (920, 1, 1, .ireturn) :: C_L_law_921
def C_L_law_874 : List zCE := (874, 1, 0, .aload_n 1) :: (875, 1, 0, .aload_n 0) :: (876, 1, 0, .iload_n 3) :: (877, 1, 1, .iconst 1) :: (878, 1, 0, .iadd) :: (879, 1, 0, .iaload) :: (880, 3, 67, .invokevirtual 99) :: (883, 1, 0, .aload_n 2) :: (884, 1, 0, .aload_n 0) :: (885, 1, 0, .iload_n 3) :: (886, 1, 1, .iconst 1) :: (887, 1, 0, .iadd) :: (888, 1, 0, .iaload) :: (889, 3, 160, .invokevirtual 102) :: (892, 3, 1463, .if_icmp .eq 571) :: (895, 1, 0, .iconst 0) :: (896, 1, 1, .ireturn) :: C_L_law_897
def C_L_law_831 : List zCE := (831, 1, 0, .aload_n 1) :: (832, 1, 0, .aload_n 0) :: (833, 1, 0, .iload_n 3) :: (834, 1, 1, .iconst 1) :: (835, 1, 0, .iadd) :: (836, 1, 0, .iaload) :: (837, 1, 0, .aload_n 0) :: (838, 1, 0, .iload_n 3) :: (839, 1, 2, .iconst 2) :: (840, 1, 0, .iadd) :: (841, 1, 0, .iaload) :: (842, 1, 0, .aload_n 0) :: (843, 1, 0, .iload_n 3) :: (844, 1, 3, .iconst 3) :: (845, 1, 0, .iadd) :: (846, 1, 0, .iaload) :: (847, 3, 66, .invokevirtual 95) :: (850, 1, 0, .aload_n 2) :: (851, 1, 0, .aload_n 0) :: (852, 1, 0, .iload_n 3) :: (853, 1, 1, .iconst 1) :: (854, 1, 0, .iadd) :: (855, 1, 0, .iaload) :: (856, 1, 0, .aload_n 0) :: (857, 1, 0, .iload_n 3) :: (858, 1, 2, .iconst 2) :: (859, 1, 0, .iadd) :: (860, 1, 0, .iaload) :: (861, 1, 0, .aload_n 0) :: (862, 1, 0, .iload_n 3) :: (863, 1, 3, .iconst 3) :: (864, 1, 0, .iadd) :: (865, 1, 0, .iaload) :: (866, 3, 145, .invokevirtual 98) :: (869, 3, 1463, .if_icmp .eq 594) :: (872, 1, 0, .iconst 0) :: (873, 1, 1, .ireturn) :: C_L_law_874
def C_L_law_787 : List zCE := (787, 1, 0, .aload_n 1) :: (788, 1, 0, .aload_n 0) :: (789, 1, 0, .iload_n 3) :: (790, 1, 1, .iconst 1) :: (791, 1, 0, .iadd) :: (792, 1, 0, .iaload) :: (793, 1, 0, .aload_n 0) :: (794, 1, 0, .iload_n 3) :: (795, 1, 2, .iconst 2) :: (796, 1, 0, .iadd) :: (797, 1, 0, .iaload) :: (798, 1, 0, .aload_n 0) :: (799, 1, 0, .iload_n 3) :: (800, 1, 3, .iconst 3) :: (801, 1, 0, .iadd) :: (802, 1, 0, .iaload) :: (803, 3, 65, .invokevirtual 91) :: (806, 1, 0, .aload_n 2) :: (807, 1, 0, .aload_n 0) :: (808, 1, 0, .iload_n 3) :: (809, 1, 1, .iconst 1) :: (810, 1, 0, .iadd) :: (811, 1, 0, .iaload) :: (812, 1, 0, .aload_n 0) :: (813, 1, 0, .iload_n 3) :: (814, 1, 2, .iconst 2) :: (815, 1, 0, .iadd) :: (816, 1, 0, .iaload) :: (817, 1, 0, .aload_n 0) :: (818, 1, 0, .iload_n 3) :: (819, 1, 3, .iconst 3) :: (820, 1, 0, .iadd) :: (821, 1, 0, .iaload) :: (822, 3, 155, .invokevirtual 94) :: (825, 1, 0, .lcmp) :: (826, 3, 1463, .ifCond .eq 637) :: (829, 1, 0, .iconst 0) :: (830, 1, 1, .ireturn) :: C_L_law_831
def C_L_law_743 : List zCE := (743, 1, 0, .aload_n 1) :: (744, 1, 0, .aload_n 0) :: (745, 1, 0, .iload_n 3) :: (746, 1, 1, .iconst 1) :: (747, 1, 0, .iadd) :: (748, 1, 0, .iaload) :: (749, 1, 0, .aload_n 0) :: (750, 1, 0, .iload_n 3) :: (751, 1, 2, .iconst 2) :: (752, 1, 0, .iadd) :: (753, 1, 0, .iaload) :: (754, 1, 0, .aload_n 0) :: (755, 1, 0, .iload_n 3) :: (756, 1, 3, .iconst 3) :: (757, 1, 0, .iadd) :: (758, 1, 0, .iaload) :: (759, 3, 64, .invokevirtual 87) :: (762, 1, 0, .aload_n 2) :: (763, 1, 0, .aload_n 0) :: (764, 1, 0, .iload_n 3) :: (765, 1, 1, .iconst 1) :: (766, 1, 0, .iadd) :: (767, 1, 0, .iaload) :: (768, 1, 0, .aload_n 0) :: (769, 1, 0, .iload_n 3) :: (770, 1, 2, .iconst 2) :: (771, 1, 0, .iadd) :: (772, 1, 0, .iaload) :: (773, 1, 0, .aload_n 0) :: (774, 1, 0, .iload_n 3) :: (775, 1, 3, .iconst 3) :: (776, 1, 0, .iadd) :: (777, 1, 0, .iaload) :: (778, 3, 154, .invokevirtual 90) :: (781, 1, 0, .lcmp) :: (782, 3, 1463, .ifCond .eq 681) :: (785, 1, 0, .iconst 0) :: (786, 1, 1, .ireturn) :: C_L_law_787
def C_L_law_700 : List zCE := (700, 1, 0, .aload_n 1) :: (701, 1, 0, .aload_n 0) :: (702, 1, 0, .iload_n 3) :: (703, 1, 1, .iconst 1) :: (704, 1, 0, .iadd) :: (705, 1, 0, .iaload) :: (706, 1, 0, .aload_n 0) :: (707, 1, 0, .iload_n 3) :: (708, 1, 2, .iconst 2) :: (709, 1, 0, .iadd) :: (710, 1, 0, .iaload) :: (711, 1, 0, .aload_n 0) :: (712, 1, 0, .iload_n 3) :: (713, 1, 3, .iconst 3) :: (714, 1, 0, .iadd) :: (715, 1, 0, .iaload) :: (716, 3, 63, .invokevirtual 83) :: (719, 1, 0, .aload_n 2) :: (720, 1, 0, .aload_n 0) :: (721, 1, 0, .iload_n 3) :: (722, 1, 1, .iconst 1) :: (723, 1, 0, .iadd) :: (724, 1, 0, .iaload) :: (725, 1, 0, .aload_n 0) :: (726, 1, 0, .iload_n 3) :: (727, 1, 2, .iconst 2) :: (728, 1, 0, .iadd) :: (729, 1, 0, .iaload) :: (730, 1, 0, .aload_n 0) :: (731, 1, 0, .iload_n 3) :: (732, 1, 3, .iconst 3) :: (733, 1, 0, .iadd) :: (734, 1, 0, .iaload) :: (735, 3, 152, .invokevirtual 86) :: (738, 3, 1463, .if_icmp .eq 725) :: (741, 1, 0, .iconst 0) :: (742, 1, 1, .ireturn) :: C_L_law_743
def C_L_law_677 : List zCE := (677, 1, 0, .aload_n 1) :: (678, 1, 0, .aload_n 0) :: (679, 1, 0, .iload_n 3) :: (680, 1, 1, .iconst 1) :: (681, 1, 0, .iadd) :: (682, 1, 0, .iaload) :: (683, 3, 62, .invokevirtual 79) :: (686, 1, 0, .aload_n 2) :: (687, 1, 0, .aload_n 0) :: (688, 1, 0, .iload_n 3) :: (689, 1, 1, .iconst 1) :: (690, 1, 0, .iadd) :: (691, 1, 0, .iaload) :: (692, 3, 117, .invokevirtual 82) :: (695, 3, 1463, .if_icmp .eq 768) :: (698, 1, 0, .iconst 0) :: (699, 1, 1, .ireturn) :: C_L_law_700
def C_L_law_654 : List zCE := (654, 1, 0, .aload_n 1) :: (655, 1, 0, .aload_n 0) :: (656, 1, 0, .iload_n 3) :: (657, 1, 1, .iconst 1) :: (658, 1, 0, .iadd) :: (659, 1, 0, .iaload) :: (660, 3, 61, .invokevirtual 75) :: (663, 1, 0, .aload_n 2) :: (664, 1, 0, .aload_n 0) :: (665, 1, 0, .iload_n 3) :: (666, 1, 1, .iconst 1) :: (667, 1, 0, .iadd) :: (668, 1, 0, .iaload) :: (669, 3, 163, .invokevirtual 78) :: (672, 3, 1463, .if_icmp .eq 791) :: (675, 1, 0, .iconst 0) :: (676, 1, 1, .ireturn) :: C_L_law_677
def C_L_law_621 : List zCE := (621, 1, 0, .aload_n 1) :: (622, 1, 0, .aload_n 0) :: (623, 1, 0, .iload_n 3) :: (624, 1, 1, .iconst 1) :: (625, 1, 0, .iadd) :: (626, 1, 0, .iaload) :: (627, 1, 0, .aload_n 0) :: (628, 1, 0, .iload_n 3) :: (629, 1, 2, .iconst 2) :: (630, 1, 0, .iadd) :: (631, 1, 0, .iaload) :: (632, 3, 60, .invokevirtual 71) :: (635, 1, 0, .aload_n 2) :: (636, 1, 0, .aload_n 0) :: (637, 1, 0, .iload_n 3) :: (638, 1, 1, .iconst 1) :: (639, 1, 0, .iadd) :: (640, 1, 0, .iaload) :: (641, 1, 0, .aload_n 0) :: (642, 1, 0, .iload_n 3) :: (643, 1, 2, .iconst 2) :: (644, 1, 0, .iadd) :: (645, 1, 0, .iaload) :: (646, 3, 140, .invokevirtual 74) :: (649, 3, 1463, .if_icmp .eq 814) :: (652, 1, 0, .iconst 0) :: (653, 1, 1, .ireturn) :: C_L_law_654
def C_L_law_588 : List zCE := (588, 1, 0, .aload_n 1) :: (589, 1, 0, .aload_n 0) :: (590, 1, 0, .iload_n 3) :: (591, 1, 1, .iconst 1) :: (592, 1, 0, .iadd) :: (593, 1, 0, .iaload) :: (594, 1, 0, .aload_n 0) :: (595, 1, 0, .iload_n 3) :: (596, 1, 2, .iconst 2) :: (597, 1, 0, .iadd) :: (598, 1, 0, .iaload) :: (599, 3, 59, .invokevirtual 67) :: (602, 1, 0, .aload_n 2) :: (603, 1, 0, .aload_n 0) :: (604, 1, 0, .iload_n 3) :: (605, 1, 1, .iconst 1) :: (606, 1, 0, .iadd) :: (607, 1, 0, .iaload) :: (608, 1, 0, .aload_n 0) :: (609, 1, 0, .iload_n 3) :: (610, 1, 2, .iconst 2) :: (611, 1, 0, .iadd) :: (612, 1, 0, .iaload) :: (613, 3, 139, .invokevirtual 70) :: (616, 3, 1463, .if_icmp .eq 847) :: (619, 1, 0, .iconst 0) :: (620, 1, 1, .ireturn) :: C_L_law_621
def C_L_law_544 : List zCE := (544, 1, 0, .aload_n 1) :: (545, 1, 0, .aload_n 0) :: (546, 1, 0, .iload_n 3) :: (547, 1, 1, .iconst 1) :: (548, 1, 0, .iadd) :: (549, 1, 0, .iaload) :: (550, 1, 0, .aload_n 0) :: (551, 1, 0, .iload_n 3) :: (552, 1, 2, .iconst 2) :: (553, 1, 0, .iadd) :: (554, 1, 0, .iaload) :: (555, 1, 0, .aload_n 0) :: (556, 1, 0, .iload_n 3) :: (557, 1, 3, .iconst 3) :: (558, 1, 0, .iadd) :: (559, 1, 0, .iaload) :: (560, 3, 58, .invokevirtual 63) :: (563, 1, 0, .aload_n 2) :: (564, 1, 0, .aload_n 0) :: (565, 1, 0, .iload_n 3) :: (566, 1, 1, .iconst 1) :: (567, 1, 0, .iadd) :: (568, 1, 0, .iaload) :: (569, 1, 0, .aload_n 0) :: (570, 1, 0, .iload_n 3) :: (571, 1, 2, .iconst 2) :: (572, 1, 0, .iadd) :: (573, 1, 0, .iaload) :: (574, 1, 0, .aload_n 0) :: (575, 1, 0, .iload_n 3) :: (576, 1, 3, .iconst 3) :: (577, 1, 0, .iadd) :: (578, 1, 0, .iaload) :: (579, 3, 132, .invokevirtual 66) :: (582, 1, 0, .lcmp) :: (583, 3, 1463, .ifCond .eq 880) :: (586, 1, 0, .iconst 0) :: (587, 1, 1, .ireturn) :: C_L_law_588
def C_L_law_500 : List zCE := (500, 1, 0, .aload_n 1) :: (501, 1, 0, .aload_n 0) :: (502, 1, 0, .iload_n 3) :: (503, 1, 1, .iconst 1) :: (504, 1, 0, .iadd) :: (505, 1, 0, .iaload) :: (506, 1, 0, .aload_n 0) :: (507, 1, 0, .iload_n 3) :: (508, 1, 2, .iconst 2) :: (509, 1, 0, .iadd) :: (510, 1, 0, .iaload) :: (511, 1, 0, .aload_n 0) :: (512, 1, 0, .iload_n 3) :: (513, 1, 3, .iconst 3) :: (514, 1, 0, .iadd) :: (515, 1, 0, .iaload) :: (516, 3, 57, .invokevirtual 58) :: (519, 1, 0, .aload_n 2) :: (520, 1, 0, .aload_n 0) :: (521, 1, 0, .iload_n 3) :: (522, 1, 1, .iconst 1) :: (523, 1, 0, .iadd) :: (524, 1, 0, .iaload) :: (525, 1, 0, .aload_n 0) :: (526, 1, 0, .iload_n 3) :: (527, 1, 2, .iconst 2) :: (528, 1, 0, .iadd) :: (529, 1, 0, .iaload) :: (530, 1, 0, .aload_n 0) :: (531, 1, 0, .iload_n 3) :: (532, 1, 3, .iconst 3) :: (533, 1, 0, .iadd) :: (534, 1, 0, .iaload) :: (535, 3, 128, .invokevirtual 62) :: (538, 1, 0, .lcmp) :: (539, 3, 1463, .ifCond .eq 924) :: (542, 1, 0, .iconst 0) :: (543, 1, 1, .ireturn) :: C_L_law_544
def C_L_law_467 : List zCE := (467, 1, 0, .aload_n 1) :: (468, 1, 0, .aload_n 0) :: (469, 1, 0, .iload_n 3) :: (470, 1, 1, .iconst 1) :: (471, 1, 0, .iadd) :: (472, 1, 0, .iaload) :: (473, 1, 0, .aload_n 0) :: (474, 1, 0, .iload_n 3) :: (475, 1, 2, .iconst 2) :: (476, 1, 0, .iadd) :: (477, 1, 0, .iaload) :: (478, 3, 56, .invokevirtual 54) :: (481, 1, 0, .aload_n 2) :: (482, 1, 0, .aload_n 0) :: (483, 1, 0, .iload_n 3) :: (484, 1, 1, .iconst 1) :: (485, 1, 0, .iadd) :: (486, 1, 0, .iaload) :: (487, 1, 0, .aload_n 0) :: (488, 1, 0, .iload_n 3) :: (489, 1, 2, .iconst 2) :: (490, 1, 0, .iadd) :: (491, 1, 0, .iaload) :: (492, 3, 125, .invokevirtual 57) :: (495, 3, 1463, .if_icmp .eq 968) :: (498, 1, 0, .iconst 0) :: (499, 1, 1, .ireturn) :: C_L_law_500
def C_L_law_454 : List zCE := (454, 1, 0, .aload_n 1) :: (455, 3, 55, .invokevirtual 50) :: (458, 1, 0, .aload_n 2) :: (459, 3, 170, .invokevirtual 53) :: (462, 3, 1463, .if_icmp .eq 1001) :: (465, 1, 0, .iconst 0) :: (466, 1, 1, .ireturn) :: C_L_law_467
def C_L_law_431 : List zCE := (431, 1, 0, .aload_n 1) :: (432, 1, 0, .aload_n 0) :: (433, 1, 0, .iload_n 3) :: (434, 1, 1, .iconst 1) :: (435, 1, 0, .iadd) :: (436, 1, 0, .iaload) :: (437, 3, 54, .invokevirtual 46) :: (440, 1, 0, .aload_n 2) :: (441, 1, 0, .aload_n 0) :: (442, 1, 0, .iload_n 3) :: (443, 1, 1, .iconst 1) :: (444, 1, 0, .iadd) :: (445, 1, 0, .iaload) :: (446, 3, 164, .invokevirtual 49) :: (449, 3, 1463, .if_icmp .eq 1014) :: (452, 1, 0, .iconst 0) :: (453, 1, 1, .ireturn) :: C_L_law_454
def C_L_law_398 : List zCE := (398, 1, 0, .aload_n 1) :: (399, 1, 0, .aload_n 0) :: (400, 1, 0, .iload_n 3) :: (401, 1, 1, .iconst 1) :: (402, 1, 0, .iadd) :: (403, 1, 0, .iaload) :: (404, 1, 0, .aload_n 0) :: (405, 1, 0, .iload_n 3) :: (406, 1, 2, .iconst 2) :: (407, 1, 0, .iadd) :: (408, 1, 0, .iaload) :: (409, 3, 53, .invokevirtual 42) :: (412, 1, 0, .aload_n 2) :: (413, 1, 0, .aload_n 0) :: (414, 1, 0, .iload_n 3) :: (415, 1, 1, .iconst 1) :: (416, 1, 0, .iadd) :: (417, 1, 0, .iaload) :: (418, 1, 0, .aload_n 0) :: (419, 1, 0, .iload_n 3) :: (420, 1, 2, .iconst 2) :: (421, 1, 0, .iadd) :: (422, 1, 0, .iaload) :: (423, 3, 156, .invokevirtual 45) :: (426, 3, 1463, .if_icmp .eq 1037) :: (429, 1, 0, .iconst 0) :: (430, 1, 1, .ireturn) :: C_L_law_431
def C_L_law_345 : List zCE := (345, 1, 0, .aload_n 1) :: (346, 1, 0, .aload_n 0) :: (347, 1, 0, .iload_n 3) :: (348, 1, 1, .iconst 1) :: (349, 1, 0, .iadd) :: (350, 1, 0, .iaload) :: (351, 1, 0, .aload_n 0) :: (352, 1, 0, .iload_n 3) :: (353, 1, 2, .iconst 2) :: (354, 1, 0, .iadd) :: (355, 1, 0, .iaload) :: (356, 1, 0, .aload_n 0) :: (357, 1, 0, .iload_n 3) :: (358, 1, 3, .iconst 3) :: (359, 1, 0, .iadd) :: (360, 1, 0, .iaload) :: (361, 1, 0, .aload_n 0) :: (362, 1, 0, .iload_n 3) :: (363, 1, 4, .iconst 4) :: (364, 1, 0, .iadd) :: (365, 1, 0, .iaload) :: (366, 3, 52, .invokevirtual 37) :: (369, 1, 0, .aload_n 2) :: (370, 1, 0, .aload_n 0) :: (371, 1, 0, .iload_n 3) :: (372, 1, 1, .iconst 1) :: (373, 1, 0, .iadd) :: (374, 1, 0, .iaload) :: (375, 1, 0, .aload_n 0) :: (376, 1, 0, .iload_n 3) :: (377, 1, 2, .iconst 2) :: (378, 1, 0, .iadd) :: (379, 1, 0, .iaload) :: (380, 1, 0, .aload_n 0) :: (381, 1, 0, .iload_n 3) :: (382, 1, 3, .iconst 3) :: (383, 1, 0, .iadd) :: (384, 1, 0, .iaload) :: (385, 1, 0, .aload_n 0) :: (386, 1, 0, .iload_n 3) :: (387, 1, 4, .iconst 4) :: (388, 1, 0, .iadd) :: (389, 1, 0, .iaload) :: (390, 3, 124, .invokevirtual 41) :: (393, 3, 1463, .if_icmp .eq 1070) :: (396, 1, 0, .iconst 0) :: (397, 1, 1, .ireturn) :: C_L_law_398
def C_L_law_312 : List zCE := (312, 1, 0, .aload_n 1) :: (313, 1, 0, .aload_n 0) :: (314, 1, 0, .iload_n 3) :: (315, 1, 1, .iconst 1) :: (316, 1, 0, .iadd) :: (317, 1, 0, .iaload) :: (318, 1, 0, .aload_n 0) :: (319, 1, 0, .iload_n 3) :: (320, 1, 2, .iconst 2) :: (321, 1, 0, .iadd) :: (322, 1, 0, .iaload) :: (323, 3, 51, .invokevirtual 33) :: (326, 1, 0, .aload_n 2) :: (327, 1, 0, .aload_n 0) :: (328, 1, 0, .iload_n 3) :: (329, 1, 1, .iconst 1) :: (330, 1, 0, .iadd) :: (331, 1, 0, .iaload) :: (332, 1, 0, .aload_n 0) :: (333, 1, 0, .iload_n 3) :: (334, 1, 2, .iconst 2) :: (335, 1, 0, .iadd) :: (336, 1, 0, .iaload) :: (337, 3, 119, .invokevirtual 36) :: (340, 3, 1463, .if_icmp .eq 1123) :: (343, 1, 0, .iconst 0) :: (344, 1, 1, .ireturn) :: C_L_law_345
def C_L_law_279 : List zCE := (279, 1, 0, .aload_n 1) :: (280, 1, 0, .aload_n 0) :: (281, 1, 0, .iload_n 3) :: (282, 1, 1, .iconst 1) :: (283, 1, 0, .iadd) :: (284, 1, 0, .iaload) :: (285, 1, 0, .aload_n 0) :: (286, 1, 0, .iload_n 3) :: (287, 1, 2, .iconst 2) :: (288, 1, 0, .iadd) :: (289, 1, 0, .iaload) :: (290, 3, 50, .invokevirtual 28) :: (293, 1, 0, .aload_n 2) :: (294, 1, 0, .aload_n 0) :: (295, 1, 0, .iload_n 3) :: (296, 1, 1, .iconst 1) :: (297, 1, 0, .iadd) :: (298, 1, 0, .iaload) :: (299, 1, 0, .aload_n 0) :: (300, 1, 0, .iload_n 3) :: (301, 1, 2, .iconst 2) :: (302, 1, 0, .iadd) :: (303, 1, 0, .iaload) :: (304, 3, 115, .invokevirtual 32) :: (307, 3, 1463, .if_icmp .eq 1156) :: (310, 1, 0, .iconst 0) :: (311, 1, 1, .ireturn) :: C_L_law_312
def C_L_law_236 : List zCE := (236, 1, 0, .aload_n 1) :: (237, 1, 0, .aload_n 0) :: (238, 1, 0, .iload_n 3) :: (239, 1, 1, .iconst 1) :: (240, 1, 0, .iadd) :: (241, 1, 0, .iaload) :: (242, 1, 0, .aload_n 0) :: (243, 1, 0, .iload_n 3) :: (244, 1, 2, .iconst 2) :: (245, 1, 0, .iadd) :: (246, 1, 0, .iaload) :: (247, 1, 0, .aload_n 0) :: (248, 1, 0, .iload_n 3) :: (249, 1, 3, .iconst 3) :: (250, 1, 0, .iadd) :: (251, 1, 0, .iaload) :: (252, 3, 49, .invokevirtual 23) :: (255, 1, 0, .aload_n 2) :: (256, 1, 0, .aload_n 0) :: (257, 1, 0, .iload_n 3) :: (258, 1, 1, .iconst 1) :: (259, 1, 0, .iadd) :: (260, 1, 0, .iaload) :: (261, 1, 0, .aload_n 0) :: (262, 1, 0, .iload_n 3) :: (263, 1, 2, .iconst 2) :: (264, 1, 0, .iadd) :: (265, 1, 0, .iaload) :: (266, 1, 0, .aload_n 0) :: (267, 1, 0, .iload_n 3) :: (268, 1, 3, .iconst 3) :: (269, 1, 0, .iadd) :: (270, 1, 0, .iaload) :: (271, 3, 114, .invokevirtual 27) :: (274, 3, 1463, .if_icmp .eq 1189) :: (277, 1, 0, .iconst 0) :: (278, 1, 1, .ireturn) :: C_L_law_279
def C_L_law_223 : List zCE := (223, 1, 0, .aload_n 1) :: (224, 3, 48, .invokevirtual 18) :: (227, 1, 0, .aload_n 2) :: (228, 3, 111, .invokevirtual 22) :: (231, 3, 1463, .if_icmp .eq 1232) :: (234, 1, 0, .iconst 0) :: (235, 1, 1, .ireturn) :: C_L_law_236
def C_L_law_200 : List zCE := (200, 1, 0, .aload_n 1) :: (201, 1, 0, .aload_n 0) :: (202, 1, 0, .iload_n 3) :: (203, 1, 1, .iconst 1) :: (204, 1, 0, .iadd) :: (205, 1, 0, .iaload) :: (206, 3, 47, .invokevirtual 13) :: (209, 1, 0, .aload_n 2) :: (210, 1, 0, .aload_n 0) :: (211, 1, 0, .iload_n 3) :: (212, 1, 1, .iconst 1) :: (213, 1, 0, .iadd) :: (214, 1, 0, .iaload) :: (215, 3, 110, .invokevirtual 17) :: (218, 3, 1463, .if_icmp .eq 1245) :: (221, 1, 0, .iconst 0) :: (222, 1, 1, .ireturn) :: C_L_law_223
def C_L_law_18 : List zCE := (18, 1, 0, .iload_n 3) :: (19, 1, 0, .aload_n 0) :: (20, 1, 0, .arraylength) :: (21, 2, 6, .bipush 6) :: (23, 1, 0, .isub) :: (24, 3, 1469, .if_icmp .gt 1445) :: (27, 1, 0, .aload_n 0) :: (28, 1, 0, .iload_n 3) :: (29, 1, 0, .iaload) :: (30, 2, 63, .bipush 63) :: (32, 1, 0, .iand) :: (33, 167, 0, .tableswitch 1430 0 37 #[167, 190, 203, 246, 279, 312, 365, 398, 421, 434, 467, 511, 555, 588, 621, 644, 667, 710, 754, 798, 841, 864, 888, 921, 964, 998, 1032, 1065, 1089, 1122, 1135, 1168, 1181, 1194, 1217, 1260, 1333, 1367]) :: C_L_law_200
def zMT_0 : List zMTr := [
  (⟨"PointShares$Adjustment", "workOut", "([[IIII)Z"⟩, prog_2_method_2_code, 9, (some .boolean), 0, false, 3, 5, 381, C_X0_workOut_0),
  (⟨"PointShares$Adjustment", "giveFirst", "([I[III)J"⟩, prog_2_method_3_code, 11, (some .long), 0, false, 1, 5, 388, C_X0_giveFirst_0),
  (⟨"PointShares$Adjustment", "moveToPoor", "([I[IJ)V"⟩, prog_2_method_4_code, 13, none, 0, false, 2, 4, 392, C_X0_moveToPoor_0),
  (⟨"PointShares$Adjustment", "nextToMove", "([I[I)I"⟩, prog_2_method_5_code, 5, (some .int), 0, false, 1, 3, 396, C_X0_nextToMove_0),
  (⟨"PointShares$Adjustment", "setAlike", "([I)V"⟩, prog_2_method_6_code, 5, none, 0, false, 1, 2, 403, C_X0_setAlike_0),
  (⟨"PointShares$Adjustment", "hasSome", "(II)Z"⟩, prog_2_method_7_code, 3, (some .boolean), 0, false, 0, 3, 577, C_X0_hasSome_0),
  (⟨"PointShares$Adjustment", "bitsOf", "(I)I"⟩, prog_2_method_8_code, 4, (some .int), 0, false, 1, 2, 573, C_X0_bitsOf_0),
  (⟨"PointShares$Rows", "isFull", "()Z"⟩, prog_3_method_2_code, 1, (some .boolean), 1, false, 0, 1, 610, C_X1_isFull_0),
  (⟨"PointShares$Rows", "append", "(II)I"⟩, prog_3_method_3_code, 3, (some .int), 1, false, 0, 3, 614, C_X1_append_0),
  (⟨"PointShares$Rows", "empty", "()I"⟩, prog_3_method_4_code, 1, (some .int), 1, false, 0, 1, 606, C_X1_empty_0),
  (⟨"PointShares$Rows", "become", "(LPointShares$Rows;)V"⟩, prog_3_method_5_code, 2, none, 1, false, 1, 2, 680, C_X1_become_0),
  (⟨"PointShares$Setup", "beginWith", "(I)V"⟩, prog_4_method_2_code, 2, none, 2, false, 1, 2, 312, C_X2_beginWith_0),
  (⟨"PointShares$Setup", "addThing", "()I"⟩, prog_4_method_3_code, 3, (some .int), 2, false, 0, 1, 324, C_X2_addThing_0),
  (⟨"PointShares$Setup", "mendCut", "()V"⟩, prog_4_method_4_code, 1, none, 2, false, 0, 1, 316, C_X2_mendCut_0),
  (⟨"PointShares$Setup", "giveWhole", "(II)V"⟩, prog_4_method_5_code, 3, none, 2, false, 1, 3, 348, C_X2_giveWhole_0),
  (⟨"PointShares$Setup", "cutThing", "(IIJJ)V"⟩, prog_4_method_6_code, 7, none, 2, false, 2, 5, 359, C_X2_cutThing_0),
  (⟨"PointShares$Setup", "divideBy", "(LPointShares$Adjustment;)V"⟩, prog_4_method_7_code, 2, none, 2, false, 3, 2, 407, C_X2_divideBy_0),
  (⟨"PointShares$Setup", "partsOf", "(II)J"⟩, prog_4_method_8_code, 3, (some .long), 2, false, 0, 3, 474, C_X2_partsOf_0),
  (⟨"PointShares$Setup", "total", "(I)I"⟩, prog_4_method_9_code, 2, (some .int), 2, false, 1, 2, 483, C_X2_total_0),
  (⟨"PointShares$Setup", "worth", "(II)J"⟩, prog_4_method_10_code, 6, (some .long), 2, false, 1, 3, 488, C_X2_worth_0)]
def zMT_1 : List zMTr := [
  (⟨"PointShares$Setup", "bitsOf", "(I)I"⟩, prog_4_method_11_code, 4, (some .int), 2, false, 1, 2, 513, C_X2_bitsOf_0),
  (⟨"PointShares$Setup", "cuts", "()I"⟩, prog_4_method_12_code, 1, (some .int), 2, false, 0, 1, 369, C_X2_cuts_0),
  (⟨"PointShares$Setup", "unheld", "()I"⟩, prog_4_method_13_code, 3, (some .int), 2, false, 0, 1, 535, C_X2_unheld_0),
  (⟨"PointShares$Setup", "become", "(LPointShares$Setup;)V"⟩, prog_4_method_14_code, 2, none, 2, false, 2, 2, 675, C_X2_become_0),
  (⟨"PointShares$Tape", "isNothing", "()Z"⟩, prog_5_method_2_code, 1, (some .boolean), 3, false, 0, 1, 667, C_X3_isNothing_0),
  (⟨"PointShares$Tape", "begin", "(II)V"⟩, prog_5_method_3_code, 4, none, 3, false, 0, 3, 697, C_X3_begin_0),
  (⟨"PointShares$Tape", "asItem", "(J)J"⟩, prog_5_method_4_code, 3, (some .long), 3, false, 0, 2, 705, C_X3_asItem_0),
  (⟨"PointShares$Tape", "hasPlaces", "(II)Z"⟩, prog_5_method_5_code, 3, (some .boolean), 3, false, 0, 3, 717, C_X3_hasPlaces_0),
  (⟨"PointShares$Text", "append", "(I)I"⟩, prog_6_method_2_code, 2, (some .int), 4, false, 0, 2, 419, C_X4_append_0),
  (⟨"PointShares$Text", "signAt", "(I)I"⟩, prog_6_method_3_code, 2, (some .int), 4, false, 0, 2, 435, C_X4_signAt_0),
  (⟨"PointShares$Text", "digitAt", "(I)I"⟩, prog_6_method_4_code, 3, (some .int), 4, false, 1, 2, 442, C_X4_digitAt_0),
  (⟨"PointShares$Text", "numberIn", "(II)I"⟩, prog_6_method_5_code, 5, (some .int), 4, false, 2, 3, 455, C_X4_numberIn_0),
  (⟨"PointShares$Text", "digitsBehind", "(I)I"⟩, prog_6_method_6_code, 1, (some .int), 4, true, 0, 1, 438, C_X4_digitsBehind_0),
  (⟨"PointShares$Text", "endOfClause", "(I)I"⟩, prog_6_method_7_code, 5, (some .int), 4, false, 2, 2, 431, C_X4_endOfClause_0),
  (⟨"PointShares$Text", "fault", "()I"⟩, prog_6_method_8_code, 4, (some .int), 4, false, 3, 1, 427, C_X4_fault_0),
  (⟨"PointShares$WholeWays", "search", "([[III)V"⟩, prog_7_method_2_code, 6, none, 5, false, 10, 4, 543, C_X5_search_0),
  (⟨"PointShares$WholeWays", "giveFrom", "(LPointShares$WholeWays;I)V"⟩, prog_7_method_3_code, 4, none, 5, true, 9, 2, 548, C_X5_giveFrom0_0),
  (⟨"PointShares$WholeWays", "giveFrom", "(LPointShares$WholeWays;I)V"⟩, prog_7_method_3_code, 4, none, 5, true, 8, 2, 548, C_X5_giveFrom1_0),
  (⟨"PointShares$WholeWays", "giveFrom", "(LPointShares$WholeWays;I)V"⟩, prog_7_method_3_code, 4, none, 5, true, 7, 2, 548, C_X5_giveFrom2_0),
  (⟨"PointShares$WholeWays", "giveFrom", "(LPointShares$WholeWays;I)V"⟩, prog_7_method_3_code, 4, none, 5, true, 6, 2, 548, C_X5_giveFrom3_0)]
def zMT_2 : List zMTr := [
  (⟨"PointShares$WholeWays", "giveFrom", "(LPointShares$WholeWays;I)V"⟩, prog_7_method_3_code, 4, none, 5, true, 5, 2, 548, C_X5_giveFrom4_0),
  (⟨"PointShares$WholeWays", "giveFrom", "(LPointShares$WholeWays;I)V"⟩, prog_7_method_3_code, 4, none, 5, true, 4, 2, 548, C_X5_giveFrom5_0),
  (⟨"PointShares$WholeWays", "giveFrom", "(LPointShares$WholeWays;I)V"⟩, prog_7_method_3_code, 4, none, 5, true, 3, 2, 548, C_X5_giveFrom6_0),
  (⟨"PointShares$WholeWays", "giveFrom", "(LPointShares$WholeWays;I)V"⟩, prog_7_method_3_code, 4, none, 5, true, 2, 2, 548, C_X5_giveFrom7_0),
  (⟨"PointShares$WholeWays", "poorest", "()I"⟩, prog_7_method_4_code, 3, (some .int), 5, false, 0, 1, 552, C_X5_poorest_0),
  (⟨"PointShares$WholeWays", "keep", "(I)V"⟩, prog_7_method_5_code, 2, none, 5, false, 1, 2, 556, C_X5_keep_0),
  (⟨"PointShares$WholeWays", "denyOthers", "(III)V"⟩, prog_7_method_6_code, 5, none, 5, false, 0, 4, 561, C_X5_denyOthers_0),
  (⟨"PointShares", "parties", "(I)I"⟩, prog_1_method_2_code, 3, (some .int), 6, false, 2, 2, 308, C_X6_parties_0),
  (⟨"PointShares", "thing", "()I"⟩, prog_1_method_3_code, 1, (some .int), 6, false, 1, 1, 320, C_X6_thing_0),
  (⟨"PointShares", "point", "(III)I"⟩, prog_1_method_4_code, 5, (some .int), 6, false, 1, 4, 328, C_X6_point_0),
  (⟨"PointShares", "of", "(II)I"⟩, prog_1_method_5_code, 3, (some .int), 6, false, 1, 3, 340, C_X6_of_0),
  (⟨"PointShares", "hold", "(II)I"⟩, prog_1_method_6_code, 4, (some .int), 6, false, 2, 3, 344, C_X6_hold_0),
  (⟨"PointShares", "split", "(IIII)I"⟩, prog_1_method_7_code, 5, (some .int), 6, false, 3, 5, 355, C_X6_split_0),
  (⟨"PointShares", "settle", "(II)I"⟩, prog_1_method_8_code, 3, (some .int), 6, false, 4, 3, 373, C_X6_settle_0),
  (⟨"PointShares", "feed", "(I)I"⟩, prog_1_method_9_code, 2, (some .int), 6, false, 1, 2, 415, C_X6_feed_0),
  (⟨"PointShares", "read", "()I"⟩, prog_1_method_10_code, 7, (some .int), 6, false, 6, 1, 423, C_X6_read_0),
  (⟨"PointShares", "holder", "(II)I"⟩, prog_1_method_11_code, 3, (some .int), 6, false, 1, 3, 462, C_X6_holder_0),
  (⟨"PointShares", "held", "(III)J"⟩, prog_1_method_12_code, 4, (some .long), 6, false, 2, 4, 466, C_X6_held_0),
  (⟨"PointShares", "share", "(III)J"⟩, prog_1_method_13_code, 6, (some .long), 6, false, 2, 4, 479, C_X6_share_0),
  (⟨"PointShares", "claim", "(II)I"⟩, prog_1_method_14_code, 4, (some .int), 6, false, 4, 3, 493, C_X6_claim_0)]
def zMT_3 : List zMTr := [
  (⟨"PointShares", "better", "(II)I"⟩, prog_1_method_15_code, 7, (some .int), 6, false, 2, 3, 527, C_X6_better_0),
  (⟨"PointShares", "told", "(I)I"⟩, prog_1_method_16_code, 2, (some .int), 6, false, 11, 2, 531, C_X6_told_0),
  (⟨"PointShares", "all", "(I)I"⟩, prog_1_method_17_code, 2, (some .int), 6, false, 2, 2, 565, C_X6_all_0),
  (⟨"PointShares", "adjusted", "(III)I"⟩, prog_1_method_18_code, 4, (some .int), 6, false, 4, 4, 569, C_X6_adjusted_0),
  (⟨"PointShares", "alike", "(III)J"⟩, prog_1_method_19_code, 4, (some .long), 6, false, 4, 4, 581, C_X6_alike_0),
  (⟨"PointShares", "parted", "(III)J"⟩, prog_1_method_20_code, 4, (some .long), 6, false, 4, 4, 585, C_X6_parted_0),
  (⟨"PointShares", "ratio", "(III)I"⟩, prog_1_method_21_code, 7, (some .int), 6, false, 2, 4, 589, C_X6_ratio_0),
  (⟨"PointShares", "fair", "(I)I"⟩, prog_1_method_22_code, 2, (some .int), 6, false, 11, 2, 594, C_X6_fair_0),
  (⟨"PointShares", "fairest", "(I)J"⟩, prog_1_method_23_code, 2, (some .long), 6, false, 11, 2, 598, C_X6_fairest_0),
  (⟨"PointShares", "see", "(II)I"⟩, prog_1_method_24_code, 3, (some .int), 6, false, 1, 3, 602, C_X6_see_0),
  (⟨"PointShares", "fits", "(III)I"⟩, prog_1_method_25_code, 7, (some .int), 6, false, 5, 4, 618, C_X6_fits_0),
  (⟨"PointShares", "odds", "(II)J"⟩, prog_1_method_26_code, 5, (some .long), 6, false, 4, 3, 631, C_X6_odds_0),
  (⟨"PointShares", "mean", "(II)J"⟩, prog_1_method_27_code, 3, (some .long), 6, false, 2, 3, 636, C_X6_mean_0),
  (⟨"PointShares", "event", "(II)I"⟩, prog_1_method_28_code, 3, (some .int), 6, false, 1, 3, 640, C_X6_event_0),
  (⟨"PointShares", "after", "(I)J"⟩, prog_1_method_29_code, 3, (some .long), 6, false, 4, 2, 644, C_X6_after_0),
  (⟨"PointShares", "book", "(II)I"⟩, prog_1_method_30_code, 3, (some .int), 6, false, 1, 3, 652, C_X6_book_0),
  (⟨"PointShares", "looked", "()I"⟩, prog_1_method_31_code, 2, (some .int), 6, false, 1, 1, 656, C_X6_looked_0),
  (⟨"PointShares", "judge", "(II)I"⟩, prog_1_method_32_code, 5, (some .int), 6, false, 1, 3, 660, C_X6_judge_0),
  (⟨"PointShares", "image", "()I"⟩, prog_1_method_33_code, 1, (some .int), 6, false, 3, 1, 671, C_X6_image_0),
  (⟨"PointShares", "undo", "()I"⟩, prog_1_method_34_code, 1, (some .int), 6, false, 3, 1, 685, C_X6_undo_0)]
def zMT_4 : List zMTr := [
  (⟨"PointShares", "count", "(I)I"⟩, prog_1_method_35_code, 2, (some .int), 6, false, 0, 2, 689, C_X6_count_0),
  (⟨"PointShares", "tape", "(III)I"⟩, prog_1_method_36_code, 4, (some .int), 6, false, 1, 4, 693, C_X6_tape_0),
  (⟨"PointShares", "item", "(IIJ)I"⟩, prog_1_method_37_code, 6, (some .int), 6, false, 1, 4, 701, C_X6_item_0),
  (⟨"PointShares", "peek", "(II)J"⟩, prog_1_method_38_code, 3, (some .long), 6, false, 1, 3, 709, C_X6_peek_0),
  (⟨"PointShares", "shift", "(IIIII)I"⟩, prog_1_method_39_code, 8, (some .int), 6, false, 1, 6, 713, C_X6_shift_0),
  (⟨"PointShares", "isParty", "(I)Z"⟩, prog_1_method_40_code, 2, (some .boolean), 6, false, 0, 2, 332, C_X6_isParty_0),
  (⟨"PointShares", "areTwo", "(II)Z"⟩, prog_1_method_41_code, 3, (some .boolean), 6, false, 1, 3, 377, C_X6_areTwo_0),
  (⟨"PointShares", "isThing", "(I)Z"⟩, prog_1_method_42_code, 2, (some .boolean), 6, false, 0, 2, 336, C_X6_isThing_0),
  (⟨"PointShares", "isPart", "(I)Z"⟩, prog_1_method_43_code, 1, (some .boolean), 6, true, 0, 1, 469, C_X6_isPart_0),
  (⟨"PointShares", "isTape", "(I)Z"⟩, prog_1_method_44_code, 1, (some .boolean), 6, true, 0, 1, 663, C_X6_isTape_0),
  (⟨"PointShares", "orNoSuch", "(I)I"⟩, prog_1_method_45_code, 1, (some .int), 6, true, 0, 1, 351, C_X6_orNoSuch_0),
  (⟨"PointShares", "commonDivisor", "(JJ)J"⟩, prog_1_method_46_code, 11, (some .long), 6, true, 0, 2, 365, C_X6_commonDivisor_0),
  (⟨"PointShares", "inLowestTerms", "(JJI)J"⟩, prog_1_method_47_code, 9, (some .long), 6, true, 1, 3, 362, C_X6_inLowestTerms_0),
  (⟨"PointShares", "copyPoints", "([[I[[I)V"⟩, prog_1_method_48_code, 3, none, 6, true, 1, 2, 621, C_X6_copyPoints_0),
  (⟨"PointShares", "sumOf", "([II)I"⟩, prog_1_method_49_code, 4, (some .int), 6, true, 0, 2, 384, C_X6_sumOf_0),
  (⟨"PointShares", "comesFirst", "([I[III)Z"⟩, prog_1_method_50_code, 8, (some .boolean), 6, true, 0, 4, 399, C_X6_comesFirst_0),
  (⟨"PointShares", "doClause", "(II)I"⟩, prog_1_method_51_code, 5, (some .int), 6, false, 5, 3, 447, C_X6_doClause_0),
  (⟨"PointShares", "claimOf", "(I)I"⟩, prog_1_method_52_code, 2, (some .int), 6, false, 3, 2, 497, C_X6_claimOf_0),
  (⟨"PointShares", "causeOf", "(II)I"⟩, prog_1_method_53_code, 3, (some .int), 6, false, 3, 3, 509, C_X6_causeOf_0),
  (⟨"PointShares", "secondCauseOf", "(II)I"⟩, prog_1_method_54_code, 4, (some .int), 6, false, 3, 3, 523, C_X6_secondCauseOf_0)]
def zMT_5 : List zMTr := [
  (⟨"PointShares", "firstUnheld", "(I)I"⟩, prog_1_method_55_code, 3, (some .int), 6, false, 0, 2, 501, C_X6_firstUnheld_0),
  (⟨"PointShares", "firstEnvied", "(I)I"⟩, prog_1_method_56_code, 5, (some .int), 6, false, 2, 2, 505, C_X6_firstEnvied_0),
  (⟨"PointShares", "enviousBits", "()I"⟩, prog_1_method_57_code, 3, (some .int), 6, false, 3, 1, 539, C_X6_enviousBits_0),
  (⟨"PointShares", "triedFitsSeen", "()Z"⟩, prog_1_method_58_code, 2, (some .boolean), 6, false, 4, 1, 626, C_X6_triedFitsSeen_0),
  (⟨"PointShares", "letHappen", "(II)V"⟩, prog_1_method_59_code, 6, none, 6, false, 0, 3, 648, C_X6_letHappen_0),
  (⟨"PointSharesModel", "in", "(JJJ)Z"⟩, prog_9_method_1_code, 6, (some .boolean), 7, true, 0, 3, 803, C_X7_in_0),
  (⟨"PointSharesModel", "isParty", "(I)Z"⟩, prog_9_method_3_code, 2, (some .boolean), 7, false, 1, 2, 819, C_X7_isParty_0),
  (⟨"PointSharesModel", "isThing", "(I)Z"⟩, prog_9_method_4_code, 2, (some .boolean), 7, false, 1, 2, 823, C_X7_isThing_0),
  (⟨"PointSharesModel", "areTwo", "(II)Z"⟩, prog_9_method_5_code, 3, (some .boolean), 7, false, 2, 3, 937, C_X7_areTwo_0),
  (⟨"PointSharesModel", "isPart", "(I)Z"⟩, prog_9_method_6_code, 1, (some .boolean), 7, true, 0, 1, 876, C_X7_isPart_0),
  (⟨"PointSharesModel", "parties", "(I)I"⟩, prog_9_method_7_code, 3, (some .int), 7, false, 1, 2, 798, C_X7_parties_0),
  (⟨"PointSharesModel", "thing", "()I"⟩, prog_9_method_8_code, 3, (some .int), 7, false, 1, 1, 807, C_X7_thing_0),
  (⟨"PointSharesModel", "holds", "(II)V"⟩, prog_9_method_9_code, 3, none, 7, false, 0, 3, 811, C_X7_holds_0),
  (⟨"PointSharesModel", "pointsOf", "(II)I"⟩, prog_9_method_10_code, 3, (some .int), 7, false, 0, 3, 828, C_X7_pointsOf_0),
  (⟨"PointSharesModel", "point", "(III)I"⟩, prog_9_method_11_code, 5, (some .int), 7, false, 2, 4, 815, C_X7_point_0),
  (⟨"PointSharesModel", "of", "(II)I"⟩, prog_9_method_12_code, 3, (some .int), 7, false, 2, 3, 832, C_X7_of_0),
  (⟨"PointSharesModel", "allOf", "(I)I"⟩, prog_9_method_13_code, 4, (some .int), 7, false, 1, 2, 840, C_X7_allOf_0),
  (⟨"PointSharesModel", "all", "(I)I"⟩, prog_9_method_14_code, 2, (some .int), 7, false, 2, 2, 836, C_X7_all_0),
  (⟨"PointSharesModel", "orNobody", "(I)I"⟩, prog_9_method_15_code, 1, (some .int), 7, true, 0, 1, 847, C_X7_orNobody_0),
  (⟨"PointSharesModel", "hold", "(II)I"⟩, prog_9_method_16_code, 4, (some .int), 7, false, 2, 3, 844, C_X7_hold_0)]
def zMT_6 : List zMTr := [
  (⟨"PointSharesModel", "splits", "()I"⟩, prog_9_method_17_code, 3, (some .int), 7, false, 0, 1, 855, C_X7_splits_0),
  (⟨"PointSharesModel", "divisor", "(JJ)J"⟩, prog_9_method_18_code, 10, (some .long), 7, true, 0, 2, 865, C_X7_divisor_0),
  (⟨"PointSharesModel", "lowest", "(JJI)J"⟩, prog_9_method_19_code, 5, (some .long), 7, true, 1, 3, 862, C_X7_lowest_0),
  (⟨"PointSharesModel", "splits", "(IIJJ)V"⟩, prog_9_method_20_code, 7, none, 7, false, 2, 5, 859, C_X7_splits__0),
  (⟨"PointSharesModel", "split", "(IIII)I"⟩, prog_9_method_21_code, 5, (some .int), 7, false, 3, 5, 851, C_X7_split_0),
  (⟨"PointSharesModel", "holder", "(II)I"⟩, prog_9_method_22_code, 3, (some .int), 7, false, 2, 3, 869, C_X7_holder_0),
  (⟨"PointSharesModel", "heldUp", "(II)I"⟩, prog_9_method_23_code, 3, (some .int), 7, false, 0, 3, 881, C_X7_heldUp_0),
  (⟨"PointSharesModel", "doesHold", "(II)Z"⟩, prog_9_method_24_code, 3, (some .boolean), 7, false, 1, 3, 925, C_X7_doesHold_0),
  (⟨"PointSharesModel", "held", "(III)J"⟩, prog_9_method_25_code, 4, (some .long), 7, false, 2, 4, 873, C_X7_held_0),
  (⟨"PointSharesModel", "bitsOf", "(I)I"⟩, prog_9_method_26_code, 4, (some .int), 7, false, 2, 2, 921, C_X7_bitsOf_0),
  (⟨"PointSharesModel", "lowOfAll", "()J"⟩, prog_9_method_27_code, 4, (some .long), 7, false, 0, 1, 893, C_X7_lowOfAll_0),
  (⟨"PointSharesModel", "worth", "(II)J"⟩, prog_9_method_28_code, 8, (some .long), 7, false, 1, 3, 889, C_X7_worth_0),
  (⟨"PointSharesModel", "share", "(III)J"⟩, prog_9_method_29_code, 4, (some .long), 7, false, 2, 4, 885, C_X7_share_0),
  (⟨"PointSharesModel", "isWanting", "(II)Z"⟩, prog_9_method_30_code, 3, (some .boolean), 7, false, 1, 3, 909, C_X7_isWanting_0),
  (⟨"PointSharesModel", "firstWanting", "(I)I"⟩, prog_9_method_31_code, 3, (some .int), 7, false, 2, 2, 905, C_X7_firstWanting_0),
  (⟨"PointSharesModel", "envied", "(I)I"⟩, prog_9_method_32_code, 3, (some .int), 7, false, 2, 2, 913, C_X7_envied_0),
  (⟨"PointSharesModel", "claimOf", "(I)I"⟩, prog_9_method_33_code, 2, (some .int), 7, false, 3, 2, 901, C_X7_claimOf_0),
  (⟨"PointSharesModel", "ones", "(I)I"⟩, prog_9_method_34_code, 4, (some .int), 7, false, 0, 2, 929, C_X7_ones_0),
  (⟨"PointSharesModel", "causeOf", "(II)I"⟩, prog_9_method_35_code, 3, (some .int), 7, false, 3, 3, 917, C_X7_causeOf_0),
  (⟨"PointSharesModel", "claim", "(II)I"⟩, prog_9_method_36_code, 4, (some .int), 7, false, 4, 3, 897, C_X7_claim_0)]
def zMT_7 : List zMTr := [
  (⟨"PointSharesModel", "better", "(II)I"⟩, prog_9_method_37_code, 5, (some .int), 7, false, 3, 3, 933, C_X7_better_0),
  (⟨"PointSharesModel", "envious", "()I"⟩, prog_9_method_38_code, 3, (some .int), 7, false, 3, 1, 1031, C_X7_envious_0),
  (⟨"PointSharesModel", "aheadBy", "(III)I"⟩, prog_9_method_39_code, 6, (some .int), 7, false, 2, 4, 949, C_X7_aheadBy_0),
  (⟨"PointSharesModel", "isAhead", "(IIII)Z"⟩, prog_9_method_40_code, 9, (some .boolean), 7, false, 1, 5, 953, C_X7_isAhead_0),
  (⟨"PointSharesModel", "byRatio", "(III)I"⟩, prog_9_method_41_code, 5, (some .int), 7, false, 3, 4, 945, C_X7_byRatio_0),
  (⟨"PointSharesModel", "ratio", "(III)I"⟩, prog_9_method_42_code, 4, (some .int), 7, false, 4, 4, 941, C_X7_ratio_0),
  (⟨"PointSharesModel", "sumOf", "(IZ)I"⟩, prog_9_method_43_code, 5, (some .int), 7, false, 1, 3, 969, C_X7_sumOf_0),
  (⟨"PointSharesModel", "moreOf", "(IIZ)I"⟩, prog_9_method_44_code, 4, (some .int), 7, false, 2, 4, 965, C_X7_moreOf_0),
  (⟨"PointSharesModel", "adjusts", "(II)Z"⟩, prog_9_method_45_code, 4, (some .boolean), 7, false, 5, 3, 961, C_X7_adjusts_0),
  (⟨"PointSharesModel", "movesAll", "(Z)V"⟩, prog_9_method_46_code, 7, none, 7, false, 4, 2, 973, C_X7_movesAll_0),
  (⟨"PointSharesModel", "doesHoldSo", "(ZI)Z"⟩, prog_9_method_47_code, 3, (some .boolean), 7, false, 0, 3, 981, C_X7_doesHoldSo_0),
  (⟨"PointSharesModel", "bitsSo", "(Z)I"⟩, prog_9_method_48_code, 4, (some .int), 7, false, 1, 2, 977, C_X7_bitsSo_0),
  (⟨"PointSharesModel", "adjusted", "(III)I"⟩, prog_9_method_49_code, 4, (some .int), 7, false, 6, 4, 957, C_X7_adjusted_0),
  (⟨"PointSharesModel", "alikeOf", "(II)J"⟩, prog_9_method_50_code, 5, (some .long), 7, false, 2, 3, 989, C_X7_alikeOf_0),
  (⟨"PointSharesModel", "alike", "(III)J"⟩, prog_9_method_51_code, 4, (some .long), 7, false, 6, 4, 985, C_X7_alike_0),
  (⟨"PointSharesModel", "parted", "(III)J"⟩, prog_9_method_52_code, 4, (some .long), 7, false, 6, 4, 993, C_X7_parted_0),
  (⟨"PointSharesModel", "settle", "(II)I"⟩, prog_9_method_53_code, 4, (some .int), 7, false, 6, 3, 997, C_X7_settle_0),
  (⟨"PointSharesModel", "nextWay", "()Z"⟩, prog_9_method_54_code, 2, (some .boolean), 7, false, 0, 1, 1015, C_X7_nextWay_0),
  (⟨"PointSharesModel", "wayWorth", "(I)I"⟩, prog_9_method_55_code, 4, (some .int), 7, false, 1, 2, 1010, C_X7_wayWorth_0),
  (⟨"PointSharesModel", "searches", "()V"⟩, prog_9_method_56_code, 13, none, 7, false, 2, 1, 1005, C_X7_searches_0)]
def zMT_8 : List zMTr := [
  (⟨"PointSharesModel", "fair", "(I)I"⟩, prog_9_method_57_code, 2, (some .int), 7, false, 3, 2, 1001, C_X7_fair_0),
  (⟨"PointSharesModel", "fairest", "(I)J"⟩, prog_9_method_58_code, 2, (some .long), 7, false, 3, 2, 1019, C_X7_fairest_0),
  (⟨"PointSharesModel", "withoutHolder", "()I"⟩, prog_9_method_59_code, 3, (some .int), 7, false, 0, 1, 1027, C_X7_withoutHolder_0),
  (⟨"PointSharesModel", "told", "(I)I"⟩, prog_9_method_60_code, 2, (some .int), 7, false, 4, 2, 1023, C_X7_told_0),
  (⟨"PointSharesModel", "feed", "(I)I"⟩, prog_9_method_61_code, 2, (some .int), 7, false, 1, 2, 1035, C_X7_feed_0),
  (⟨"PointSharesModel", "isDigit", "()Z"⟩, prog_9_method_62_code, 1, (some .boolean), 7, false, 1, 1, 1055, C_X7_isDigit_0),
  (⟨"PointSharesModel", "numbersOf", "(I)I"⟩, prog_9_method_63_code, 1, (some .int), 7, true, 0, 1, 1051, C_X7_numbersOf_0),
  (⟨"PointSharesModel", "readsClause", "(I)Z"⟩, prog_9_method_64_code, 5, (some .boolean), 7, false, 2, 2, 1048, C_X7_readsClause_0),
  (⟨"PointSharesModel", "readsAll", "()I"⟩, prog_9_method_65_code, 2, (some .int), 7, false, 3, 1, 1044, C_X7_readsAll_0),
  (⟨"PointSharesModel", "does", "(I)I"⟩, prog_9_method_66_code, 4, (some .int), 7, false, 7, 2, 1061, C_X7_does_0),
  (⟨"PointSharesModel", "read", "()I"⟩, prog_9_method_67_code, 5, (some .int), 7, false, 8, 1, 1040, C_X7_read_0),
  (⟨"PointSharesModel", "see", "(II)I"⟩, prog_9_method_68_code, 3, (some .int), 7, false, 2, 3, 1070, C_X7_see_0),
  (⟨"PointSharesModel", "isSeenSo", "()Z"⟩, prog_9_method_69_code, 4, (some .boolean), 7, false, 6, 1, 1078, C_X7_isSeenSo_0),
  (⟨"PointSharesModel", "fits", "(III)I"⟩, prog_9_method_70_code, 9, (some .int), 7, false, 7, 4, 1074, C_X7_fits_0),
  (⟨"PointSharesModel", "odds", "(II)J"⟩, prog_9_method_71_code, 6, (some .long), 7, false, 6, 3, 1082, C_X7_odds_0),
  (⟨"PointSharesModel", "mean", "(II)J"⟩, prog_9_method_72_code, 3, (some .long), 7, false, 2, 3, 1087, C_X7_mean_0),
  (⟨"PointSharesModel", "event", "(II)I"⟩, prog_9_method_73_code, 3, (some .int), 7, false, 2, 3, 1091, C_X7_event_0),
  (⟨"PointSharesModel", "happens", "(II)V"⟩, prog_9_method_74_code, 6, none, 7, false, 1, 3, 1100, C_X7_happens_0),
  (⟨"PointSharesModel", "afterNow", "(I)J"⟩, prog_9_method_75_code, 2, (some .long), 7, false, 6, 2, 1104, C_X7_afterNow_0),
  (⟨"PointSharesModel", "after", "(I)J"⟩, prog_9_method_76_code, 4, (some .long), 7, false, 7, 2, 1096, C_X7_after_0)]
def zMT_9 : List zMTr := [
  (⟨"PointSharesModel", "book", "(II)I"⟩, prog_9_method_77_code, 3, (some .int), 7, false, 2, 3, 1108, C_X7_book_0),
  (⟨"PointSharesModel", "looked", "()I"⟩, prog_9_method_78_code, 2, (some .int), 7, false, 2, 1, 1112, C_X7_looked_0),
  (⟨"PointSharesModel", "image", "()I"⟩, prog_9_method_79_code, 1, (some .int), 7, false, 1, 1, 1116, C_X7_image_0),
  (⟨"PointSharesModel", "undo", "()I"⟩, prog_9_method_80_code, 1, (some .int), 7, false, 1, 1, 1120, C_X7_undo_0),
  (⟨"PointSharesModel", "count", "(I)I"⟩, prog_9_method_81_code, 2, (some .int), 7, false, 0, 2, 1124, C_X7_count_0),
  (⟨"PointSharesModel", "isTape", "(I)Z"⟩, prog_9_method_82_code, 1, (some .boolean), 7, true, 1, 1, 1131, C_X7_isTape_0),
  (⟨"PointSharesModel", "tape", "(III)I"⟩, prog_9_method_83_code, 5, (some .int), 7, false, 2, 4, 1128, C_X7_tape_0),
  (⟨"PointSharesModel", "kept", "(IJ)J"⟩, prog_9_method_84_code, 3, (some .long), 7, true, 0, 2, 1139, C_X7_kept_0),
  (⟨"PointSharesModel", "item", "(IIJ)I"⟩, prog_9_method_85_code, 5, (some .int), 7, false, 2, 4, 1136, C_X7_item_0),
  (⟨"PointSharesModel", "peek", "(II)J"⟩, prog_9_method_86_code, 3, (some .long), 7, false, 2, 3, 1143, C_X7_peek_0),
  (⟨"PointSharesModel", "shift", "(IIIII)I"⟩, prog_9_method_87_code, 6, (some .int), 7, false, 2, 6, 1147, C_X7_shift_0),
  (⟨"PointSharesModel", "judge", "(II)I"⟩, prog_9_method_88_code, 4, (some .int), 7, false, 2, 3, 1151, C_X7_judge_0),
  (⟨"java/lang/Integer", "bitCount", "(I)I"⟩, prog_10_method_49_code, 1, (some .int), 9, true, 0, 1, 516, C_J6_bitCount_0),
  (⟨"PointSharesLaw", "law", "([I)Z"⟩, code, 4, (some .boolean), 8, true, 12, 1, 0, C_L_law_18)]
def zMT : List zMTr := zMT_0 ++ (zMT_1 ++ (zMT_2 ++ (zMT_3 ++ (zMT_4 ++ (zMT_5 ++ (zMT_6 ++ (zMT_7 ++ (zMT_8 ++ (zMT_9)))))))))
def zNM : Nat := 194
def zFLD : List (Nat × Nat × Nat × Nat) := [(0, 15, 1, 161), (0, 27, 4, 166), (0, 30, 5, 168), (0, 33, 6, 171), (0, 37, 7, 174), (0, 40, 2, 162), (0, 43, 3, 164), (0, 9, 0, 159), (0, 62, 8, 177), (0, 65, 9, 179), (1, 16, 34, 98), (1, 7, 32, 94), (1, 13, 33, 96), (2, 9, 64, 109), (2, 49, 65, 111), (2, 39, 72, 124), (2, 55, 34, 99), (2, 43, 73, 126), (2, 46, 74, 128), (2, 17, 66, 113), (2, 20, 67, 115), (2, 24, 68, 117), (2, 27, 69, 119), (2, 58, 70, 121), (2, 30, 71, 122), (2, 65, 0, 160), (2, 76, 5, 169), (2, 77, 3, 165), (2, 80, 6, 172), (2, 81, 7, 175), (3, 9, 96, 266), (3, 19, 97, 268), (3, 15, 98, 270), (4, 9, 128, 250), (4, 15, 129, 251), (5, 24, 160, 208), (5, 28, 161, 209), (5, 32, 162, 210), (5, 15, 164, 212), (5, 18, 165, 213), (5, 41, 167, 216), (5, 45, 168, 218), (5, 9, 163, 211), (5, 21, 166, 214), (5, 70, 169, 220), (6, 12, 192, 280), (6, 54, 64, 110), (6, 62, 65, 112), (6, 76, 66, 114), (6, 79, 67, 116), (6, 91, 68, 118), (6, 24, 195, 283), (6, 113, 5, 170), (6, 43, 198, 286), (6, 114, 129, 252), (6, 130, 69, 120), (6, 142, 71, 123), (6, 31, 196, 284), (6, 175, 169, 221), (6, 181, 4, 167), (6, 184, 2, 163), (6, 187, 8, 178), (6, 190, 9, 180), (6, 193, 6, 173), (6, 196, 7, 176), (6, 201, 166, 215), (6, 204, 167, 217), (6, 207, 168, 219), (6, 210, 72, 125), (6, 37, 197, 285), (6, 234, 73, 127), (6, 237, 34, 100), (6, 238, 32, 95), (6, 241, 33, 97), (6, 247, 74, 129), (6, 49, 199, 287), (6, 256, 96, 267), (6, 259, 97, 269), (6, 262, 98, 271), (6, 18, 193, 281), (6, 270, 194, 282), (7, 11, 224, 724), (7, 21, 228, 728), (7, 153, 229, 729), (7, 157, 230, 730), (7, 161, 231, 731), (7, 164, 232, 732), (7, 171, 233, 733), (7, 174, 234, 734), (7, 25, 235, 735), (7, 197, 237, 737), (7, 200, 238, 738), (7, 206, 239, 739), (7, 28, 236, 736), (7, 230, 241, 741), (7, 31, 240, 740), (7, 233, 242, 742), (7, 34, 243, 743), (7, 18, 226, 726), (7, 15, 225, 725), (7, 284, 227, 727), (7, 37, 244, 744), (7, 40, 245, 745), (7, 43, 246, 746)]
def zCST : List (Nat × Nat × Nat × Int × Nat) := [(5, 39, 64, (-1), 545), (6, 136, 64, (-9223372036854775808), 470), (6, 232, 64, 10, 632), (7, 55, 64, 2, 799), (7, 57, 64, 4, 800), (7, 66, 64, 99, 824), (7, 100, 64, (-9223372036854775808), 877), (7, 195, 64, (-1), 1006), (7, 228, 64, 127, 1036), (7, 236, 64, 48, 1056), (7, 238, 64, 57, 1057), (7, 273, 64, 10, 1083), (7, 275, 64, 3, 1092), (7, 288, 64, 5, 1132), (9, 265, 32, 1431655765, 517), (9, 266, 32, 858993459, 518), (9, 267, 32, 252645135, 519), (8, 161, 64, 4294967295, 1152)]
def zCALL : List (Nat × Nat × Nat × Nat × Nat × Nat × Nat × Nat) := [(0, 19, 2, 94, 382, 383, 62, 62), (0, 23, 0, 1, 385, 387, 4, 65), (0, 46, 0, 2, 389, 391, 5, 65), (0, 50, 0, 4, 400, 402, 7, 65), (0, 54, 0, 3, 393, 395, 6, 65), (0, 58, 2, 95, 397, 398, 62, 62), (0, 68, 0, 5, 574, 575, 576, 65), (1, 20, 3, 9999, 681, 410, 409, 70), (2, 52, 0, 13, 313, 315, 0, 63), (2, 61, 2, 92, 360, 361, 62, 62), (2, 70, 3, 9999, 408, 410, 409, 70), (2, 82, 0, 15, 411, 357, 358, 63), (2, 86, 2, 94, 484, 383, 62, 62), (2, 90, 0, 17, 489, 472, 473, 63), (2, 94, 2, 93, 676, 620, 62, 62), (2, 98, 0, 10, 677, 678, 679, 64), (4, 19, 0, 29, 432, 433, 434, 67), (4, 23, 0, 30, 439, 440, 441, 67), (4, 26, 1, 32, 436, 437, 67, 67), (4, 29, 0, 33, 428, 429, 430, 67), (5, 35, 2, 94, 544, 383, 62, 62), (5, 48, 1, 36, 546, 547, 66, 66), (5, 52, 0, 44, 549, 551, 15, 66), (5, 56, 0, 45, 553, 555, 16, 66), (5, 60, 0, 46, 558, 560, 17, 66), (5, 48, 1, 37, 546, 547, 66, 66), (5, 48, 1, 38, 546, 547, 66, 66), (5, 48, 1, 39, 546, 547, 66, 66), (5, 48, 1, 40, 546, 547, 66, 66), (5, 48, 1, 41, 546, 547, 66, 66), (5, 48, 1, 42, 546, 547, 66, 66), (5, 48, 1, 43, 546, 547, 66, 66), (5, 64, 3, 9999, 557, 410, 409, 70), (6, 58, 0, 11, 309, 310, 311, 63), (6, 65, 0, 12, 321, 322, 323, 63), (6, 69, 0, 85, 329, 331, 1, 62), (6, 73, 0, 87, 333, 335, 2, 62), (6, 83, 0, 14, 345, 346, 347, 63), (6, 87, 1, 90, 349, 350, 62, 62), (6, 94, 0, 15, 356, 357, 358, 63), (6, 98, 0, 21, 366, 367, 368, 63), (6, 101, 0, 86, 374, 376, 3, 62), (6, 105, 0, 0, 378, 379, 380, 65), (6, 109, 0, 16, 404, 405, 406, 63), (6, 117, 0, 28, 416, 417, 418, 67), (6, 120, 0, 34, 424, 425, 426, 67), (6, 123, 0, 33, 443, 429, 430, 67), (6, 126, 0, 96, 444, 446, 8, 62), (6, 133, 1, 88, 467, 468, 62, 62), (6, 138, 0, 17, 471, 472, 473, 63), (6, 146, 1, 92, 475, 361, 62, 62), (6, 150, 0, 18, 480, 481, 482, 63), (6, 153, 0, 19, 485, 486, 487, 63), (6, 156, 0, 97, 494, 496, 9, 62), (6, 159, 0, 98, 506, 508, 12, 62), (6, 162, 0, 99, 520, 522, 13, 62), (6, 165, 0, 22, 532, 533, 534, 63), (6, 168, 0, 102, 536, 538, 14, 62), (6, 171, 0, 35, 540, 541, 542, 66), (6, 178, 0, 6, 570, 571, 572, 65), (6, 197, 1, 95, 590, 398, 62, 62), (6, 214, 0, 9, 603, 604, 605, 64), (6, 219, 0, 7, 607, 608, 609, 64), (6, 223, 0, 8, 611, 612, 613, 64), (6, 225, 1, 93, 619, 620, 62, 62), (6, 229, 0, 103, 623, 625, 18, 62), (6, 244, 0, 104, 645, 647, 19, 62), (6, 250, 1, 89, 661, 662, 62, 62), (6, 253, 0, 24, 664, 665, 666, 68), (6, 266, 0, 23, 672, 673, 674, 63), (6, 274, 0, 25, 694, 695, 696, 68), (6, 277, 0, 26, 702, 703, 704, 68), (6, 281, 0, 27, 714, 715, 716, 68), (6, 284, 3, 9999, 622, 410, 409, 70), (6, 290, 1, 91, 363, 364, 62, 62), (6, 294, 0, 30, 448, 440, 441, 67), (6, 297, 0, 29, 449, 433, 434, 67), (6, 300, 0, 47, 450, 306, 307, 62), (6, 303, 0, 48, 451, 318, 319, 62), (6, 306, 0, 31, 452, 453, 454, 67), (6, 309, 0, 49, 456, 326, 327, 62), (6, 313, 0, 51, 457, 342, 343, 62), (6, 316, 0, 53, 458, 371, 372, 62), (6, 319, 0, 100, 498, 500, 10, 62), (6, 322, 0, 101, 502, 504, 11, 62), (6, 325, 0, 20, 510, 511, 512, 63), (6, 326, 1, 192, 514, 515, 71, 71), (6, 331, 0, 5, 627, 575, 576, 65), (7, 47, 1, 105, 801, 802, 69, 69), (7, 51, 0, 106, 816, 818, 21, 69), (7, 59, 0, 112, 808, 810, 20, 69), (7, 63, 0, 107, 820, 822, 22, 69), (7, 68, 0, 113, 825, 827, 23, 69), (7, 72, 0, 116, 837, 839, 24, 69), (7, 76, 1, 118, 845, 846, 69, 69), (7, 79, 1, 121, 863, 864, 69, 69), (7, 83, 1, 122, 860, 861, 69, 69), (7, 87, 0, 120, 852, 854, 25, 69), (7, 91, 0, 123, 856, 858, 26, 69), (7, 94, 0, 126, 878, 880, 27, 69), (7, 97, 1, 109, 874, 875, 69, 69), (7, 102, 0, 127, 922, 924, 36, 69), (7, 106, 0, 130, 890, 892, 29, 69), (7, 110, 0, 131, 886, 888, 28, 69), (7, 114, 0, 133, 906, 908, 32, 69), (7, 117, 0, 134, 902, 904, 31, 69), (7, 120, 0, 135, 910, 912, 33, 69), (7, 123, 0, 129, 918, 920, 35, 69), (7, 126, 0, 137, 926, 928, 37, 69), (7, 129, 0, 136, 898, 900, 30, 69), (7, 132, 0, 138, 914, 916, 34, 69), (7, 135, 0, 108, 934, 936, 38, 69), (7, 138, 0, 143, 950, 952, 41, 69), (7, 142, 0, 142, 946, 948, 40, 69), (7, 146, 0, 144, 942, 944, 39, 69), (7, 149, 0, 146, 966, 968, 44, 69), (7, 167, 0, 147, 962, 964, 43, 69), (7, 177, 0, 149, 970, 972, 45, 69), (7, 181, 0, 150, 978, 980, 47, 69), (7, 185, 0, 148, 958, 960, 42, 69), (7, 188, 0, 151, 974, 976, 46, 69), (7, 192, 0, 153, 986, 988, 48, 69), (7, 203, 0, 158, 1007, 1009, 50, 69), (7, 209, 3, 9999, 1011, 410, 409, 70), (7, 215, 0, 157, 1012, 1014, 51, 69), (7, 219, 0, 159, 1002, 1004, 49, 69), (7, 222, 0, 162, 1024, 1026, 52, 69), (7, 225, 0, 141, 1028, 1030, 53, 69), (7, 240, 1, 166, 1049, 1050, 69, 69), (7, 243, 0, 165, 1052, 1054, 56, 69), (7, 246, 0, 167, 1045, 1047, 55, 69), (7, 249, 0, 110, 1062, 796, 797, 69), (7, 252, 0, 111, 1063, 805, 806, 69), (7, 255, 0, 114, 1064, 813, 814, 69), (7, 258, 0, 119, 1065, 842, 843, 69), (7, 261, 0, 156, 1066, 995, 996, 69), (7, 264, 0, 168, 1041, 1043, 54, 69), (7, 267, 0, 169, 1058, 1060, 57, 69), (7, 270, 0, 172, 1075, 1077, 58, 69), (7, 277, 0, 177, 1097, 1099, 59, 69), (7, 280, 0, 178, 1101, 1103, 60, 69), (7, 290, 1, 185, 1129, 1130, 69, 69), (7, 293, 1, 187, 1137, 1138, 69, 69), (8, 13, 0, 47, 305, 306, 307, 62), (8, 17, 0, 110, 795, 796, 797, 69), (8, 18, 0, 48, 317, 318, 319, 62), (8, 22, 0, 111, 804, 805, 806, 69), (8, 23, 0, 49, 325, 326, 327, 62), (8, 27, 0, 114, 812, 813, 814, 69), (8, 28, 0, 50, 337, 338, 339, 62), (8, 32, 0, 115, 829, 830, 831, 69), (8, 33, 0, 51, 341, 342, 343, 62), (8, 36, 0, 119, 841, 842, 843, 69), (8, 37, 0, 52, 352, 353, 354, 62), (8, 41, 0, 124, 848, 849, 850, 69), (8, 42, 0, 53, 370, 371, 372, 62), (8, 45, 0, 156, 994, 995, 996, 69), (8, 46, 0, 54, 412, 413, 414, 62), (8, 49, 0, 164, 1032, 1033, 1034, 69), (8, 50, 0, 55, 420, 421, 422, 62), (8, 53, 0, 170, 1037, 1038, 1039, 69), (8, 54, 0, 56, 459, 460, 461, 62), (8, 57, 0, 125, 866, 867, 868, 69), (8, 58, 0, 57, 463, 464, 465, 62), (8, 62, 0, 128, 870, 871, 872, 69), (8, 63, 0, 58, 476, 477, 478, 62), (8, 66, 0, 132, 882, 883, 884, 69), (8, 67, 0, 59, 490, 491, 492, 62), (8, 70, 0, 139, 894, 895, 896, 69), (8, 71, 0, 60, 524, 525, 526, 62), (8, 74, 0, 140, 930, 931, 932, 69), (8, 75, 0, 61, 528, 529, 530, 62), (8, 78, 0, 163, 1020, 1021, 1022, 69), (8, 79, 0, 62, 562, 563, 564, 62), (8, 82, 0, 117, 833, 834, 835, 69), (8, 83, 0, 63, 566, 567, 568, 62), (8, 86, 0, 152, 954, 955, 956, 69), (8, 87, 0, 64, 578, 579, 580, 62), (8, 90, 0, 154, 982, 983, 984, 69), (8, 91, 0, 65, 582, 583, 584, 62), (8, 94, 0, 155, 990, 991, 992, 69), (8, 95, 0, 66, 586, 587, 588, 62), (8, 98, 0, 145, 938, 939, 940, 69), (8, 99, 0, 67, 591, 592, 593, 62), (8, 102, 0, 160, 998, 999, 1000, 69), (8, 103, 0, 68, 595, 596, 597, 62), (8, 107, 0, 161, 1016, 1017, 1018, 69), (8, 108, 0, 69, 599, 600, 601, 62), (8, 111, 0, 171, 1067, 1068, 1069, 69), (8, 112, 0, 70, 615, 616, 617, 62), (8, 115, 0, 173, 1071, 1072, 1073, 69), (8, 116, 0, 71, 628, 629, 630, 62), (8, 120, 0, 174, 1079, 1080, 1081, 69), (8, 121, 0, 72, 633, 634, 635, 62), (8, 124, 0, 175, 1084, 1085, 1086, 69), (8, 125, 0, 73, 637, 638, 639, 62), (8, 128, 0, 176, 1088, 1089, 1090, 69), (8, 129, 0, 74, 641, 642, 643, 62), (8, 132, 0, 179, 1093, 1094, 1095, 69), (8, 133, 0, 75, 649, 650, 651, 62), (8, 136, 0, 180, 1105, 1106, 1107, 69), (8, 137, 0, 76, 653, 654, 655, 62), (8, 140, 0, 181, 1109, 1110, 1111, 69), (8, 141, 0, 77, 657, 658, 659, 62), (8, 144, 0, 191, 1148, 1149, 1150, 69), (8, 145, 0, 78, 668, 669, 670, 62), (8, 148, 0, 182, 1113, 1114, 1115, 69), (8, 149, 0, 79, 682, 683, 684, 62), (8, 152, 0, 183, 1117, 1118, 1119, 69), (8, 153, 0, 80, 686, 687, 688, 62), (8, 156, 0, 184, 1121, 1122, 1123, 69), (8, 157, 0, 81, 690, 691, 692, 62), (8, 160, 0, 186, 1125, 1126, 1127, 69), (8, 163, 0, 82, 698, 699, 700, 62), (8, 167, 0, 188, 1133, 1134, 1135, 69), (8, 168, 0, 83, 706, 707, 708, 62), (8, 171, 0, 189, 1140, 1141, 1142, 69), (8, 172, 0, 84, 710, 711, 712, 62), (8, 176, 0, 190, 1144, 1145, 1146, 69)]
def zLAYI : List (List Nat) := [[181, 183, 185, 187, 189, 191, 193, 195, 197, 199], [101, 103, 105], [130, 132, 134, 136, 138, 140, 142, 144, 146, 148, 150], [272, 274, 276], [253, 255], [222, 224, 226, 228, 230, 232, 234, 236, 238, 240], [288, 290, 292, 294, 296, 298, 300, 302], [747, 749, 751, 753, 755, 757, 759, 761, 763, 765, 767, 769, 771, 773, 775, 777, 779, 781, 783, 785, 787, 789, 791]]
def zCNL : List String := ["PointShares$Adjustment", "PointShares$Rows", "PointShares$Setup", "PointShares$Tape", "PointShares$Text", "PointShares$WholeWays", "PointShares", "PointSharesModel", "PointSharesLaw", "java/lang/Integer"]
end
section
def zmt (k : Nat) : zMTr := zMT.getD k (⟨"", "", ""⟩, ⟨#[]⟩, 0, none, 0, true, 0, 0, 0, [])
def zcode (k : Nat) : List zCE := (zmt k).2.2.2.2.2.2.2.2.2
def zown (k : Nat) : Nat := (zmt k).2.2.2.2.1
def zmaxl (k : Nat) : Nat := (zmt k).2.2.1
def zbytes (k : Nat) : ByteArray := (zmt k).2.1
def zname (k : Nat) : MethodName := (zmt k).1
def zret (k : Nat) : Option FieldType := (zmt k).2.2.2.1
def zstat (k : Nat) : Bool := (zmt k).2.2.2.2.2.1
def zlvl (k : Nat) : Nat := (zmt k).2.2.2.2.2.2.1
def znar (k : Nat) : Nat := (zmt k).2.2.2.2.2.2.2.1
def zcix (k : Nat) : Nat := (zmt k).2.2.2.2.2.2.2.2.1
def zjump (k : Nat) (x : Int) : List zCE := (zcode k).dropWhile (fun e => decide ((e.1 : Int) ≠ x))
/-- the locals at the start of a method -/
def zini : List zV → List zV
  | [] => []
  | v :: r => if v.1 = 1 then v :: vU :: zini r else v :: zini r
def zloc (k : Nat) (args : List zV) : List zV := zini args ++ List.replicate (zmaxl k - (zini args).length) vU
abbrev zO : Type := Option (Option zV × zM)
abbrev zR : Type := zO ⊕ ((List zCE × List zV × List zV × zM) ⊕ (Nat × List zV × List zV))
def zstuck : zR := .inl none
def zgo (is : List zCE) (ls st : List zV) (σ : zM) : zR := .inr (.inl (is, ls, st, σ))
def zld (t n : Nat) (is : List zCE) (ls st : List zV) (σ : zM) : zR := match ls[n]? with
  | some v => if v.1 = t then zgo is ls (v :: st) σ else zstuck
  | none => zstuck
def zst (t n : Nat) (is : List zCE) (ls st : List zV) (σ : zM) : zR := match st with
  | v :: st' => if v.1 = t ∧ (if t = 1 then n + 1 else n) < ls.length then zgo is (zput ls n v) st' σ else zstuck
  | [] => zstuck
def ziinc (n : Nat) (c : Int) (is : List zCE) (ls st : List zV) (σ : zM) : zR := match ls[n]? with
  | some v => if v.1 = 0 then zgo is (zput ls n (vI (v.2 + c))) st σ else zstuck
  | none => zstuck
def zdup (is : List zCE) (ls st : List zV) (σ : zM) : zR := match st with
  | v :: st' => if v.1 = 1 then zstuck else zgo is ls (v :: v :: st') σ
  | [] => zstuck
def zdup2 (is : List zCE) (ls st : List zV) (σ : zM) : zR := match st with
  | [] => zstuck
  | v :: st' => if v.1 = 1 then zgo is ls (v :: v :: st') σ else match st' with
    | u :: st2 => if u.1 = 1 then zstuck else zgo is ls (v :: u :: v :: u :: st2) σ
    | [] => zstuck
def zbin (ta tb tr : Nat) (g : Int → Int → Option Int) (is : List zCE) (ls st : List zV) (σ : zM) : zR := match st with
  | v :: u :: st' => if v.1 = tb ∧ u.1 = ta then (match g u.2 v.2 with
      | some r => zgo is ls ((tr, r) :: st') σ
      | none => zstuck) else zstuck
  | _ => zstuck
def zun (ta tr : Nat) (g : Int → Int) (is : List zCE) (ls st : List zV) (σ : zM) : zR := match st with
  | v :: st' => if v.1 = ta then zgo is ls ((tr, g v.2) :: st') σ else zstuck
  | _ => zstuck
def zcd (c : Jvm.ClassFile.Cond) (a b : Int) : Bool := match c with
  | .eq => decide (a = b)
  | .ne => decide (¬ a = b)
  | .lt => decide (a < b)
  | .ge => decide (b ≤ a)
  | .gt => decide (b < a)
  | .le => decide (a ≤ b)
def zif (k : Nat) (x : Int) (c : Jvm.ClassFile.Cond) (is : List zCE) (ls st : List zV) (σ : zM) : zR := match st with
  | v :: st' => if v.1 = 0 then (if zcd c (c32 v.2) 0 = true then zgo (zjump k x) ls st' σ else zgo is ls st' σ) else zstuck
  | [] => zstuck
def zicmp (k : Nat) (x : Int) (c : Jvm.ClassFile.Cond) (is : List zCE) (ls st : List zV) (σ : zM) : zR := match st with
  | v :: u :: st' => if v.1 = 0 ∧ u.1 = 0 then (if zcd c (c32 u.2) (c32 v.2) = true then zgo (zjump k x) ls st' σ else zgo is ls st' σ) else zstuck
  | _ => zstuck
def ztab (k pc : Nat) (d lo hi : Int) (offs : Array Int) (ls st : List zV) (σ : zM) : zR := match st with
  | v :: st' => if v.1 = 0 then (if c32 v.2 < lo ∨ hi < c32 v.2 then zgo (zjump k (pc + d)) ls st' σ else (match offs[(c32 v.2 - lo).toNat]? with
      | some o => zgo (zjump k (pc + o)) ls st' σ
      | none => zstuck)) else zstuck
  | [] => zstuck
def zlook (k pc : Nat) (d : Int) (ps : Array (Int × Int)) (ls st : List zV) (σ : zM) : zR := match st with
  | v :: st' => if v.1 = 0 then zgo (zjump k (pc + Op.lookupswitch.offset ps.toList d (c32 v.2))) ls st' σ else zstuck
  | [] => zstuck
/-- what is read of field x (32 times the class, and its place) of cell c -/
def zrdF (x c : Int) (σ : zM) : Option zV :=
  if (zshp c).1 = 10 + x.toNat / 32 ∧ x.toNat % 32 < (zshp c).2 then
    (match zfk (x.toNat / 32) (x.toNat % 32) with
      | 0 => some (vI (σ c (x.toNat % 32 : Nat)))
      | 1 => some (vI (σ c (x.toNat % 32 : Nat)))
      | 2 => some (vL (σ c (x.toNat % 32 : Nat)))
      | 3 => some (vR (zrf c.toNat (x.toNat % 32) : Nat))
      | 4 => if 0 ≤ σ c (x.toNat % 32 : Nat) then some (vR (σ c (x.toNat % 32 : Nat))) else none
      | _ => none)
  else none
def zgf (x : Int) (is : List zCE) (ls st : List zV) (σ : zM) : zR := match st with
  | v :: st' => if v.1 = 2 then (match zrdF x v.2 σ with
      | some r => zgo is ls (r :: st') σ
      | none => zstuck) else zstuck
  | [] => zstuck
/-- whether a value may be written to field x of cell c -/
def zokF (x c : Int) (v : zV) : Bool :=
  (zshp c).1 == 10 + x.toNat / 32 && decide (x.toNat % 32 < (zshp c).2) &&
    (match zfk (x.toNat / 32) (x.toNat % 32) with
      | 0 => v.1 == 0
      | 1 => v.1 == 0 && (v.2 == 0 || v.2 == 1)
      | 2 => v.1 == 1
      | 4 => v.1 == 2 && decide (0 ≤ v.2)
      | _ => false)
def zpf (x : Int) (is : List zCE) (ls st : List zV) (σ : zM) : zR := match st with
  | v :: u :: st' => if u.1 = 2 ∧ zokF x u.2 v = true then zgo is ls st' (zU σ u.2 (x.toNat % 32 : Nat) v.2) else zstuck
  | _ => zstuck
def zLAW : Nat := 193
/-- what is read at place i of cell c, by a load of sort t -/
def zrdA (k t : Nat) (c i : Int) (σ : zM) : Option zV :=
  if k = zLAW ∧ c = 72 then (if t = 0 ∧ 0 ≤ i ∧ i < σ 72 (-1) then some (vI (σ 72 i)) else none)
  else if 0 ≤ i ∧ i < (zshp c).2 then
    (match t, (zshp c).1 with
      | 0, 0 => some (vI (σ c i))
      | 1, 1 => some (vL (σ c i))
      | 2, 2 => if -128 ≤ σ c i ∧ σ c i < 128 then some (vI (σ c i)) else none
      | 2, 3 => if 0 ≤ σ c i ∧ σ c i < 2 then some (vI (σ c i)) else none
      | 3, 4 => some (vR (zra c.toNat i.toNat : Nat))
      | 3, 5 => some (vR (zra c.toNat i.toNat : Nat))
      | _, _ => none)
  else none
def zald (k t : Nat) (is : List zCE) (ls st : List zV) (σ : zM) : zR := match st with
  | v :: u :: st' => if v.1 = 0 ∧ u.1 = 2 then (match zrdA k t u.2 (c32 v.2) σ with
      | some r => zgo is ls (r :: st') σ
      | none => zstuck) else zstuck
  | _ => zstuck
def zokA (t : Nat) (c i : Int) : Bool := decide (0 ≤ i) && decide (i < (zshp c).2) && ((t == 0 && (zshp c).1 == 0) || (t == 1 && (zshp c).1 == 1) || (t == 2 && ((zshp c).1 == 2 || (zshp c).1 == 3)))
def zast (t : Nat) (is : List zCE) (ls st : List zV) (σ : zM) : zR := match st with
  | w :: v :: u :: st' => if w.1 = (if t = 1 then 1 else 0) ∧ v.1 = 0 ∧ u.1 = 2 ∧ zokA t u.2 (c32 v.2) = true then zgo is ls st' (zU σ u.2 (c32 v.2) w.2) else zstuck
  | _ => zstuck
def zaln (k : Nat) (is : List zCE) (ls st : List zV) (σ : zM) : zR := match st with
  | u :: st' => if u.1 = 2 then (if k = zLAW ∧ u.2 = 72 then zgo is ls (vI (σ 72 (-1)) :: st') σ else if (zshp u.2).1 < 6 then zgo is ls (vI ((zshp u.2).2 : Nat) :: st') σ else zstuck) else zstuck
  | _ => zstuck
def zcpy (is : List zCE) (ls st : List zV) (σ : zM) : zR := match st with
  | n :: dp :: d :: sp :: a :: st' => if n.1 = 0 ∧ dp.1 = 0 ∧ d.1 = 2 ∧ sp.1 = 0 ∧ a.1 = 2 ∧ st'.length ≤ 4 ∧ (zshp a.2).1 = (zshp d.2).1 ∧ (zshp d.2).1 < 2 ∧ 0 ≤ c32 n.2 ∧ 0 ≤ c32 dp.2 ∧ 0 ≤ c32 sp.2 ∧ c32 sp.2 + c32 n.2 ≤ (zshp a.2).2 ∧ c32 dp.2 + c32 n.2 ≤ (zshp d.2).2 then
      zgo is ls st' (zCpy σ a.2 (c32 sp.2) d.2 (c32 dp.2) (c32 n.2)) else zstuck
  | _ => zstuck
def zrecv (x : Nat) (args : List zV) : Bool := zstat x || (match args with
  | v :: _ => v.1 == 2 && (zshp v.2).1 == 10 + zown x
  | [] => false)
def zinv (x : Int) (ls st : List zV) (σ : zM) : zR :=
  if znar x.toNat ≤ st.length ∧ (st.drop (znar x.toNat)).length ≤ 4 ∧ (st.all (fun v => decide (v.1 ≤ 2))) = true ∧ zrecv x.toNat (st.take (znar x.toNat)).reverse = true ∧ (zini (st.take (znar x.toNat)).reverse).length ≤ zmaxl x.toNat then .inr (.inr (x.toNat, (st.take (znar x.toNat)).reverse, st.drop (znar x.toNat))) else zstuck
def zireturn (x : Int) (st : List zV) (σ : zM) : zR := match st with
  | [v] => if v.1 = 0 ∧ (x = 0 ∨ v.2 = 0 ∨ v.2 = 1) then .inl (some (some v, σ)) else zstuck
  | _ => zstuck
def zlreturn (st : List zV) (σ : zM) : zR := match st with
  | [v] => if v.1 = 1 then .inl (some (some v, σ)) else zstuck
  | _ => zstuck
def zvreturn (st : List zV) (σ : zM) : zR := match st with
  | [] => .inl (some (none, σ))
  | _ => zstuck
def iDiv (a b : Int) : Option Int := if c32 b = 0 then none else some ((Int32.ofInt a / Int32.ofInt b).toInt)
def iRem (a b : Int) : Option Int := if c32 b = 0 then none else some ((Int32.ofInt a - Int32.ofInt a / Int32.ofInt b * Int32.ofInt b).toInt)
def lDiv (a b : Int) : Option Int := if c64 b = 0 then none else some ((Int64.ofInt a / Int64.ofInt b).toInt)
def lRem (a b : Int) : Option Int := if c64 b = 0 then none else some ((Int64.ofInt a - Int64.ofInt a / Int64.ofInt b * Int64.ofInt b).toInt)
def iAnd (a b : Int) : Int := (Int32.ofInt a &&& Int32.ofInt b).toInt
def iOr (a b : Int) : Int := (Int32.ofInt a ||| Int32.ofInt b).toInt
def iShl (a b : Int) : Int := (Int32.ofInt a <<< (Int32.ofInt b &&& 31)).toInt
def iShr (a b : Int) : Int := (Int32.ofInt a >>> (Int32.ofInt b &&& 31)).toInt
def iUsh (a b : Int) : Int := ((Int32.ofInt a).toUInt32 >>> ((Int32.ofInt b).toUInt32 &&& Int32.toUInt32 31)).toInt32.toInt
def lAnd (a b : Int) : Int := (Int64.ofInt a &&& Int64.ofInt b).toInt
def lOr (a b : Int) : Int := (Int64.ofInt a ||| Int64.ofInt b).toInt
def lShl (a b : Int) : Int := (Int64.ofInt a <<< ((Int32.ofInt b).toInt64 &&& 63)).toInt
def lCmp (a b : Int) : Int := (lg_cmp (Int64.ofInt a) (Int64.ofInt b)).toInt
def i2B (a : Int) : Int := ((Int32.ofInt a).toInt8.toInt32).toInt
def i2S (a : Int) : Int := ((Int32.ofInt a).toInt16.toInt32).toInt
def l2I (a : Int) : Int := a
def nx (k pc : Nat) (x : Int) (is : List zCE) (ls st : List zV) (σ : zM) (ins : Instr) : zR := match ins with
  | .iconst _ => zgo is ls (vI x :: st) σ
  | .bipush _ => zgo is ls (vI x :: st) σ
  | .sipush _ => zgo is ls (vI x :: st) σ
  | .ldc_w _ => zgo is ls (vI x :: st) σ
  | .lconst _ => zgo is ls (vL x :: st) σ
  | .ldc2_w _ => zgo is ls (vL x :: st) σ
  | .iload_n n => zld 0 n.val is ls st σ
  | .iload n => zld 0 n is ls st σ
  | .lload_n n => zld 1 n.val is ls st σ
  | .lload n => zld 1 n is ls st σ
  | .aload_n n => zld 2 n.val is ls st σ
  | .aload n => zld 2 n is ls st σ
  | .istore_n n => zst 0 n.val is ls st σ
  | .istore n => zst 0 n is ls st σ
  | .lstore_n n => zst 1 n.val is ls st σ
  | .lstore n => zst 1 n is ls st σ
  | .astore_n n => zst 2 n.val is ls st σ
  | .astore n => zst 2 n is ls st σ
  | .iinc n c => ziinc n c is ls st σ
  | .dup => zdup is ls st σ
  | .dup2 => zdup2 is ls st σ
  | .iadd => zbin 0 0 0 (fun a b => some (a + b)) is ls st σ
  | .isub => zbin 0 0 0 (fun a b => some (a - b)) is ls st σ
  | .imul => zbin 0 0 0 (fun a b => some (a * b)) is ls st σ
  | .idiv => zbin 0 0 0 iDiv is ls st σ
  | .irem => zbin 0 0 0 iRem is ls st σ
  | .iand => zbin 0 0 0 (fun a b => some (iAnd a b)) is ls st σ
  | .ior => zbin 0 0 0 (fun a b => some (iOr a b)) is ls st σ
  | .ishl => zbin 0 0 0 (fun a b => some (iShl a b)) is ls st σ
  | .ishr => zbin 0 0 0 (fun a b => some (iShr a b)) is ls st σ
  | .iushr => zbin 0 0 0 (fun a b => some (iUsh a b)) is ls st σ
  | .ladd => zbin 1 1 1 (fun a b => some (a + b)) is ls st σ
  | .lsub => zbin 1 1 1 (fun a b => some (a - b)) is ls st σ
  | .lmul => zbin 1 1 1 (fun a b => some (a * b)) is ls st σ
  | .ldiv => zbin 1 1 1 lDiv is ls st σ
  | .lrem => zbin 1 1 1 lRem is ls st σ
  | .land => zbin 1 1 1 (fun a b => some (lAnd a b)) is ls st σ
  | .lor => zbin 1 1 1 (fun a b => some (lOr a b)) is ls st σ
  | .lshl => zbin 1 0 1 (fun a b => some (lShl a b)) is ls st σ
  | .lcmp => zbin 1 1 0 (fun a b => some (lCmp a b)) is ls st σ
  | .ineg => zun 0 0 (fun a => -a) is ls st σ
  | .lneg => zun 1 1 (fun a => -a) is ls st σ
  | .i2l => zun 0 1 c32 is ls st σ
  | .l2i => zun 1 0 l2I is ls st σ
  | .i2b => zun 0 0 i2B is ls st σ
  | .i2s => zun 0 0 i2S is ls st σ
  | .goto _ => zgo (zjump k x) ls st σ
  | .ifCond c _ => zif k x c is ls st σ
  | .if_icmp c _ => zicmp k x c is ls st σ
  | .tableswitch d lo hi offs => ztab k pc d lo hi offs ls st σ
  | .lookupswitch d ps => zlook k pc d ps ls st σ
  | .getfield _ => zgf x is ls st σ
  | .putfield _ => zpf x is ls st σ
  | .iaload => zald k 0 is ls st σ
  | .laload => zald k 1 is ls st σ
  | .baload => zald k 2 is ls st σ
  | .aaload => zald k 3 is ls st σ
  | .iastore => zast 0 is ls st σ
  | .lastore => zast 1 is ls st σ
  | .bastore => zast 2 is ls st σ
  | .arraylength => zaln k is ls st σ
  | .invokevirtual _ => zinv x ls st σ
  | .invokestatic _ => if x = 9999 then zcpy is ls st σ else zinv x ls st σ
  | .ireturn => zireturn x st σ
  | .lreturn => zlreturn st σ
  | .return_ => zvreturn st σ
  | _ => zstuck
def ex : Nat → Nat → List zCE → List zV → List zV → zM → zO
  | 0, _, _, _, _, _ => none
  | _ + 1, _, [], _, _, _ => none
  | f + 1, k, (pc, _, x, ins) :: is, ls, st, σ => match nx k pc x is ls st σ ins with
    | .inl r => r
    | .inr (.inl (is', ls', st', σ')) => ex f k is' ls' st' σ'
    | .inr (.inr (k', args, st')) => match ex f k' (zcode k') (zloc k' args) [] σ with
      | none => none
      | some (r, σ1) => ex f k is ls (r.toList ++ st') σ1
end
section
def zokE (own : Nat) (lv : Nat) (ret : Option FieldType) (e : zCE) : Bool := match e with
  | (pc, len, x, ins) => match ins with
    | .iconst n => len == 1 && decide (Int32.ofInt n = Int32.ofInt x)
    | .bipush n => len == 2 && decide ((Int8.ofInt n).toInt32 = Int32.ofInt x)
    | .sipush n => len == 3 && decide ((Int16.ofInt n).toInt32 = Int32.ofInt x)
    | .lconst n => len == 1 && decide (Int64.ofNat (n : Nat) = Int64.ofInt x)
    | .ldc_w i => len == 3 && zCST.any (fun q => q.1 == own && q.2.1 == i && q.2.2.1 == 32 && q.2.2.2.1 == x)
    | .ldc2_w i => len == 3 && zCST.any (fun q => q.1 == own && q.2.1 == i && q.2.2.1 == 64 && q.2.2.2.1 == x)
    | .iload _ => len == 2
    | .lload _ => len == 2
    | .aload _ => len == 2
    | .istore _ => len == 2
    | .lstore _ => len == 2
    | .astore _ => len == 2
    | .iinc _ _ => len == 3
    | .goto off => len == 3 && decide ((pc : Int) + off = x) && decide (0 ≤ x)
    | .ifCond _ off => len == 3 && decide ((pc : Int) + off = x) && decide (0 ≤ x)
    | .if_icmp _ off => len == 3 && decide ((pc : Int) + off = x) && decide (0 ≤ x)
    | .tableswitch _ _ _ _ => true
    | .lookupswitch _ ps => (ps.toList.zip (ps.toList.drop 1)).all (fun (a, next) => a.1 < next.1)
    | .getfield i => len == 3 && decide (0 ≤ x) && zFLD.any (fun q => q.1 == own && q.2.1 == i && q.2.2.1 == x.toNat)
    | .putfield i => len == 3 && decide (0 ≤ x) && zFLD.any (fun q => q.1 == own && q.2.1 == i && q.2.2.1 == x.toNat)
    | .invokevirtual i => len == 3 && decide (0 ≤ x) && decide (zlvl x.toNat < lv) && zCALL.any (fun q => q.1 == own && q.2.1 == i && q.2.2.1 == 0 && q.2.2.2.1 == x.toNat)
    | .invokestatic i => len == 3 && decide (0 ≤ x) && (if x = 9999 then decide (1 ≤ lv) && zCALL.any (fun q => q.1 == own && q.2.1 == i && q.2.2.1 == 3) else decide (zlvl x.toNat < lv) && zCALL.any (fun q => q.1 == own && q.2.1 == i && (q.2.2.1 == 1 || q.2.2.1 == 2) && q.2.2.2.1 == x.toNat))
    | .ireturn => len == 1 && (match ret with
      | some .int => x == 0
      | some .boolean => x == 1
      | _ => false)
    | .lreturn => len == 1 && decide (ret = some .long)
    | .return_ => len == 1 && decide (ret = none)
    | _ => len == 1
def zokD (b : ByteArray) (own lv : Nat) (ret : Option FieldType) (e : zCE) : Bool := decide (decode b e.1 = .ok (e.2.2.2, e.2.1)) && zokE own lv ret e
def zchain : List zCE → Bool
  | [] => true
  | e :: r => (match r with
    | [] => true
    | e2 :: _ => e2.1 == e.1 + e.2.1) && zchain r
def zokM (r : zMTr) : Bool := r.2.2.2.2.2.2.2.2.2.all (zokD r.2.1 r.2.2.2.2.1 r.2.2.2.2.2.2.1 r.2.2.2.1) && zchain r.2.2.2.2.2.2.2.2.2
end
section
def zcn (c : Nat) : String := zCNL.getD c ""
def zcl (c : Nat) : vw_C := vwCl.getD c ("", TX0, 0)
def zfw (q : Nat × Nat × Nat × Nat) : Jvm.Cond := .fieldLink (zcn q.1) q.2.1 (zcl (q.2.2.1 / 32)).1 ((zcl (q.2.2.1 / 32)).2.1 (q.2.2.1 % 32)).2.1 ((zcl (q.2.2.1 / 32)).2.1 (q.2.2.1 % 32)).2.2.1
def zfwok (q : Nat × Nat × Nat × Nat) : Bool := decide (lw_tbl[q.2.2.2]? = some (zfw q)) && decide (q.2.2.1 / 32 < 8) && decide (q.2.2.1 % 32 < (zcl (q.2.2.1 / 32)).2.2)
set_option maxRecDepth 100000 in
set_option maxHeartbeats 4000000 in
theorem zFLD_ok : zFLD.all zfwok = true := by decide +kernel
def zcw (q : Nat × Nat × Nat × Int × Nat) : Jvm.Cond := if q.2.2.1 = 32 then .constant (zcn q.1) q.2.1 (Int32.ofInt q.2.2.2.1) else .constantLong (zcn q.1) q.2.1 (Int64.ofInt q.2.2.2.1)
def zcwok (q : Nat × Nat × Nat × Int × Nat) : Bool := decide (lw_tbl[q.2.2.2.2]? = some (zcw q))
set_option maxRecDepth 100000 in
set_option maxHeartbeats 4000000 in
theorem zCST_ok : zCST.all zcwok = true := by decide +kernel
def zkw (q : Nat × Nat × Nat × Nat × Nat × Nat × Nat × Nat) : List Jvm.Cond :=
  match q.2.2.1 with
  | 0 => [.methodLink (zcn q.1) q.2.1 (zname q.2.2.2.1), .instanceMethod (zname q.2.2.2.1), .selects (zname q.2.2.2.1).cls (zname q.2.2.2.1) (zname q.2.2.2.1), .initialized (zname q.2.2.2.1).cls]
  | 1 => [.methodLink (zcn q.1) q.2.1 (zname q.2.2.2.1), .static (zname q.2.2.2.1), .initialized (zname q.2.2.2.1).cls, .initialized (zname q.2.2.2.1).cls]
  | 2 => [.methodLinkNest (zcn q.1) q.2.1 (zname q.2.2.2.1) "PointShares", .static (zname q.2.2.2.1), .initialized (zname q.2.2.2.1).cls, .initialized (zname q.2.2.2.1).cls]
  | _ => [.methodLink (zcn q.1) q.2.1 arraycopyName, .native arraycopyName, .static arraycopyName, .initialized "java/lang/System"]
def zkwok (q : Nat × Nat × Nat × Nat × Nat × Nat × Nat × Nat) : Bool := decide ([lw_tbl[q.2.2.2.2.1]?, lw_tbl[q.2.2.2.2.2.1]?, lw_tbl[q.2.2.2.2.2.2.1]?, lw_tbl[q.2.2.2.2.2.2.2]?] = (zkw q).map some) && (q.2.2.1 == 3 || (zstat q.2.2.2.1 == !(q.2.2.1 == 0) && decide (q.2.2.2.1 < zNM) && !(q.2.2.2.1 == zLAW)))
set_option maxRecDepth 100000 in
set_option maxHeartbeats 4000000 in
theorem zCALL_ok : zCALL.all zkwok = true := by decide +kernel
def zlayok (c : Nat) : Bool := decide (((zLAYI.getD c []).map fun i => lw_tbl[i]?) = (u_ws (zcl c).1 (zcl c).2.1 (zcl c).2.2).map some)
set_option maxRecDepth 100000 in
set_option maxHeartbeats 4000000 in
theorem zlay_ok : (List.range 8).all zlayok = true := by decide +kernel
def zmtok (r : zMTr) : Bool := plainName r.1.cls && decide (r.1.cls ≠ "java/lang/invoke/MethodHandle") && decide (r.1.cls ≠ "java/lang/invoke/VarHandle") && decide ((parseMethodDescriptor r.1.desc).map (fun d => d.parameters.length) = some (if r.2.2.2.2.2.1 then r.2.2.2.2.2.2.2.1 else r.2.2.2.2.2.2.2.1 - 1)) && decide (r.2.2.1 ≤ 21) && decide (r.1.cls = zcn r.2.2.2.2.1) && (r.2.2.2.2.2.1 || decide (1 ≤ r.2.2.2.2.2.2.2.1))
set_option maxRecDepth 100000 in
set_option maxHeartbeats 4000000 in
theorem zmt_ok1 : zMT.all zmtok = true := by decide +kernel
def zcodeP (r : zMTr) : Prop := lw_tbl[r.2.2.2.2.2.2.2.2.1]? = some (.code r.1 r.2.1 r.2.2.1 r.2.2.2.1)
set_option maxRecDepth 100000 in
set_option maxHeartbeats 4000000 in
theorem zcodeP_0 : ∀ r ∈ zMT_0, zcodeP r := List.forall_mem_cons.mpr ⟨rfl, List.forall_mem_cons.mpr ⟨rfl, List.forall_mem_cons.mpr ⟨rfl, List.forall_mem_cons.mpr ⟨rfl, List.forall_mem_cons.mpr ⟨rfl, List.forall_mem_cons.mpr ⟨rfl, List.forall_mem_cons.mpr ⟨rfl, List.forall_mem_cons.mpr ⟨rfl, List.forall_mem_cons.mpr ⟨rfl, List.forall_mem_cons.mpr ⟨rfl, List.forall_mem_cons.mpr ⟨rfl, List.forall_mem_cons.mpr ⟨rfl, List.forall_mem_cons.mpr ⟨rfl, List.forall_mem_cons.mpr ⟨rfl, List.forall_mem_cons.mpr ⟨rfl, List.forall_mem_cons.mpr ⟨rfl, List.forall_mem_cons.mpr ⟨rfl, List.forall_mem_cons.mpr ⟨rfl, List.forall_mem_cons.mpr ⟨rfl, List.forall_mem_cons.mpr ⟨rfl, (fun _ h => absurd h List.not_mem_nil)⟩⟩⟩⟩⟩⟩⟩⟩⟩⟩⟩⟩⟩⟩⟩⟩⟩⟩⟩⟩
set_option maxRecDepth 100000 in
set_option maxHeartbeats 4000000 in
theorem zcodeP_1 : ∀ r ∈ zMT_1, zcodeP r := List.forall_mem_cons.mpr ⟨rfl, List.forall_mem_cons.mpr ⟨rfl, List.forall_mem_cons.mpr ⟨rfl, List.forall_mem_cons.mpr ⟨rfl, List.forall_mem_cons.mpr ⟨rfl, List.forall_mem_cons.mpr ⟨rfl, List.forall_mem_cons.mpr ⟨rfl, List.forall_mem_cons.mpr ⟨rfl, List.forall_mem_cons.mpr ⟨rfl, List.forall_mem_cons.mpr ⟨rfl, List.forall_mem_cons.mpr ⟨rfl, List.forall_mem_cons.mpr ⟨rfl, List.forall_mem_cons.mpr ⟨rfl, List.forall_mem_cons.mpr ⟨rfl, List.forall_mem_cons.mpr ⟨rfl, List.forall_mem_cons.mpr ⟨rfl, List.forall_mem_cons.mpr ⟨rfl, List.forall_mem_cons.mpr ⟨rfl, List.forall_mem_cons.mpr ⟨rfl, List.forall_mem_cons.mpr ⟨rfl, (fun _ h => absurd h List.not_mem_nil)⟩⟩⟩⟩⟩⟩⟩⟩⟩⟩⟩⟩⟩⟩⟩⟩⟩⟩⟩⟩
set_option maxRecDepth 100000 in
set_option maxHeartbeats 4000000 in
theorem zcodeP_2 : ∀ r ∈ zMT_2, zcodeP r := List.forall_mem_cons.mpr ⟨rfl, List.forall_mem_cons.mpr ⟨rfl, List.forall_mem_cons.mpr ⟨rfl, List.forall_mem_cons.mpr ⟨rfl, List.forall_mem_cons.mpr ⟨rfl, List.forall_mem_cons.mpr ⟨rfl, List.forall_mem_cons.mpr ⟨rfl, List.forall_mem_cons.mpr ⟨rfl, List.forall_mem_cons.mpr ⟨rfl, List.forall_mem_cons.mpr ⟨rfl, List.forall_mem_cons.mpr ⟨rfl, List.forall_mem_cons.mpr ⟨rfl, List.forall_mem_cons.mpr ⟨rfl, List.forall_mem_cons.mpr ⟨rfl, List.forall_mem_cons.mpr ⟨rfl, List.forall_mem_cons.mpr ⟨rfl, List.forall_mem_cons.mpr ⟨rfl, List.forall_mem_cons.mpr ⟨rfl, List.forall_mem_cons.mpr ⟨rfl, List.forall_mem_cons.mpr ⟨rfl, (fun _ h => absurd h List.not_mem_nil)⟩⟩⟩⟩⟩⟩⟩⟩⟩⟩⟩⟩⟩⟩⟩⟩⟩⟩⟩⟩
set_option maxRecDepth 100000 in
set_option maxHeartbeats 4000000 in
theorem zcodeP_3 : ∀ r ∈ zMT_3, zcodeP r := List.forall_mem_cons.mpr ⟨rfl, List.forall_mem_cons.mpr ⟨rfl, List.forall_mem_cons.mpr ⟨rfl, List.forall_mem_cons.mpr ⟨rfl, List.forall_mem_cons.mpr ⟨rfl, List.forall_mem_cons.mpr ⟨rfl, List.forall_mem_cons.mpr ⟨rfl, List.forall_mem_cons.mpr ⟨rfl, List.forall_mem_cons.mpr ⟨rfl, List.forall_mem_cons.mpr ⟨rfl, List.forall_mem_cons.mpr ⟨rfl, List.forall_mem_cons.mpr ⟨rfl, List.forall_mem_cons.mpr ⟨rfl, List.forall_mem_cons.mpr ⟨rfl, List.forall_mem_cons.mpr ⟨rfl, List.forall_mem_cons.mpr ⟨rfl, List.forall_mem_cons.mpr ⟨rfl, List.forall_mem_cons.mpr ⟨rfl, List.forall_mem_cons.mpr ⟨rfl, List.forall_mem_cons.mpr ⟨rfl, (fun _ h => absurd h List.not_mem_nil)⟩⟩⟩⟩⟩⟩⟩⟩⟩⟩⟩⟩⟩⟩⟩⟩⟩⟩⟩⟩
set_option maxRecDepth 100000 in
set_option maxHeartbeats 4000000 in
theorem zcodeP_4 : ∀ r ∈ zMT_4, zcodeP r := List.forall_mem_cons.mpr ⟨rfl, List.forall_mem_cons.mpr ⟨rfl, List.forall_mem_cons.mpr ⟨rfl, List.forall_mem_cons.mpr ⟨rfl, List.forall_mem_cons.mpr ⟨rfl, List.forall_mem_cons.mpr ⟨rfl, List.forall_mem_cons.mpr ⟨rfl, List.forall_mem_cons.mpr ⟨rfl, List.forall_mem_cons.mpr ⟨rfl, List.forall_mem_cons.mpr ⟨rfl, List.forall_mem_cons.mpr ⟨rfl, List.forall_mem_cons.mpr ⟨rfl, List.forall_mem_cons.mpr ⟨rfl, List.forall_mem_cons.mpr ⟨rfl, List.forall_mem_cons.mpr ⟨rfl, List.forall_mem_cons.mpr ⟨rfl, List.forall_mem_cons.mpr ⟨rfl, List.forall_mem_cons.mpr ⟨rfl, List.forall_mem_cons.mpr ⟨rfl, List.forall_mem_cons.mpr ⟨rfl, (fun _ h => absurd h List.not_mem_nil)⟩⟩⟩⟩⟩⟩⟩⟩⟩⟩⟩⟩⟩⟩⟩⟩⟩⟩⟩⟩
set_option maxRecDepth 100000 in
set_option maxHeartbeats 4000000 in
theorem zcodeP_5 : ∀ r ∈ zMT_5, zcodeP r := List.forall_mem_cons.mpr ⟨rfl, List.forall_mem_cons.mpr ⟨rfl, List.forall_mem_cons.mpr ⟨rfl, List.forall_mem_cons.mpr ⟨rfl, List.forall_mem_cons.mpr ⟨rfl, List.forall_mem_cons.mpr ⟨rfl, List.forall_mem_cons.mpr ⟨rfl, List.forall_mem_cons.mpr ⟨rfl, List.forall_mem_cons.mpr ⟨rfl, List.forall_mem_cons.mpr ⟨rfl, List.forall_mem_cons.mpr ⟨rfl, List.forall_mem_cons.mpr ⟨rfl, List.forall_mem_cons.mpr ⟨rfl, List.forall_mem_cons.mpr ⟨rfl, List.forall_mem_cons.mpr ⟨rfl, List.forall_mem_cons.mpr ⟨rfl, List.forall_mem_cons.mpr ⟨rfl, List.forall_mem_cons.mpr ⟨rfl, List.forall_mem_cons.mpr ⟨rfl, List.forall_mem_cons.mpr ⟨rfl, (fun _ h => absurd h List.not_mem_nil)⟩⟩⟩⟩⟩⟩⟩⟩⟩⟩⟩⟩⟩⟩⟩⟩⟩⟩⟩⟩
set_option maxRecDepth 100000 in
set_option maxHeartbeats 4000000 in
theorem zcodeP_6 : ∀ r ∈ zMT_6, zcodeP r := List.forall_mem_cons.mpr ⟨rfl, List.forall_mem_cons.mpr ⟨rfl, List.forall_mem_cons.mpr ⟨rfl, List.forall_mem_cons.mpr ⟨rfl, List.forall_mem_cons.mpr ⟨rfl, List.forall_mem_cons.mpr ⟨rfl, List.forall_mem_cons.mpr ⟨rfl, List.forall_mem_cons.mpr ⟨rfl, List.forall_mem_cons.mpr ⟨rfl, List.forall_mem_cons.mpr ⟨rfl, List.forall_mem_cons.mpr ⟨rfl, List.forall_mem_cons.mpr ⟨rfl, List.forall_mem_cons.mpr ⟨rfl, List.forall_mem_cons.mpr ⟨rfl, List.forall_mem_cons.mpr ⟨rfl, List.forall_mem_cons.mpr ⟨rfl, List.forall_mem_cons.mpr ⟨rfl, List.forall_mem_cons.mpr ⟨rfl, List.forall_mem_cons.mpr ⟨rfl, List.forall_mem_cons.mpr ⟨rfl, (fun _ h => absurd h List.not_mem_nil)⟩⟩⟩⟩⟩⟩⟩⟩⟩⟩⟩⟩⟩⟩⟩⟩⟩⟩⟩⟩
set_option maxRecDepth 100000 in
set_option maxHeartbeats 4000000 in
theorem zcodeP_7 : ∀ r ∈ zMT_7, zcodeP r := List.forall_mem_cons.mpr ⟨rfl, List.forall_mem_cons.mpr ⟨rfl, List.forall_mem_cons.mpr ⟨rfl, List.forall_mem_cons.mpr ⟨rfl, List.forall_mem_cons.mpr ⟨rfl, List.forall_mem_cons.mpr ⟨rfl, List.forall_mem_cons.mpr ⟨rfl, List.forall_mem_cons.mpr ⟨rfl, List.forall_mem_cons.mpr ⟨rfl, List.forall_mem_cons.mpr ⟨rfl, List.forall_mem_cons.mpr ⟨rfl, List.forall_mem_cons.mpr ⟨rfl, List.forall_mem_cons.mpr ⟨rfl, List.forall_mem_cons.mpr ⟨rfl, List.forall_mem_cons.mpr ⟨rfl, List.forall_mem_cons.mpr ⟨rfl, List.forall_mem_cons.mpr ⟨rfl, List.forall_mem_cons.mpr ⟨rfl, List.forall_mem_cons.mpr ⟨rfl, List.forall_mem_cons.mpr ⟨rfl, (fun _ h => absurd h List.not_mem_nil)⟩⟩⟩⟩⟩⟩⟩⟩⟩⟩⟩⟩⟩⟩⟩⟩⟩⟩⟩⟩
set_option maxRecDepth 100000 in
set_option maxHeartbeats 4000000 in
theorem zcodeP_8 : ∀ r ∈ zMT_8, zcodeP r := List.forall_mem_cons.mpr ⟨rfl, List.forall_mem_cons.mpr ⟨rfl, List.forall_mem_cons.mpr ⟨rfl, List.forall_mem_cons.mpr ⟨rfl, List.forall_mem_cons.mpr ⟨rfl, List.forall_mem_cons.mpr ⟨rfl, List.forall_mem_cons.mpr ⟨rfl, List.forall_mem_cons.mpr ⟨rfl, List.forall_mem_cons.mpr ⟨rfl, List.forall_mem_cons.mpr ⟨rfl, List.forall_mem_cons.mpr ⟨rfl, List.forall_mem_cons.mpr ⟨rfl, List.forall_mem_cons.mpr ⟨rfl, List.forall_mem_cons.mpr ⟨rfl, List.forall_mem_cons.mpr ⟨rfl, List.forall_mem_cons.mpr ⟨rfl, List.forall_mem_cons.mpr ⟨rfl, List.forall_mem_cons.mpr ⟨rfl, List.forall_mem_cons.mpr ⟨rfl, List.forall_mem_cons.mpr ⟨rfl, (fun _ h => absurd h List.not_mem_nil)⟩⟩⟩⟩⟩⟩⟩⟩⟩⟩⟩⟩⟩⟩⟩⟩⟩⟩⟩⟩
set_option maxRecDepth 100000 in
set_option maxHeartbeats 4000000 in
theorem zcodeP_9 : ∀ r ∈ zMT_9.take 13, zcodeP r := List.forall_mem_cons.mpr ⟨rfl, List.forall_mem_cons.mpr ⟨rfl, List.forall_mem_cons.mpr ⟨rfl, List.forall_mem_cons.mpr ⟨rfl, List.forall_mem_cons.mpr ⟨rfl, List.forall_mem_cons.mpr ⟨rfl, List.forall_mem_cons.mpr ⟨rfl, List.forall_mem_cons.mpr ⟨rfl, List.forall_mem_cons.mpr ⟨rfl, List.forall_mem_cons.mpr ⟨rfl, List.forall_mem_cons.mpr ⟨rfl, List.forall_mem_cons.mpr ⟨rfl, List.forall_mem_cons.mpr ⟨rfl, (fun _ h => absurd h List.not_mem_nil)⟩⟩⟩⟩⟩⟩⟩⟩⟩⟩⟩⟩⟩
theorem zmt_len : zMT.length = zNM := by decide +kernel
def zW : List Jvm.Cond := lw_tbl.filter goodWord
end
section
def zenc (ad : Nat → Nat) (v : zV) : Value := match v.1 with
  | 0 => .int (Int32.ofInt v.2)
  | 1 => .long (Int64.ofInt v.2)
  | _ => .ref (ad v.2.toNat)
def zasc (ad : Nat → Nat) : Nat → List zV → List (Nat × Value)
  | _, [] => []
  | i, a :: t => if a.1 ≤ 2 then (i, zenc ad a) :: zasc ad (i + 1) t else zasc ad (i + 1) t
theorem zasc_mem {ad : Nat → Nat} {q : Nat × Value} : ∀ (ls : List zV) (i : Nat), q ∈ zasc ad i ls ↔ ∃ (j : Nat) (v : zV), ls[j]? = some v ∧ v.1 ≤ 2 ∧ q = (i + j, zenc ad v)
  | [], i => by simp [zasc]
  | a :: t, i => by
    unfold zasc
    constructor
    · intro h
      by_cases h2 : a.1 ≤ 2
      · rw [if_pos h2] at h
        rcases List.mem_cons.mp h with h | h
        · exact ⟨0, a, rfl, h2, h⟩
        · obtain ⟨j, v, h3, h4, h5⟩ := (zasc_mem t (i + 1)).mp h
          exact ⟨j + 1, v, by simpa using h3, h4, by rw [h5]; congr 1; omega⟩
      · rw [if_neg h2] at h
        obtain ⟨j, v, h3, h4, h5⟩ := (zasc_mem t (i + 1)).mp h
        exact ⟨j + 1, v, by simpa using h3, h4, by rw [h5]; congr 1; omega⟩
    · rintro ⟨j, v, h3, h4, h5⟩
      cases j with
      | zero =>
        have : a = v := by simpa using h3
        subst this
        rw [if_pos h4, h5]
        exact List.mem_cons_self
      | succ j =>
        have hm : q ∈ zasc ad (i + 1) t := (zasc_mem t (i + 1)).mpr ⟨j, v, by simpa using h3, h4, by rw [h5]; congr 1; omega⟩
        by_cases h2 : a.1 ≤ 2
        · rw [if_pos h2]; exact List.mem_cons_of_mem _ hm
        · rw [if_neg h2]; exact hm
theorem zput_len : ∀ (ls : List zV) (n : Nat) (v : zV), (zput ls n v).length = ls.length
  | [], n, v => by simp [zput]
  | a :: ls, 0, v => by
    simp only [zput]
    by_cases h : v.1 = 1
    · rw [if_pos h]; cases ls <;> simp [zkill]
    · rw [if_neg h]; simp
  | a :: ls, 1, v => by simp [zput, zput_len ls 0 v]
  | a :: ls, n + 2, v => by simp [zput, zput_len ls (n + 1) v]
theorem zkill_get (ls : List zV) (j : Nat) (w : zV) (h : (zkill ls)[j]? = some w) (hw : w.1 ≤ 2) : j ≠ 0 ∧ ls[j]? = some w := by
  cases ls with
  | nil => simp [zkill] at h
  | cons a t =>
    cases j with
    | zero => simp [zkill] at h; subst h; simp at hw
    | succ j => exact ⟨by omega, by simpa [zkill] using h⟩
/-- what stands in the list behind a store -/
theorem zput_get : ∀ (ls : List zV) (n : Nat) (v : zV) (j : Nat) (w : zV), (zput ls n v)[j]? = some w → w.1 ≤ 2 → (j = n ∧ w = v) ∨ (j ≠ n ∧ ls[j]? = some w ∧ ¬ (j + 1 = n ∧ w.1 = 1) ∧ ¬ (v.1 = 1 ∧ j = n + 1))
  | [], n, v, j, w, h, hw => by simp [zput] at h
  | a :: ls, 0, v, j, w, h, hw => by
    simp only [zput] at h
    cases j with
    | zero => left; simp at h; exact ⟨rfl, h.symm⟩
    | succ j =>
      right
      simp only [List.getElem?_cons_succ] at h ⊢
      by_cases hv : v.1 = 1
      · rw [if_pos hv] at h
        obtain ⟨h1, h2⟩ := zkill_get ls j w h hw
        exact ⟨by omega, h2, by omega, by omega⟩
      · rw [if_neg hv] at h
        exact ⟨by omega, h, by omega, fun q => hv q.1⟩
  | a :: ls, 1, v, j, w, h, hw => by
    simp only [zput] at h
    cases j with
    | zero =>
      right
      simp only [List.getElem?_cons_zero, Option.some.injEq] at h ⊢
      by_cases ha : a.1 = 1
      · rw [if_pos ha] at h; subst h; simp at hw
      · rw [if_neg ha] at h; subst h
        exact ⟨by omega, rfl, fun q => ha q.2, by omega⟩
    | succ j =>
      simp only [List.getElem?_cons_succ] at h ⊢
      rcases zput_get ls 0 v j w h hw with ⟨h1, h2⟩ | ⟨h1, h2, h3, h4⟩
      · left; exact ⟨by omega, h2⟩
      · right; exact ⟨by omega, h2, by omega, by omega⟩
  | a :: ls, n + 2, v, j, w, h, hw => by
    simp only [zput] at h
    cases j with
    | zero =>
      right
      simp only [List.getElem?_cons_zero] at h ⊢
      exact ⟨by omega, h, by omega, by omega⟩
    | succ j =>
      simp only [List.getElem?_cons_succ] at h ⊢
      rcases zput_get ls (n + 1) v j w h hw with ⟨h1, h2⟩ | ⟨h1, h2, h3, h4⟩
      · left; exact ⟨by omega, h2⟩
      · right; exact ⟨by omega, h2, by omega, by omega⟩
theorem lv_mono {ls : Array Slot} {nL : Nat} {l l' : List (Nat × Value)} (h : lv_has ls nL l) (hm : ∀ q ∈ l', q ∈ l) : lv_has ls nL l' := ⟨h.1, h.2.1, fun q hq => h.2.2 q (hm q hq)⟩
theorem zenc_cat {ad : Nat → Nat} {v : zV} (h : v.1 ≠ 1) : (zenc ad v).category = 1 := by
  unfold zenc
  split
  · rfl
  · contradiction
  · rfl
theorem zenc_cat2 {ad : Nat → Nat} {v : zV} : (zenc ad v).category = 2 → v.1 = 1 := by
  intro h
  by_cases h1 : v.1 = 1
  · exact h1
  · rw [zenc_cat h1] at h; cases h
theorem zenc_long {ad : Nat → Nat} {v : zV} (h : v.1 = 1) : (zenc ad v).category = 2 := by
  obtain ⟨t, x⟩ := v
  cases h
  rfl
theorem zst1 {ad : Nat → Nat} {M : Array Slot} {nL : Nat} {ls : List zV} {i : Nat} {v : zV} (hv : v.1 ≠ 1) (h : lv_has M nL ((i, zenc ad v) :: (zasc ad 0 ls).filter (fun q => !(q.1 == i) && !(q.1 + 1 == i && q.2.category == 2)))) : lv_has M nL (zasc ad 0 (zput ls i v)) := by
  refine lv_mono h fun q hq => ?_
  obtain ⟨j, w, h1, h2, rfl⟩ := (zasc_mem _ _).mp hq
  rw [Nat.zero_add]
  rcases zput_get ls i v j w h1 h2 with ⟨rfl, rfl⟩ | ⟨h3, h4, h5, h6⟩
  · exact List.mem_cons_self
  · refine List.mem_cons_of_mem _ (List.mem_filter.mpr ⟨(zasc_mem _ _).mpr ⟨j, w, h4, h2, by rw [Nat.zero_add]⟩, ?_⟩)
    simp only [Bool.and_eq_true, Bool.not_eq_true', beq_eq_false_iff_ne, ne_eq, Bool.and_eq_false_iff]
    refine ⟨h3, ?_⟩
    by_cases h7 : j + 1 = i
    · right; exact fun h8 => h5 ⟨h7, zenc_cat2 h8⟩
    · left; exact h7
theorem zst2 {ad : Nat → Nat} {M : Array Slot} {nL : Nat} {ls : List zV} {i : Nat} {v : zV} (hv : v.1 = 1) (h : lv_has M nL ((i, zenc ad v) :: (zasc ad 0 ls).filter (fun q => !(q.1 == i) && (!(q.1 == i + 1) && !(q.1 + 1 == i && q.2.category == 2))))) : lv_has M nL (zasc ad 0 (zput ls i v)) := by
  refine lv_mono h fun q hq => ?_
  obtain ⟨j, w, h1, h2, rfl⟩ := (zasc_mem _ _).mp hq
  rw [Nat.zero_add]
  rcases zput_get ls i v j w h1 h2 with ⟨rfl, rfl⟩ | ⟨h3, h4, h5, h6⟩
  · exact List.mem_cons_self
  · refine List.mem_cons_of_mem _ (List.mem_filter.mpr ⟨(zasc_mem _ _).mpr ⟨j, w, h4, h2, by rw [Nat.zero_add]⟩, ?_⟩)
    simp only [Bool.and_eq_true, Bool.not_eq_true', beq_eq_false_iff_ne, ne_eq, Bool.and_eq_false_iff]
    refine ⟨h3, fun h7 => h6 ⟨hv, h7⟩, ?_⟩
    by_cases h7 : j + 1 = i
    · right; exact fun h8 => h5 ⟨h7, zenc_cat2 h8⟩
    · left; exact h7
theorem zlv_get {ad : Nat → Nat} {M : Array Slot} {nL : Nat} {ls : List zV} (h : lv_has M nL (zasc ad 0 ls)) {i : Nat} {v : zV} (hi : ls[i]? = some v) (hv : v.1 ≤ 2) : M[i]? = some (.val (zenc ad v)) :=
  h.2.2 (i, zenc ad v) ((zasc_mem _ _).mpr ⟨i, v, hi, hv, by rw [Nat.zero_add]⟩)
/-! the cells of a memory -/
def zfv (ad : Nat → Nat) (row : Int → Int) (c ci j : Nat) : Value := match zfk ci j with
  | 0 => .int (Int32.ofInt (row j))
  | 1 => .int (Int32.ofInt (row j))
  | 2 => .long (Int64.ofInt (row j))
  | 3 => .ref (ad (zrf c j))
  | _ => if 0 ≤ row j then .ref (ad (row j).toNat) else .null
def zentT (ad : Nat → Nat) (ca : Nat → ClassId) (row : Int → Int) (c t n : Nat) : va_E := match t with
  | 0 => .inl (ca 0, n, .inl fun j => Int32.ofInt (row j))
  | 1 => .inl (ca 1, n, .inr (.inl fun j => Int64.ofInt (row j)))
  | 2 => .inl (ca 2, n, .inl fun j => (Int32.ofInt (row j)).toInt8.toInt32)
  | 3 => .inl (ca 3, n, .inl fun j => Int32.ofInt (row j) &&& 1)
  | 4 => .inl (ca 4, n, .inr (.inr (.inr (.inr fun j => some (ad (zra c j))))))
  | 5 => .inl (ca 5, n, .inr (.inr (.inr (.inr fun j => some (ad (zra c j))))))
  | t + 6 => .inr (t - 4, (List.range n).map (zfv ad row c (t - 4)))
def zent (ad : Nat → Nat) (ca : Nat → ClassId) (row : Int → Int) (c : Nat) : va_E := zentT ad ca row c (zSHP.getD c (99, 0)).1 (zSHP.getD c (99, 0)).2
def zWS (ad : Nat → Nat) (ca : Nat → ClassId) (σ : zM) : va_W := (List.range 72).map fun c : Nat => (ad c, zent ad ca (σ c) c)
theorem zWS_get (ad : Nat → Nat) (ca : Nat → ClassId) (σ : zM) {c : Nat} (h : c < 72) : (zWS ad ca σ)[c]? = some (ad c, zent ad ca (σ c) c) := by
  simp [zWS, h]
theorem zWS_set (ad : Nat → Nat) (ca : Nat → ClassId) (σ σ' : zM) {c : Nat} (h : c < 72) (ho : ∀ q : Nat, q ≠ c → σ' q = σ q) : (zWS ad ca σ).set c (ad c, zent ad ca (σ' c) c) = zWS ad ca σ' := by
  apply List.ext_getElem?
  intro i
  by_cases hi : i < 72
  · by_cases hc : c = i
    · subst hc
      rw [List.getElem?_set_self (by simp [zWS]; exact hi), zWS_get ad ca σ' hi]
    · rw [List.getElem?_set_ne hc, zWS_get ad ca σ hi, zWS_get ad ca σ' hi, ho i (fun q => hc q.symm)]
  · rw [List.getElem?_eq_none (by simp [zWS]; omega), List.getElem?_eq_none (by simp [zWS]; omega)]
theorem zshp_lt {c : Int} (h : (zshp c).1 ≠ 99) : ∃ n : Nat, c = n ∧ n < 72 ∧ zshp c = zSHP.getD n (99, 0) := by
  unfold zshp at h ⊢
  by_cases h0 : 0 ≤ c
  · rw [if_pos h0] at h ⊢
    refine ⟨c.toNat, by omega, ?_, rfl⟩
    by_cases h1 : c.toNat < 72
    · exact h1
    · rw [List.getD_eq_getElem?_getD, List.getElem?_eq_none (by simp [zSHP]; omega)] at h
      exact absurd rfl h
  · rw [if_neg h0] at h
    exact absurd rfl h
theorem zshp_nat (n : Nat) : zshp n = zSHP.getD n (99, 0) := by
  unfold zshp
  rw [if_pos (by omega), Int.toNat_natCast]
theorem zD_of {ad : Nat → Nat} {ca : Nat → ClassId} {A : Nat → Prop} {σ : zM} (hA : ∀ q, q < 72 → A (ad q)) (hi : ∀ i j, i < 72 → j < 72 → ad i = ad j → i = j) : va_D A (zWS ad ca σ) := by
  have key : ∀ (k : Nat) (q : Nat × va_E), (zWS ad ca σ)[k]? = some q → k < 72 ∧ q.1 = ad k := by
    intro k q hq
    have hk : k < 72 := by
      by_cases h : k < 72
      · exact h
      · rw [List.getElem?_eq_none (by simp [zWS]; omega)] at hq; cases hq
    rw [zWS_get ad ca σ hk] at hq
    cases hq
    exact ⟨hk, rfl⟩
  refine ⟨fun i j x y hx hy hxy => ?_, fun k q hq => ?_⟩
  · obtain ⟨h1, h2⟩ := key i x hx
    obtain ⟨h3, h4⟩ := key j y hy
    exact hi i j h1 h3 (by rw [← h2, ← h4, hxy])
  · obtain ⟨h1, h2⟩ := key k q hq
    rw [h2]; exact hA k h1
theorem z_c32 {x n : Int} (h : 0 ≤ c32 x) (h2 : c32 x < n) (hn : n < 2147483648) : ∃ j : Nat, c32 x = j ∧ (j : Int) < n ∧ (Int32.ofInt x).toNatClampNeg = j ∧ ¬ Int32.ofInt x < 0 := by
  refine ⟨(c32 x).toNat, by omega, by omega, rfl, ?_⟩
  rw [Int32.lt_iff_toInt_lt]
  exact Int.not_lt.mpr h
end
section
def zTys (ca : Nat → ClassId) : List (ClassId × FieldType) := [(ca 0, .int), (ca 1, .long), (ca 2, .byte), (ca 3, .boolean), (ca 4, .array .int), (ca 5, .object "PointShares$Tape")]
/-- the static methods of another class of the nest that are called -/
def zNest (s : State) : Prop := ∀ q ∈ zCALL, q.2.2.1 = 2 → va_Nw (.methodLinkNest (zcn q.1) q.2.1 (zname q.2.2.2.1) "PointShares") s
def zCx (ad : Nat → Nat) (D : va_G) (ca : Nat → ClassId) (A : Nat → Prop) (xr : Int → Int) (p : Program) (R : Room) (s : State) (m : MethodId) (args : Array Value) (c : Code) (k : Nat) : Prop :=
  p.tables.exec = Jvm.exec ∧ c.code = zbytes k ∧ c.maxLocals = zmaxl k ∧ s.vm.findClass (zcn (zown k)) = some m.cls ∧ (∀ w ∈ zW, w.before args s = true) ∧ zNest s ∧ va_K D vwCl (zTys ca) s ∧ (∀ q, q < 72 → A (ad q)) ∧ (∀ i j, i < 72 → j < 72 → ad i = ad j → i = j) ∧ zlvl k ≤ R.frames ∧ 40 * zlvl k ≤ R.locals ∧
  (k = zLAW → ∃ L : Nat, va_X (ad 72) L (fun j => Int32.ofInt (xr j)) s s.heap ∧ ad 72 < s.heap.size ∧ ¬ A (ad 72) ∧ xr (-1) = L ∧ L ≤ 3072)
def zpc (is : List zCE) : Nat := match is with
  | [] => 0
  | e :: _ => e.1
/-- from every heap that holds this memory, the machine comes to Q -/
def zWp (ad : Nat → Nat) (D : va_G) (ca : Nat → ClassId) (A : Nat → Prop) (xr : Int → Int) (p : Program) (l : Launch) (e : Env) (R : Room) (s : State) (m : MethodId) (args : Array Value) (below : List Frame) (meth : Method) (c : Code) (cells slots : Nat) (Q : State → Prop) (k : Nat) (pc : Nat) (ls st : List zV) (σ : zM) : Prop :=
  ∀ (H : Heap) (locs : List Loc) (M : Array Slot), σ 72 = xr → va_P D vwCl (zWS ad ca σ) H → va_S A s.heap H locs → lv_has M (zmaxl k) (zasc ad 0 ls) → W p l e R s m args below meth c H locs cells slots Q (F0 m pc M (st.map (zenc ad)))
section ZS
variable {ad : Nat → Nat} {D : va_G} {ca : Nat → ClassId} {A : Nat → Prop} {xr : Int → Int} {p : Program} {l : Launch} {e : Env} {R : Room} {s : State} {m : MethodId} {args : Array Value} {below : List Frame} {meth : Method} {c : Code} {cells slots : Nat} {Q : State → Prop} {k pc : Nat} {is is' : List zCE} {ls ls' st st' : List zV} {σ σ' : zM}
theorem zgo_inv {is0 : List zCE} {ls0 st0 : List zV} {σ0 : zM} (h : zgo is0 ls0 st0 σ0 = .inr (.inl (is', ls', st', σ'))) : is0 = is' ∧ ls0 = ls' ∧ st0 = st' ∧ σ0 = σ' := by
  unfold zgo at h
  simpa using h
theorem zs_const {dn : Nat} {v : zV} (hr : ∀ (H : Heap) (locs : List Loc) (M : Array Slot) (rest : List Value), W p l e R s m args below meth c H locs cells slots Q (F0 m (pc + dn) M (zenc ad v :: rest)) → W p l e R s m args below meth c H locs cells slots Q (F0 m pc M rest))
    (hpc : is = is' → zpc is' = pc + dn) (h : zgo is ls (v :: st) σ = .inr (.inl (is', ls', st', σ'))) (kk : zWp ad D ca A xr p l e R s m args below meth c cells slots Q k (zpc is') ls' st' σ') : zWp ad D ca A xr p l e R s m args below meth c cells slots Q k pc ls st σ := by
  obtain ⟨h3, rfl, rfl, rfl⟩ := zgo_inv h
  rw [hpc h3] at kk
  intro H locs M hx hP hS hl
  exact hr H locs M _ (kk H locs M hx hP hS hl)
theorem zs_ld {dn : Nat} {t n : Nat} (ht : t ≤ 2) (hr : ∀ (H : Heap) (locs : List Loc) (M : Array Slot) (rest : List Value) (v : zV), v.1 = t → M[n]? = some (.val (zenc ad v)) → W p l e R s m args below meth c H locs cells slots Q (F0 m (pc + dn) M (zenc ad v :: rest)) → W p l e R s m args below meth c H locs cells slots Q (F0 m pc M rest))
    (hpc : is = is' → zpc is' = pc + dn) (h : zld t n is ls st σ = .inr (.inl (is', ls', st', σ'))) (kk : zWp ad D ca A xr p l e R s m args below meth c cells slots Q k (zpc is') ls' st' σ') : zWp ad D ca A xr p l e R s m args below meth c cells slots Q k pc ls st σ := by
  unfold zld at h
  cases hv : ls[n]? with
  | none => rw [hv] at h; cases h
  | some v =>
    rw [hv] at h
    dsimp only at h
    by_cases h1 : v.1 = t
    · rw [if_pos h1] at h
      obtain ⟨h3, rfl, rfl, rfl⟩ := zgo_inv h
      rw [hpc h3] at kk
      intro H locs M hx hP hS hl
      exact hr H locs M _ v h1 (zlv_get hl hv (by omega)) (kk H locs M hx hP hS hl)
    · rw [if_neg h1] at h; cases h
theorem zs_st {dn : Nat} {t n : Nat} (hr : ∀ (H : Heap) (locs : List Loc) (M : Array Slot) (rest : List Value) (v : zV), v.1 = t → (if t = 1 then n + 1 else n) < zmaxl k → lv_has M (zmaxl k) (zasc ad 0 ls) → (∀ M' : Array Slot, lv_has M' (zmaxl k) (zasc ad 0 (zput ls n v)) → W p l e R s m args below meth c H locs cells slots Q (F0 m (pc + dn) M' rest)) → W p l e R s m args below meth c H locs cells slots Q (F0 m pc M (zenc ad v :: rest)))
    (hlen : ls.length = zmaxl k) (hpc : is = is' → zpc is' = pc + dn) (h : zst t n is ls st σ = .inr (.inl (is', ls', st', σ'))) (kk : zWp ad D ca A xr p l e R s m args below meth c cells slots Q k (zpc is') ls' st' σ') : zWp ad D ca A xr p l e R s m args below meth c cells slots Q k pc ls st σ := by
  unfold zst at h
  cases st with
  | nil => cases h
  | cons v st =>
    dsimp only at h
    by_cases h1 : v.1 = t ∧ (if t = 1 then n + 1 else n) < ls.length
    · rw [if_pos h1] at h
      obtain ⟨h3, rfl, rfl, rfl⟩ := zgo_inv h
      rw [hpc h3] at kk
      intro H locs M hx hP hS hl
      exact hr H locs M _ v h1.1 (by rw [← hlen]; exact h1.2) hl (fun M' hl' => kk H locs M' hx hP hS hl')
    · rw [if_neg h1] at h; cases h
theorem zs_bin {dn : Nat} {ta tb tr : Nat} {g : Int → Int → Option Int} (hr : ∀ (H : Heap) (locs : List Loc) (M : Array Slot) (rest : List Value) (a b r : Int), g a b = some r → W p l e R s m args below meth c H locs cells slots Q (F0 m (pc + dn) M (zenc ad (tr, r) :: rest)) → W p l e R s m args below meth c H locs cells slots Q (F0 m pc M (zenc ad (tb, b) :: zenc ad (ta, a) :: rest)))
    (hpc : is = is' → zpc is' = pc + dn) (h : zbin ta tb tr g is ls st σ = .inr (.inl (is', ls', st', σ'))) (kk : zWp ad D ca A xr p l e R s m args below meth c cells slots Q k (zpc is') ls' st' σ') : zWp ad D ca A xr p l e R s m args below meth c cells slots Q k pc ls st σ := by
  unfold zbin at h
  rcases st with _ | ⟨⟨t1, b⟩, _ | ⟨⟨t2, a⟩, st⟩⟩
  · cases h
  · cases h
  · dsimp only at h
    by_cases h1 : t1 = tb ∧ t2 = ta
    · rw [if_pos h1] at h
      obtain ⟨rfl, rfl⟩ := h1
      cases hg : g a b with
      | none => rw [hg] at h; cases h
      | some r =>
        rw [hg] at h
        obtain ⟨h3, rfl, rfl, rfl⟩ := zgo_inv h
        rw [hpc h3] at kk
        intro H locs M hx hP hS hl
        exact hr H locs M _ a b r hg (kk H locs M hx hP hS hl)
    · rw [if_neg h1] at h; cases h
theorem zs_un {dn : Nat} {ta tr : Nat} {g : Int → Int} (hr : ∀ (H : Heap) (locs : List Loc) (M : Array Slot) (rest : List Value) (a : Int), W p l e R s m args below meth c H locs cells slots Q (F0 m (pc + dn) M (zenc ad (tr, g a) :: rest)) → W p l e R s m args below meth c H locs cells slots Q (F0 m pc M (zenc ad (ta, a) :: rest)))
    (hpc : is = is' → zpc is' = pc + dn) (h : zun ta tr g is ls st σ = .inr (.inl (is', ls', st', σ'))) (kk : zWp ad D ca A xr p l e R s m args below meth c cells slots Q k (zpc is') ls' st' σ') : zWp ad D ca A xr p l e R s m args below meth c cells slots Q k pc ls st σ := by
  unfold zun at h
  rcases st with _ | ⟨⟨t2, a⟩, st⟩
  · cases h
  · dsimp only at h
    by_cases h1 : t2 = ta
    · rw [if_pos h1] at h
      subst h1
      obtain ⟨h3, rfl, rfl, rfl⟩ := zgo_inv h
      rw [hpc h3] at kk
      intro H locs M hx hP hS hl
      exact hr H locs M _ a (kk H locs M hx hP hS hl)
    · rw [if_neg h1] at h; cases h
theorem zjump_pc {k : Nat} {x : Int} {is' : List zCE} (h : zjump k x = is') (hne : is' ≠ []) : (zpc is' : Int) = x := by
  unfold zjump at h
  generalize zcode k = L at h
  induction L with
  | nil => rw [List.dropWhile_nil] at h; exact absurd h.symm hne
  | cons a t ih =>
    rw [List.dropWhile_cons] at h
    by_cases h1 : (a.1 : Int) = x
    · rw [if_neg (by simpa using h1)] at h
      rw [← h]; exact h1
    · rw [if_pos (by simpa using h1)] at h
      exact ih h
theorem zs_if {x off : Int} {cd : Jvm.ClassFile.Cond} (hexec : p.tables.exec = Jvm.exec) (hb : c.code = zbytes k) (hdg : decode (zbytes k) pc = .ok (.ifCond cd off, 3)) (hx : (pc : Int) + off = x) (hx0 : 0 ≤ x) (hne : is' ≠ []) (hpc : is = is' → zpc is' = pc + 3)
    (h : zif k x cd is ls st σ = .inr (.inl (is', ls', st', σ'))) (kk : zWp ad D ca A xr p l e R s m args below meth c cells slots Q k (zpc is') ls' st' σ') : zWp ad D ca A xr p l e R s m args below meth c cells slots Q k pc ls st σ := by
  unfold zif at h
  rcases st with _ | ⟨⟨t2, a⟩, st⟩
  · cases h
  · dsimp only at h
    by_cases h1 : t2 = 0
    · rw [if_pos h1] at h
      subst h1
      intro H locs M hxx hP hS hl
      by_cases h2 : zcd cd (c32 a) 0 = true
      · rw [if_pos h2] at h
        obtain ⟨h3, rfl, rfl, rfl⟩ := zgo_inv h
        have ht := zjump_pc h3 hne
        have K := kk H locs M hxx hP hS hl
        show W p l e R s m args below meth c H locs cells slots Q (F0 m pc M (.int (Int32.ofInt a) :: _))
        cases cd
        · have h4 : (Int32.ofInt a).toInt = (0 : Int32).toInt := of_decide_eq_true h2
          exact lv_if_eq hexec hb hdg (hx.trans ht.symm) (fun _ => K) (fun q => absurd (Int32.toInt_inj.mp h4) q)
        · have h4 : ¬ (Int32.ofInt a).toInt = (0 : Int32).toInt := of_decide_eq_true h2
          exact lv_if_ne hexec hb hdg (hx.trans ht.symm) (fun _ => K) (fun q => absurd (by rw [q]) h4)
        · have h4 : (Int32.ofInt a).toInt < (0 : Int32).toInt := of_decide_eq_true h2
          exact lv_if_lt hexec hb hdg (hx.trans ht.symm) (fun _ => K) (fun q => absurd (Int32.lt_iff_toInt_lt.mpr h4) q)
        · have h4 : (0 : Int32).toInt ≤ (Int32.ofInt a).toInt := of_decide_eq_true h2
          exact lv_if_ge hexec hb hdg (hx.trans ht.symm) (fun _ => K) (fun q => absurd (Int32.le_iff_toInt_le.mpr h4) q)
        · have h4 : (0 : Int32).toInt < (Int32.ofInt a).toInt := of_decide_eq_true h2
          exact lv_if_gt hexec hb hdg (hx.trans ht.symm) (fun _ => K) (fun q => absurd (Int32.lt_iff_toInt_lt.mpr h4) q)
        · have h4 : (Int32.ofInt a).toInt ≤ (0 : Int32).toInt := of_decide_eq_true h2
          exact lv_if_le hexec hb hdg (hx.trans ht.symm) (fun _ => K) (fun q => absurd (Int32.le_iff_toInt_le.mpr h4) q)
      · rw [if_neg h2] at h
        obtain ⟨h3, rfl, rfl, rfl⟩ := zgo_inv h
        have K := kk H locs M hxx hP hS hl
        rw [hpc h3] at K
        show W p l e R s m args below meth c H locs cells slots Q (F0 m pc M (.int (Int32.ofInt a) :: _))
        have htg : (pc : Int) + off = (x.toNat : Nat) := by omega
        cases cd
        · have h4 : ¬ (Int32.ofInt a).toInt = (0 : Int32).toInt := fun q => h2 (decide_eq_true q)
          exact lv_if_eq hexec hb hdg htg (fun q => absurd (by rw [q]) h4) (fun _ => K)
        · have h4 : ¬ ¬ (Int32.ofInt a).toInt = (0 : Int32).toInt := fun q => h2 (decide_eq_true q)
          exact lv_if_ne hexec hb hdg htg (fun q => absurd (fun z => q (Int32.toInt_inj.mp z)) h4) (fun _ => K)
        · have h4 : ¬ (Int32.ofInt a).toInt < (0 : Int32).toInt := fun q => h2 (decide_eq_true q)
          exact lv_if_lt hexec hb hdg htg (fun q => absurd (Int32.lt_iff_toInt_lt.mp q) h4) (fun _ => K)
        · have h4 : ¬ (0 : Int32).toInt ≤ (Int32.ofInt a).toInt := fun q => h2 (decide_eq_true q)
          exact lv_if_ge hexec hb hdg htg (fun q => absurd (Int32.le_iff_toInt_le.mp q) h4) (fun _ => K)
        · have h4 : ¬ (0 : Int32).toInt < (Int32.ofInt a).toInt := fun q => h2 (decide_eq_true q)
          exact lv_if_gt hexec hb hdg htg (fun q => absurd (Int32.lt_iff_toInt_lt.mp q) h4) (fun _ => K)
        · have h4 : ¬ (Int32.ofInt a).toInt ≤ (0 : Int32).toInt := fun q => h2 (decide_eq_true q)
          exact lv_if_le hexec hb hdg htg (fun q => absurd (Int32.le_iff_toInt_le.mp q) h4) (fun _ => K)
    · rw [if_neg h1] at h; cases h
theorem zs_icmp {x off : Int} {cd : Jvm.ClassFile.Cond} (hexec : p.tables.exec = Jvm.exec) (hb : c.code = zbytes k) (hdg : decode (zbytes k) pc = .ok (.if_icmp cd off, 3)) (hx : (pc : Int) + off = x) (hx0 : 0 ≤ x) (hne : is' ≠ []) (hpc : is = is' → zpc is' = pc + 3)
    (h : zicmp k x cd is ls st σ = .inr (.inl (is', ls', st', σ'))) (kk : zWp ad D ca A xr p l e R s m args below meth c cells slots Q k (zpc is') ls' st' σ') : zWp ad D ca A xr p l e R s m args below meth c cells slots Q k pc ls st σ := by
  unfold zicmp at h
  rcases st with _ | ⟨⟨t1, b⟩, _ | ⟨⟨t2, a⟩, st⟩⟩
  · cases h
  · cases h
  · dsimp only at h
    by_cases h1 : t1 = 0 ∧ t2 = 0
    · rw [if_pos h1] at h
      obtain ⟨rfl, rfl⟩ := h1
      intro H locs M hxx hP hS hl
      by_cases h2 : zcd cd (c32 a) (c32 b) = true
      · rw [if_pos h2] at h
        obtain ⟨h3, rfl, rfl, rfl⟩ := zgo_inv h
        have ht := zjump_pc h3 hne
        have K := kk H locs M hxx hP hS hl
        show W p l e R s m args below meth c H locs cells slots Q (F0 m pc M (.int (Int32.ofInt b) :: .int (Int32.ofInt a) :: _))
        cases cd
        · have h4 : (Int32.ofInt a).toInt = (Int32.ofInt b).toInt := of_decide_eq_true h2
          exact lv_icmp_eq hexec hb hdg (hx.trans ht.symm) (fun _ => K) (fun q => absurd (Int32.toInt_inj.mp h4) q)
        · have h4 : ¬ (Int32.ofInt a).toInt = (Int32.ofInt b).toInt := of_decide_eq_true h2
          exact lv_icmp_ne hexec hb hdg (hx.trans ht.symm) (fun _ => K) (fun q => absurd (by rw [q]) h4)
        · have h4 : (Int32.ofInt a).toInt < (Int32.ofInt b).toInt := of_decide_eq_true h2
          exact lv_icmp_lt hexec hb hdg (hx.trans ht.symm) (fun _ => K) (fun q => absurd (Int32.lt_iff_toInt_lt.mpr h4) q)
        · have h4 : (Int32.ofInt b).toInt ≤ (Int32.ofInt a).toInt := of_decide_eq_true h2
          exact lv_icmp_ge hexec hb hdg (hx.trans ht.symm) (fun _ => K) (fun q => absurd (Int32.le_iff_toInt_le.mpr h4) q)
        · have h4 : (Int32.ofInt b).toInt < (Int32.ofInt a).toInt := of_decide_eq_true h2
          exact lv_icmp_gt hexec hb hdg (hx.trans ht.symm) (fun _ => K) (fun q => absurd (Int32.lt_iff_toInt_lt.mpr h4) q)
        · have h4 : (Int32.ofInt a).toInt ≤ (Int32.ofInt b).toInt := of_decide_eq_true h2
          exact lv_icmp_le hexec hb hdg (hx.trans ht.symm) (fun _ => K) (fun q => absurd (Int32.le_iff_toInt_le.mpr h4) q)
      · rw [if_neg h2] at h
        obtain ⟨h3, rfl, rfl, rfl⟩ := zgo_inv h
        have K := kk H locs M hxx hP hS hl
        rw [hpc h3] at K
        show W p l e R s m args below meth c H locs cells slots Q (F0 m pc M (.int (Int32.ofInt b) :: .int (Int32.ofInt a) :: _))
        have htg : (pc : Int) + off = (x.toNat : Nat) := by omega
        cases cd
        · have h4 : ¬ (Int32.ofInt a).toInt = (Int32.ofInt b).toInt := fun q => h2 (decide_eq_true q)
          exact lv_icmp_eq hexec hb hdg htg (fun q => absurd (by rw [q]) h4) (fun _ => K)
        · have h4 : ¬ ¬ (Int32.ofInt a).toInt = (Int32.ofInt b).toInt := fun q => h2 (decide_eq_true q)
          exact lv_icmp_ne hexec hb hdg htg (fun q => absurd (fun z => q (Int32.toInt_inj.mp z)) h4) (fun _ => K)
        · have h4 : ¬ (Int32.ofInt a).toInt < (Int32.ofInt b).toInt := fun q => h2 (decide_eq_true q)
          exact lv_icmp_lt hexec hb hdg htg (fun q => absurd (Int32.lt_iff_toInt_lt.mp q) h4) (fun _ => K)
        · have h4 : ¬ (Int32.ofInt b).toInt ≤ (Int32.ofInt a).toInt := fun q => h2 (decide_eq_true q)
          exact lv_icmp_ge hexec hb hdg htg (fun q => absurd (Int32.le_iff_toInt_le.mp q) h4) (fun _ => K)
        · have h4 : ¬ (Int32.ofInt b).toInt < (Int32.ofInt a).toInt := fun q => h2 (decide_eq_true q)
          exact lv_icmp_gt hexec hb hdg htg (fun q => absurd (Int32.lt_iff_toInt_lt.mp q) h4) (fun _ => K)
        · have h4 : ¬ (Int32.ofInt a).toInt ≤ (Int32.ofInt b).toInt := fun q => h2 (decide_eq_true q)
          exact lv_icmp_le hexec hb hdg htg (fun q => absurd (Int32.le_iff_toInt_le.mp q) h4) (fun _ => K)
    · rw [if_neg h1] at h; cases h
theorem zs_iinc {n : Nat} {x : Int} (hexec : p.tables.exec = Jvm.exec) (hb : c.code = zbytes k) (hdg : decode (zbytes k) pc = .ok (.iinc n x, 3)) (hlen : ls.length = zmaxl k) (hpc : is = is' → zpc is' = pc + 3)
    (h : ziinc n x is ls st σ = .inr (.inl (is', ls', st', σ'))) (kk : zWp ad D ca A xr p l e R s m args below meth c cells slots Q k (zpc is') ls' st' σ') : zWp ad D ca A xr p l e R s m args below meth c cells slots Q k pc ls st σ := by
  unfold ziinc at h
  cases hv : ls[n]? with
  | none => rw [hv] at h; cases h
  | some v =>
    obtain ⟨t, a⟩ := v
    rw [hv] at h
    dsimp only at h
    by_cases h1 : t = 0
    · rw [if_pos h1] at h
      subst h1
      obtain ⟨h3, rfl, rfl, rfl⟩ := zgo_inv h
      intro H locs M hx hP hS hl
      have hn : n < zmaxl k := by rw [← hlen]; exact (List.getElem?_eq_some_iff.mp hv).1
      obtain ⟨j, hj⟩ := List.getElem?_of_mem ((zasc_mem (ad := ad) ls 0).mpr ⟨n, (0, a), hv, Nat.zero_le 2, rfl⟩)
      rw [Nat.zero_add] at hj
      refine lv_iinc (v := Int32.ofInt (a + x)) hexec hb hdg hl hj (by rw [Int32.ofInt_add]) hn rfl (fun M' hl' => ?_)
      rw [← hpc h3]
      exact kk H locs M' hx hP hS (zst1 (v := vI (a + x)) Nat.zero_ne_one hl')
    · rw [if_neg h1] at h; cases h
theorem zs_dup (hexec : p.tables.exec = Jvm.exec) (hb : c.code = zbytes k) (hdg : decode (zbytes k) pc = .ok (.dup, 1)) (hpc : is = is' → zpc is' = pc + 1)
    (h : zdup is ls st σ = .inr (.inl (is', ls', st', σ'))) (kk : zWp ad D ca A xr p l e R s m args below meth c cells slots Q k (zpc is') ls' st' σ') : zWp ad D ca A xr p l e R s m args below meth c cells slots Q k pc ls st σ := by
  unfold zdup at h
  rcases st with _ | ⟨v, st⟩
  · cases h
  · dsimp only at h
    by_cases h1 : v.1 = 1
    · rw [if_pos h1] at h; cases h
    · rw [if_neg h1] at h
      obtain ⟨h3, rfl, rfl, rfl⟩ := zgo_inv h
      intro H locs M hx hP hS hl
      have K := kk H locs M hx hP hS hl
      rw [hpc h3] at K
      exact lv_dup hexec hb hdg (zenc_cat h1) K
theorem zs_dup2 (hexec : p.tables.exec = Jvm.exec) (hb : c.code = zbytes k) (hdg : decode (zbytes k) pc = .ok (.dup2, 1)) (hpc : is = is' → zpc is' = pc + 1)
    (h : zdup2 is ls st σ = .inr (.inl (is', ls', st', σ'))) (kk : zWp ad D ca A xr p l e R s m args below meth c cells slots Q k (zpc is') ls' st' σ') : zWp ad D ca A xr p l e R s m args below meth c cells slots Q k pc ls st σ := by
  unfold zdup2 at h
  rcases st with _ | ⟨v, st⟩
  · cases h
  · dsimp only at h
    by_cases h1 : v.1 = 1
    · rw [if_pos h1] at h
      obtain ⟨h3, rfl, rfl, rfl⟩ := zgo_inv h
      intro H locs M hx hP hS hl
      have K := kk H locs M hx hP hS hl
      rw [hpc h3] at K
      exact lv_dup2_2 hexec hb hdg (zenc_long h1) K
    · rw [if_neg h1] at h
      rcases st with _ | ⟨u, st⟩
      · cases h
      · dsimp only at h
        by_cases h2 : u.1 = 1
        · rw [if_pos h2] at h; cases h
        · rw [if_neg h2] at h
          obtain ⟨h3, rfl, rfl, rfl⟩ := zgo_inv h
          intro H locs M hx hP hS hl
          have K := kk H locs M hx hP hS hl
          rw [hpc h3] at K
          exact lv_dup2_11 hexec hb hdg (zenc_cat h1) (zenc_cat h2) K
theorem zs_tab {d lo hi : Int} {offs : Array Int} {len : Nat} (hexec : p.tables.exec = Jvm.exec) (hb : c.code = zbytes k) (hdg : decode (zbytes k) pc = .ok (.tableswitch d lo hi offs, len)) (hne : is' ≠ [])
    (h : ztab k pc d lo hi offs ls st σ = .inr (.inl (is', ls', st', σ'))) (kk : zWp ad D ca A xr p l e R s m args below meth c cells slots Q k (zpc is') ls' st' σ') : zWp ad D ca A xr p l e R s m args below meth c cells slots Q k pc ls st σ := by
  unfold ztab at h
  rcases st with _ | ⟨⟨t2, a⟩, st⟩
  · cases h
  · dsimp only at h
    by_cases h1 : t2 = 0
    · rw [if_pos h1] at h
      subst h1
      intro H locs M hxx hP hS hl
      by_cases h2 : c32 a < lo ∨ hi < c32 a
      · rw [if_pos h2] at h
        obtain ⟨h3, rfl, rfl, rfl⟩ := zgo_inv h
        exact lv_tableOut (x := Int32.ofInt a) hexec hb hdg h2 (zjump_pc h3 hne).symm (kk H locs M hxx hP hS hl)
      · rw [if_neg h2] at h
        cases ho : offs[(c32 a - lo).toNat]? with
        | none => rw [ho] at h; cases h
        | some o =>
          rw [ho] at h
          obtain ⟨h3, rfl, rfl, rfl⟩ := zgo_inv h
          exact lv_tableIn (x := Int32.ofInt a) hexec hb hdg (fun q => h2 (Or.inl q)) (fun q => h2 (Or.inr q)) ho (zjump_pc h3 hne).symm (kk H locs M hxx hP hS hl)
    · rw [if_neg h1] at h; cases h
theorem zs_look {d : Int} {ps : Array (Int × Int)} {len : Nat} (hexec : p.tables.exec = Jvm.exec) (hb : c.code = zbytes k) (hdg : decode (zbytes k) pc = .ok (.lookupswitch d ps, len)) (hp : (ps.toList.zip (ps.toList.drop 1)).all (fun (a, next) => a.1 < next.1) = true) (hne : is' ≠ [])
    (h : zlook k pc d ps ls st σ = .inr (.inl (is', ls', st', σ'))) (kk : zWp ad D ca A xr p l e R s m args below meth c cells slots Q k (zpc is') ls' st' σ') : zWp ad D ca A xr p l e R s m args below meth c cells slots Q k pc ls st σ := by
  unfold zlook at h
  rcases st with _ | ⟨⟨t2, a⟩, st⟩
  · cases h
  · dsimp only at h
    by_cases h1 : t2 = 0
    · rw [if_pos h1] at h
      subst h1
      intro H locs M hxx hP hS hl
      obtain ⟨h3, rfl, rfl, rfl⟩ := zgo_inv h
      exact lv_lookup (x := Int32.ofInt a) hexec hb hdg hp rfl (zjump_pc h3 hne).symm (kk H locs M hxx hP hS hl)
    · rw [if_neg h1] at h; cases h
end ZS
end
section
theorem zgood {w : Jvm.Cond} (h : w ∈ lw_tbl) (hg : goodWord w = true) : w ∈ zW := List.mem_filter.mpr ⟨h, hg⟩
set_option maxRecDepth 100000 in
theorem zcl_get : ∀ ci, ci < 8 → vwCl[ci]? = some (zcl ci) := by
  intro ci h
  unfold zcl
  rw [List.getD_eq_getElem?_getD]
  have : ci < vwCl.length := h
  rw [List.getElem?_eq_getElem this]
  rfl
def zty (ci : Nat) : Nat → FieldType := [tyX0, tyX1, tyX2, tyX3, tyX4, tyX5, tyX6, tyX7].getD ci tyX0
theorem z8 {P : Nat → Prop} (h0 : P 0) (h1 : P 1) (h2 : P 2) (h3 : P 3) (h4 : P 4) (h5 : P 5) (h6 : P 6) (h7 : P 7) : ∀ ci, ci < 8 → P ci := by
  intro ci h
  rcases (show ci = 0 ∨ ci = 1 ∨ ci = 2 ∨ ci = 3 ∨ ci = 4 ∨ ci = 5 ∨ ci = 6 ∨ ci = 7 by omega) with rfl | rfl | rfl | rfl | rfl | rfl | rfl | rfl <;> assumption
theorem zty_ok : ∀ ci, ci < 8 → ∀ k, k < (zcl ci).2.2 → parseFieldDescriptor ((zcl ci).2.1 k).2.2.1 = some (zty ci k) := z8 tyX0_ok tyX1_ok tyX2_ok tyX3_ok tyX4_ok tyX5_ok tyX6_ok tyX7_ok
theorem znm_ok : ∀ ci, ci < 8 → ∀ a, a < (zcl ci).2.2 → ∀ b, b < (zcl ci).2.2 → a ≠ b → ((zcl ci).2.1 a).2.1 ≠ ((zcl ci).2.1 b).2.1 := z8 nmX0 nmX1 nmX2 nmX3 nmX4 nmX5 nmX6 nmX7
theorem zlay_in {ci : Nat} (h : ci < 8) : ∀ w ∈ u_ws (zcl ci).1 (zcl ci).2.1 (zcl ci).2.2, w ∈ zW := by
  intro w hw
  have h1 := List.all_eq_true.mp zlay_ok ci (List.mem_range.mpr h)
  have h2 : ((zLAYI.getD ci []).map fun i => lw_tbl[i]?) = (u_ws (zcl ci).1 (zcl ci).2.1 (zcl ci).2.2).map some := of_decide_eq_true h1
  have h3 : some w ∈ ((zLAYI.getD ci []).map fun i => lw_tbl[i]?) := by rw [h2]; exact List.mem_map.mpr ⟨w, hw, rfl⟩
  obtain ⟨i, -, hi⟩ := List.mem_map.mp h3
  refine zgood (List.mem_of_getElem? hi) ?_
  unfold u_ws at hw
  obtain ⟨j, -, rfl⟩ := List.mem_map.mp hw
  unfold u_lay
  split <;> rfl
def zfkok (ci j : Nat) : Bool := match zfk ci j with
  | 0 => decide (zty ci j = .int) && !((zcl ci).2.1 j).2.2.2
  | 1 => decide (zty ci j = .boolean) && !((zcl ci).2.1 j).2.2.2
  | 2 => decide (zty ci j = .long) && !((zcl ci).2.1 j).2.2.2
  | 3 => true
  | 4 => decide (zty ci j = .array (.array .int)) && !((zcl ci).2.1 j).2.2.2
  | _ => false
theorem zfk_all : (List.range 8).all (fun ci => (List.range (zcl ci).2.2).all (fun j => zfkok ci j)) = true := by decide +kernel
theorem zfk_ok {ci j : Nat} (h : ci < 8) (hj : j < (zcl ci).2.2) : zfkok ci j = true := List.all_eq_true.mp (List.all_eq_true.mp zfk_all ci (List.mem_range.mpr h)) j (List.mem_range.mpr hj)
theorem zdecl_all : (List.range 8).all (fun ci => (List.range (zcl ci).2.2).all (fun j => decide (((zcl ci).2.1 j).1 = (zcl ci).1))) = true := by decide +kernel
theorem zdecl_ok {ci j : Nat} (h : ci < 8) (hj : j < (zcl ci).2.2) : ((zcl ci).2.1 j).1 = (zcl ci).1 := of_decide_eq_true (List.all_eq_true.mp (List.all_eq_true.mp zdecl_all ci (List.mem_range.mpr h)) j (List.mem_range.mpr hj))
theorem zshp_all : (List.range 72).all (fun n => decide ((zSHP.getD n (99, 0)).1 < 10) || (decide ((zSHP.getD n (99, 0)).1 - 10 < 8) && decide ((zcl ((zSHP.getD n (99, 0)).1 - 10)).2.2 = (zSHP.getD n (99, 0)).2))) = true := by decide +kernel
theorem zshp_obj {n ci : Nat} (h : n < 72) (ht : (zSHP.getD n (99, 0)).1 = 10 + ci) : ci < 8 ∧ (zSHP.getD n (99, 0)).2 = (zcl ci).2.2 := by
  have h1 := List.all_eq_true.mp zshp_all n (List.mem_range.mpr h)
  rw [ht] at h1
  simp only [Nat.add_sub_cancel_left, Bool.or_eq_true, Bool.and_eq_true, decide_eq_true_eq] at h1
  rcases h1 with h1 | ⟨h1, h2⟩
  · omega
  · exact ⟨h1, h2.symm⟩
theorem zentT_obj (ad : Nat → Nat) (ca : Nat → ClassId) (row : Int → Int) (c ci n : Nat) : zentT ad ca row c (10 + ci) n = .inr (ci, (List.range n).map (zfv ad row c ci)) := by
  rw [show 10 + ci = (ci + 4) + 6 by omega]
  simp [zentT]
theorem zent_obj {ad : Nat → Nat} {ca : Nat → ClassId} {row : Int → Int} {n ci : Nat} (h : n < 72) (ht : (zSHP.getD n (99, 0)).1 = 10 + ci) : zent ad ca row n = .inr (ci, (List.range (zcl ci).2.2).map (zfv ad row n ci)) := by
  unfold zent
  rw [ht, zentT_obj, (zshp_obj h ht).2]
theorem zfld {own i : Nat} {x : Int} (h : zFLD.any (fun q => q.1 == own && q.2.1 == i && q.2.2.1 == x.toNat) = true) : Jvm.Cond.fieldLink (zcn own) i (zcl (x.toNat / 32)).1 ((zcl (x.toNat / 32)).2.1 (x.toNat % 32)).2.1 ((zcl (x.toNat / 32)).2.1 (x.toNat % 32)).2.2.1 ∈ zW := by
  obtain ⟨q, hq, h1⟩ := List.any_eq_true.mp h
  simp only [Bool.and_eq_true, beq_iff_eq] at h1
  obtain ⟨⟨h1, h2⟩, h3⟩ := h1
  have h4 := List.all_eq_true.mp zFLD_ok q hq
  unfold zfwok at h4
  simp only [Bool.and_eq_true, decide_eq_true_eq] at h4
  have h5 := List.mem_of_getElem? h4.1.1
  unfold zfw at h5
  rw [h1, h2, h3] at h5
  exact zgood h5 rfl
theorem zrdF_spec {x c : Int} {σ : zM} {r : zV} (ad : Nat → Nat) (h : zrdF x c σ = some r) : ∃ n : Nat, c = n ∧ n < 72 ∧ (zSHP.getD n (99, 0)).1 = 10 + x.toNat / 32 ∧ x.toNat % 32 < (zSHP.getD n (99, 0)).2 ∧ zenc ad r = zfv ad (σ n) n (x.toNat / 32) (x.toNat % 32) := by
  unfold zrdF at h
  by_cases h1 : (zshp c).1 = 10 + x.toNat / 32 ∧ x.toNat % 32 < (zshp c).2
  · rw [if_pos h1] at h
    have h99 : (zshp c).1 ≠ 99 := by
      intro q
      have : (zshp c).2 = 0 := by
        unfold zshp at q ⊢
        by_cases h0 : 0 ≤ c
        · rw [if_pos h0] at q ⊢
          by_cases h2 : c.toNat < 72
          · have h3 : ∀ n, n < 72 → (zSHP.getD n (99, 0)).1 ≠ 99 := by decide +kernel
            exact absurd q (h3 _ h2)
          · rw [List.getD_eq_getElem?_getD, List.getElem?_eq_none (by simp [zSHP]; omega)]
            rfl
        · rw [if_neg h0]
      omega
    obtain ⟨n, rfl, hn, hs⟩ := zshp_lt h99
    rw [hs] at h1
    refine ⟨n, rfl, hn, h1.1, h1.2, ?_⟩
    unfold zfv
    rw [Int.toNat_natCast] at h
    split at h
    · rename_i e; rw [e]; cases h; rfl
    · rename_i e; rw [e]; cases h; rfl
    · rename_i e; rw [e]; cases h; rfl
    · rename_i e; rw [e]; cases h; rfl
    · rename_i e
      rw [e]
      split at h
      · rename_i h5
        cases h
        rw [if_pos h5]
        rfl
      · cases h
    · cases h
  · rw [if_neg h1] at h; cases h
section ZH
variable {ad : Nat → Nat} {D : va_G} {ca : Nat → ClassId} {A : Nat → Prop} {xr : Int → Int} {p : Program} {l : Launch} {e : Env} {R : Room} {s : State} {m : MethodId} {args : Array Value} {below : List Frame} {meth : Method} {c : Code} {cells slots : Nat} {Q : State → Prop} {k pc : Nat} {is is' : List zCE} {ls ls' st st' : List zV} {σ σ' : zM}
theorem zs_gf {x : Int} {i : Nat} (C : zCx ad D ca A xr p R s m args c k) (hdg : decode (zbytes k) pc = .ok (.getfield i, 3)) (hf : zFLD.any (fun q => q.1 == zown k && q.2.1 == i && q.2.2.1 == x.toNat) = true) (hpc : is = is' → zpc is' = pc + 3)
    (h : zgf x is ls st σ = .inr (.inl (is', ls', st', σ'))) (kk : zWp ad D ca A xr p l e R s m args below meth c cells slots Q k (zpc is') ls' st' σ') : zWp ad D ca A xr p l e R s m args below meth c cells slots Q k pc ls st σ := by
  unfold zgf at h
  rcases st with _ | ⟨⟨t2, a⟩, st⟩
  · cases h
  · dsimp only at h
    by_cases h1 : t2 = 2
    · rw [if_pos h1] at h
      subst h1
      cases hr : zrdF x a σ with
      | none => rw [hr] at h; cases h
      | some r =>
        rw [hr] at h
        obtain ⟨h3, rfl, rfl, rfl⟩ := zgo_inv h
        obtain ⟨n, rfl, hn, ht, hj, he⟩ := zrdF_spec ad hr
        obtain ⟨hci, hN⟩ := zshp_obj hn ht
        rw [hN] at hj
        obtain ⟨hexec, hb, hml, hown, hts, -, hK, -⟩ := C
        intro H locs M hxx hP hS hl
        have K := kk H locs M hxx hP hS hl
        rw [hpc h3] at K
        have hent : (zWS ad ca σ)[n]? = some (ad n, .inr (x.toNat / 32, (List.range (zcl (x.toNat / 32)).2.2).map (zfv ad (σ n) n (x.toNat / 32)))) := by
          rw [zWS_get ad ca σ hn, zent_obj hn ht]
        refine va_get (Ts := zW) (C := (zcl (x.toNat / 32)).1) (T := (zcl (x.toNat / 32)).2.1) (N := (zcl (x.toNat / 32)).2.2) hexec hb hts (zlay_in hci) hown hK hP n hent (zcl_get _ hci) (x.toNat % 32) hj (hts _ (zfld hf)) (fun z hz => ?_) (v := zenc ad r) ?_ hdg K
        · rw [zdecl_ok hci hj] at hz; exact hz
        · rw [he]; simp [hj]
    · rw [if_neg h1] at h; cases h
end ZH
end
section
theorem zrow_upd {σ : zM} {c j v : Int} {q : Nat} (h : (q : Int) ≠ c) : zU σ c j v q = σ q := by
  funext j'
  unfold zU
  rw [if_neg (fun z => h z.1)]
theorem zmap_set {f g : Nat → Value} {N j : Nat} {v : Value} (hj : g j = v) (ho : ∀ i, i ≠ j → g i = f i) : ((List.range N).map f).set j v = (List.range N).map g := by
  apply List.ext_getElem?
  intro i
  by_cases hN : i < N
  · by_cases hi : j = i
    · subst hi
      rw [List.getElem?_set_self (by simpa using hN)]
      simp [hN, hj]
    · rw [List.getElem?_set_ne hi]
      simp [hN, ho i (fun z => hi z.symm)]
  · rw [List.getElem?_eq_none (by simp; omega), List.getElem?_eq_none (by simp; omega)]
theorem zfv_ne {ad : Nat → Nat} {σ : zM} {n ci j i : Nat} {v : Int} (h : i ≠ j) : zfv ad (zU σ n j v n) n ci i = zfv ad (σ n) n ci i := by
  have : zU σ n j v n i = σ n i := by unfold zU; rw [if_neg (fun z => h (by omega))]
  unfold zfv
  rw [this]
theorem zU_same {σ : zM} {c j v : Int} : zU σ c j v c j = v := by unfold zU; rw [if_pos ⟨rfl, rfl⟩]
theorem zrow72 {σ : zM} {n : Nat} {j v : Int} (h : n < 72) : zU σ n j v 72 = σ 72 := zrow_upd (q := 72) (by omega)
theorem zobj99 {x c : Int} (h : (zshp c).1 = 10 + x.toNat / 32) (h2 : x.toNat % 32 < (zshp c).2) : (zshp c).1 ≠ 99 := by
  intro q
  have : (zshp c).2 = 0 := by
    unfold zshp at q ⊢
    by_cases h0 : 0 ≤ c
    · rw [if_pos h0] at q ⊢
      by_cases h2 : c.toNat < 72
      · have h3 : ∀ n, n < 72 → (zSHP.getD n (99, 0)).1 ≠ 99 := by decide +kernel
        exact absurd q (h3 _ h2)
      · rw [List.getD_eq_getElem?_getD, List.getElem?_eq_none (by simp [zSHP]; omega)]
        rfl
    · rw [if_neg h0]
  omega
section ZP
variable {ad : Nat → Nat} {D : va_G} {ca : Nat → ClassId} {A : Nat → Prop} {xr : Int → Int} {p : Program} {l : Launch} {e : Env} {R : Room} {s : State} {m : MethodId} {args : Array Value} {below : List Frame} {meth : Method} {c : Code} {cells slots : Nat} {Q : State → Prop} {k pc : Nat} {is is' : List zCE} {ls ls' st st' : List zV} {σ σ' : zM}
theorem zs_pf1 {x : Int} {i : Nat} {n : Nat} {v : zV} {ty : FieldType} (C : zCx ad D ca A xr p R s m args c k) (hdg : decode (zbytes k) pc = .ok (.putfield i, 3)) (hf : zFLD.any (fun q => q.1 == zown k && q.2.1 == i && q.2.2.1 == x.toNat) = true)
    (hn : n < 72) (ht : (zSHP.getD n (99, 0)).1 = 10 + x.toNat / 32) (hj : x.toNat % 32 < (zcl (x.toNat / 32)).2.2) (hfin : ((zcl (x.toNat / 32)).2.1 (x.toNat % 32)).2.2.2 = false) (hty : zty (x.toNat / 32) (x.toNat % 32) = ty) (hnw : narrow ty (zenc ad v) = zenc ad v) (hfit : fits ty (zenc ad v) = true) (hv : ∀ row : Int → Int, row (x.toNat % 32 : Nat) = v.2 → zfv ad row n (x.toNat / 32) (x.toNat % 32) = zenc ad v)
    (kk : zWp ad D ca A xr p l e R s m args below meth c cells slots Q k (pc + 3) ls st (zU σ n (x.toNat % 32 : Nat) v.2)) : zWp ad D ca A xr p l e R s m args below meth c cells slots Q k pc ls (v :: (2, (n : Int)) :: st) σ := by
  obtain ⟨hci, hN⟩ := zshp_obj hn ht
  obtain ⟨hexec, hb, hml, hown, hts, -, hK, hA, hinj, -⟩ := C
  intro H locs M hxx hP hS hl
  have hent : (zWS ad ca σ)[n]? = some (ad n, .inr (x.toNat / 32, (List.range (zcl (x.toNat / 32)).2.2).map (zfv ad (σ n) n (x.toNat / 32)))) := by
    rw [zWS_get ad ca σ hn, zent_obj hn ht]
  refine va_put (ty0 := zty (x.toNat / 32)) (Ts := zW) (C := (zcl (x.toNat / 32)).1) (T := (zcl (x.toNat / 32)).2.1) (N := (zcl (x.toNat / 32)).2.2) (ty := ty) hexec hb hts (zlay_in hci) (zty_ok _ hci) (znm_ok _ hci) hown hK hP (zD_of hA hinj) hS n hent (zcl_get _ hci) (x.toNat % 32) hj (hts _ (zfld hf)) (fun z hz => ?_) hfin (by rw [zty_ok _ hci _ hj, hty]) hnw hfit (by simpa using hj) hdg (fun H1 locs1 hP1 hD1 hS1 => ?_)
  · rw [zdecl_ok hci hj] at hz; exact hz
  · rw [zmap_set (g := zfv ad (zU σ n (x.toNat % 32 : Nat) v.2 n) n (x.toNat / 32)) (hv _ zU_same) (fun i hi => zfv_ne hi), ← zent_obj (ca := ca) hn ht, zWS_set ad ca σ (zU σ n (x.toNat % 32 : Nat) v.2) hn (fun q hq => zrow_upd (by omega))] at hP1
    exact kk H1 locs1 M (by rw [zrow72 hn]; exact hxx) hP1 hS1 hl
theorem zs_pf {x : Int} {i : Nat} (C : zCx ad D ca A xr p R s m args c k) (hdg : decode (zbytes k) pc = .ok (.putfield i, 3)) (hf : zFLD.any (fun q => q.1 == zown k && q.2.1 == i && q.2.2.1 == x.toNat) = true) (hpc : is = is' → zpc is' = pc + 3)
    (h : zpf x is ls st σ = .inr (.inl (is', ls', st', σ'))) (kk : zWp ad D ca A xr p l e R s m args below meth c cells slots Q k (zpc is') ls' st' σ') : zWp ad D ca A xr p l e R s m args below meth c cells slots Q k pc ls st σ := by
  unfold zpf at h
  rcases st with _ | ⟨⟨tv, vv⟩, _ | ⟨⟨t2, a⟩, st⟩⟩
  · cases h
  · cases h
  · dsimp only at h
    by_cases h1 : t2 = 2 ∧ zokF x a (tv, vv) = true
    · rw [if_pos h1] at h
      obtain ⟨rfl, h2⟩ := h1
      obtain ⟨h3, rfl, rfl, rfl⟩ := zgo_inv h
      rw [hpc h3] at kk
      unfold zokF at h2
      simp only [Bool.and_eq_true, beq_iff_eq, decide_eq_true_eq] at h2
      obtain ⟨⟨h4, h5⟩, h6⟩ := h2
      obtain ⟨n, rfl, hn, hs⟩ := zshp_lt (zobj99 h4 h5)
      rw [hs] at h4 h5
      obtain ⟨hci, hN⟩ := zshp_obj hn h4
      rw [hN] at h5
      have hk := zfk_ok hci h5
      unfold zfkok at hk
      split at h6
      · rename_i e1
        rw [e1] at hk
        simp only [Bool.and_eq_true, decide_eq_true_eq, Bool.not_eq_true'] at hk
        simp only [beq_iff_eq] at h6
        subst h6
        exact zs_pf1 (v := (0, vv)) C hdg hf hn h4 h5 hk.2 hk.1 rfl rfl (fun row hr => by unfold zfv; rw [e1, hr]; rfl) kk
      · rename_i e1
        rw [e1] at hk
        simp only [Bool.and_eq_true, decide_eq_true_eq, Bool.not_eq_true'] at hk
        simp only [Bool.and_eq_true, Bool.or_eq_true, beq_iff_eq] at h6
        obtain ⟨rfl, h6⟩ := h6
        exact zs_pf1 (v := (0, vv)) C hdg hf hn h4 h5 hk.2 hk.1 (by rcases h6 with rfl | rfl <;> rfl) (by rcases h6 with rfl | rfl <;> rfl) (fun row hr => by unfold zfv; rw [e1, hr]; rfl) kk
      · rename_i e1
        rw [e1] at hk
        simp only [Bool.and_eq_true, decide_eq_true_eq, Bool.not_eq_true'] at hk
        simp only [beq_iff_eq] at h6
        subst h6
        exact zs_pf1 (v := (1, vv)) C hdg hf hn h4 h5 hk.2 hk.1 rfl rfl (fun row hr => by unfold zfv; rw [e1, hr]; rfl) kk
      · rename_i e1
        rw [e1] at hk
        simp only [Bool.and_eq_true, decide_eq_true_eq, Bool.not_eq_true'] at hk
        simp only [Bool.and_eq_true, beq_iff_eq, decide_eq_true_eq] at h6
        obtain ⟨rfl, h6⟩ := h6
        exact zs_pf1 (v := (2, vv)) C hdg hf hn h4 h5 hk.2 hk.1 rfl rfl (fun row hr => by unfold zfv; rw [e1, hr]; dsimp only; rw [if_pos h6]; rfl) kk
      · cases h6
    · rw [if_neg h1] at h; cases h
theorem zent_t {ad : Nat → Nat} {ca : Nat → ClassId} {row : Int → Int} {n t N : Nat} (ht : zSHP.getD n (99, 0) = (t, N)) : zent ad ca row n = zentT ad ca row n t N := by unfold zent; rw [ht]
theorem zidx {x : Int} {n : Nat} (h : 0 ≤ c32 x) (h2 : c32 x < n) (hn : n < 2147483648) : ∃ j : Nat, c32 x = j ∧ j < n ∧ (Int32.ofInt x).toNatClampNeg = j ∧ vp_in (Int32.ofInt x) n := by
  obtain ⟨j, h3, h4, h5, h6⟩ := z_c32 h h2 (by omega)
  refine ⟨j, h3, by omega, h5, ?_⟩
  unfold vp_in
  rw [h5]
  intro q
  rcases q with q | q
  · exact h6 q
  · omega
theorem zsh_small : ∀ n, n < 72 → (zSHP.getD n (99, 0)).2 < 2147483648 ∧ (zSHP.getD n (99, 0)).1 ≠ 99 := by decide +kernel
theorem zsh_arr {c i : Int} (h : 0 ≤ i ∧ i < (zshp c).2) : ∃ n : Nat, c = n ∧ n < 72 ∧ zshp c = zSHP.getD n (99, 0) := by
  apply zshp_lt
  intro q
  have : (zshp c).2 = 0 := by
    unfold zshp at q ⊢
    by_cases h0 : 0 ≤ c
    · rw [if_pos h0] at q ⊢
      by_cases h2 : c.toNat < 72
      · exact absurd q (zsh_small _ h2).2
      · rw [List.getD_eq_getElem?_getD, List.getElem?_eq_none (by simp [zSHP]; omega)]
        rfl
    · rw [if_neg h0]
  omega
end ZP
end
section
section ZA
variable {ad : Nat → Nat} {D : va_G} {ca : Nat → ClassId} {A : Nat → Prop} {xr : Int → Int} {p : Program} {l : Launch} {e : Env} {R : Room} {s : State} {m : MethodId} {args : Array Value} {below : List Frame} {meth : Method} {c : Code} {cells slots : Nat} {Q : State → Prop} {k pc : Nat} {is is' : List zCE} {ls ls' st st' : List zV} {σ σ' : zM}
theorem zb8 {x : Int} (h : -128 ≤ x) (h2 : x < 128) : (Int32.ofInt x).toInt8.toInt32 = Int32.ofInt x := by
  have h3 : (Int32.ofInt x).toInt = x := by rw [Int32.toInt_ofInt, show Int32.size = 4294967296 from rfl]; exact Int.bmod_eq_of_le (by omega) (by omega)
  apply Int32.toInt_inj.mp
  rw [Int8.toInt_toInt32, Int32.toInt_toInt8, h3]
  exact Int.bmod_eq_of_le (by omega) (by omega)
theorem zb1 {x : Int} (h : 0 ≤ x) (h2 : x < 2) : Int32.ofInt x &&& 1 = Int32.ofInt x := by
  rcases (show x = 0 ∨ x = 1 by omega) with rfl | rfl <;> rfl
/-- a load from a row -/
theorem zs_ald {t : Nat} {ins : Instr} (C : zCx ad D ca A xr p R s m args c k) (hins : (t = 0 ∧ ins = .iaload) ∨ (t = 1 ∧ ins = .laload) ∨ (t = 2 ∧ ins = .baload) ∨ (t = 3 ∧ ins = .aaload)) (hdg : decode (zbytes k) pc = .ok (ins, 1)) (hpc : is = is' → zpc is' = pc + 1)
    (h : zald k t is ls st σ = .inr (.inl (is', ls', st', σ'))) (kk : zWp ad D ca A xr p l e R s m args below meth c cells slots Q k (zpc is') ls' st' σ') : zWp ad D ca A xr p l e R s m args below meth c cells slots Q k pc ls st σ := by
  unfold zald at h
  rcases st with _ | ⟨⟨t1, i⟩, _ | ⟨⟨t2, a⟩, st⟩⟩
  · cases h
  · cases h
  · dsimp only at h
    by_cases h1 : t1 = 0 ∧ t2 = 2
    · rw [if_pos h1] at h
      obtain ⟨rfl, rfl⟩ := h1
      cases hr : zrdA k t a (c32 i) σ with
      | none => rw [hr] at h; cases h
      | some r =>
        rw [hr] at h
        obtain ⟨h3, rfl, rfl, rfl⟩ := zgo_inv h
        rw [hpc h3] at kk
        obtain ⟨hexec, hb, hml, hown, hts, -, hK, hA, hinj, -, -, hscr⟩ := C
        intro H locs M hxx hP hS hl
        have K := kk H locs M hxx hP hS hl
        unfold zrdA at hr
        by_cases hlaw : k = zLAW ∧ a = 72
        · rw [if_pos hlaw] at hr
          obtain ⟨hk, rfl⟩ := hlaw
          obtain ⟨L, hX, hbl, hbA, hxl, hL⟩ := hscr hk
          by_cases h4 : t = 0 ∧ 0 ≤ c32 i ∧ c32 i < σ 72 (-1)
          · rw [if_pos h4] at hr
            cases hr
            obtain ⟨rfl, h5, h6⟩ := h4
            rw [hxx, hxl] at h6
            obtain ⟨j, e1, e2, e3, e4⟩ := zidx h5 h6 (by omega)
            rcases hins with ⟨-, rfl⟩ | ⟨z, -⟩ | ⟨z, -⟩ | ⟨z, -⟩
            · refine va_sld (i := Int32.ofInt i) hexec hb hX hbl hbA hS e4 hdg ?_
              rw [e3]
              rw [hxx, e1] at K
              exact K
            · cases z
            · cases z
            · cases z
          · rw [if_neg h4] at hr; cases hr
        · rw [if_neg hlaw] at hr
          by_cases h4 : 0 ≤ c32 i ∧ c32 i < (zshp a).2
          · rw [if_pos h4] at hr
            obtain ⟨n, rfl, hn, hs⟩ := zsh_arr h4
            rw [hs] at h4 hr
            obtain ⟨j, e1, e2, e3, e4⟩ := zidx h4.1 h4.2 (zsh_small n hn).1
            have hent := zWS_get ad ca σ hn
            generalize hTN : zSHP.getD n (99, 0) = TN at hr e2 e4 h4
            obtain ⟨T, N⟩ := TN
            rw [zent_t hTN] at hent
            dsimp only at hr e2 e4 h4
            split at hr
            · cases hr
              rcases hins with ⟨-, rfl⟩ | ⟨z, -⟩ | ⟨z, -⟩ | ⟨z, -⟩
              · refine va_iald (i := Int32.ofInt i) hexec hb hK hP n 0 hent rfl e4 hdg ?_
                rw [e3]; rw [e1] at K; exact K
              · cases z
              · cases z
              · cases z
            · cases hr
              rcases hins with ⟨z, -⟩ | ⟨-, rfl⟩ | ⟨z, -⟩ | ⟨z, -⟩
              · cases z
              · refine va_lald (i := Int32.ofInt i) hexec hb hK hP n 1 hent rfl e4 hdg ?_
                rw [e3]; rw [e1] at K; exact K
              · cases z
              · cases z
            · by_cases h7 : -128 ≤ σ n (c32 i) ∧ σ n (c32 i) < 128
              · rw [if_pos h7] at hr
                cases hr
                rcases hins with ⟨z, -⟩ | ⟨z, -⟩ | ⟨-, rfl⟩ | ⟨z, -⟩
                · cases z
                · cases z
                · refine va_bald (i := Int32.ofInt i) hexec hb hK hP n 2 hent rfl e4 hdg ?_
                  rw [e3]; rw [e1] at K h7
                  rw [zb8 h7.1 h7.2]; exact K
                · cases z
              · rw [if_neg h7] at hr; cases hr
            · by_cases h7 : 0 ≤ σ n (c32 i) ∧ σ n (c32 i) < 2
              · rw [if_pos h7] at hr
                cases hr
                rcases hins with ⟨z, -⟩ | ⟨z, -⟩ | ⟨-, rfl⟩ | ⟨z, -⟩
                · cases z
                · cases z
                · refine va_zald (i := Int32.ofInt i) hexec hb hK hP n 3 hent rfl e4 hdg ?_
                  rw [e3]; rw [e1] at K h7
                  rw [zb1 h7.1 h7.2]; exact K
                · cases z
              · rw [if_neg h7] at hr; cases hr
            · cases hr
              rcases hins with ⟨z, -⟩ | ⟨z, -⟩ | ⟨z, -⟩ | ⟨-, rfl⟩
              · cases z
              · cases z
              · cases z
              · have hlt : j < N := e2
                refine W.aald (v := .ref (ad (zra n j))) (ty := .array .int) hexec hb (hP n _ hent) ((hK.2 4 _ rfl).1 N (fun q => va_rf (some (ad (zra n q))))) rfl (fun q => by cases q) (by show ¬ (Int32.ofInt i < 0 ∨ (arrV _ _ _).slots.size ≤ _); rw [arrV_size]; exact e4) (by show (arrV _ _ _).slots[_]? = _; rw [e3, arrV_read _ _ hlt]; rfl) rfl rfl hdg ?_
                rw [e1] at K
                simp only [Int.toNat_natCast] at K
                exact K
            · cases hr
              rcases hins with ⟨z, -⟩ | ⟨z, -⟩ | ⟨z, -⟩ | ⟨-, rfl⟩
              · cases z
              · cases z
              · cases z
              · refine va_aldq (i := Int32.ofInt i) hexec hb hK hP n 5 hent rfl e4 hdg ?_
                rw [e3]
                rw [e1] at K
                simp only [Int.toNat_natCast] at K
                exact K
            · cases hr
          · rw [if_neg h4] at hr; cases hr
    · rw [if_neg h1] at h; cases h
theorem zs_ast {t : Nat} {ins : Instr} (C : zCx ad D ca A xr p R s m args c k) (hins : (t = 0 ∧ ins = .iastore) ∨ (t = 1 ∧ ins = .lastore) ∨ (t = 2 ∧ ins = .bastore)) (hdg : decode (zbytes k) pc = .ok (ins, 1)) (hpc : is = is' → zpc is' = pc + 1)
    (h : zast t is ls st σ = .inr (.inl (is', ls', st', σ'))) (kk : zWp ad D ca A xr p l e R s m args below meth c cells slots Q k (zpc is') ls' st' σ') : zWp ad D ca A xr p l e R s m args below meth c cells slots Q k pc ls st σ := by
  unfold zast at h
  rcases st with _ | ⟨⟨t0, w⟩, _ | ⟨⟨t1, i⟩, _ | ⟨⟨t2, a⟩, st⟩⟩⟩
  · cases h
  · cases h
  · cases h
  · dsimp only at h
    by_cases h1 : t0 = (if t = 1 then 1 else 0) ∧ t1 = 0 ∧ t2 = 2 ∧ zokA t a (c32 i) = true
    · rw [if_pos h1] at h
      obtain ⟨h0, rfl, rfl, h2⟩ := h1
      obtain ⟨h3, rfl, rfl, rfl⟩ := zgo_inv h
      rw [hpc h3] at kk
      unfold zokA at h2
      simp only [Bool.and_eq_true, Bool.or_eq_true, beq_iff_eq, decide_eq_true_eq] at h2
      obtain ⟨⟨h4, h5⟩, h6⟩ := h2
      obtain ⟨hexec, hb, hml, hown, hts, -, hK, hA, hinj, -⟩ := C
      intro H locs M hxx hP hS hl
      obtain ⟨n, rfl, hn, hs⟩ := zsh_arr ⟨h4, h5⟩
      rw [hs] at h5 h6
      obtain ⟨j, e1, e2, e3, e4⟩ := zidx h4 h5 (zsh_small n hn).1
      have hent := zWS_get ad ca σ hn
      generalize hTN : zSHP.getD n (99, 0) = TN at h6 e2 e4 h5
      obtain ⟨T, N⟩ := TN
      rw [zent_t hTN] at hent
      dsimp only at h6 e2 e4 h5
      rw [e1] at kk
      have hfin : ∀ H1 locs1, va_P D vwCl ((zWS ad ca σ).set n (ad n, zent ad ca (zU σ n j w n) n)) H1 → va_S A s.heap H1 locs1 → W p l e R s m args below meth c H1 locs1 cells slots Q (F0 m (pc + 1) M (st.map (zenc ad))) := by
        intro H1 locs1 hP1 hS1
        rw [zWS_set ad ca σ (zU σ n j w) hn (fun q hq => zrow_upd (by omega))] at hP1
        exact kk H1 locs1 M (by rw [zrow72 hn]; exact hxx) hP1 hS1 hl
      rw [zent_t hTN] at hfin
      rcases h6 with (⟨rfl, rfl⟩ | ⟨rfl, rfl⟩) | ⟨rfl, h6⟩
      · rcases hins with ⟨-, rfl⟩ | ⟨z, -⟩ | ⟨z, -⟩
        · subst h0
          refine va_iast (i := Int32.ofInt i) (x := Int32.ofInt w) hexec hb hK hP (zD_of hA hinj) hS n 0 hent rfl e4 hdg (fun H1 locs1 hP1 hD1 hS1 => hfin H1 locs1 ?_ hS1)
          rw [e3] at hP1
          have : (fun q : Nat => Int32.ofInt (zU σ n j w n q)) = upd (fun q : Nat => Int32.ofInt (σ n q)) j (Int32.ofInt w) := by
            funext q
            unfold zU upd
            by_cases hq : q = j
            · subst hq; rw [if_pos ⟨rfl, rfl⟩, if_pos rfl]
            · rw [if_neg (fun z => hq (by omega)), if_neg hq]
          unfold zentT
          rw [this]
          exact hP1
        · cases z
        · cases z
      · rcases hins with ⟨z, -⟩ | ⟨-, rfl⟩ | ⟨z, -⟩
        · cases z
        · subst h0
          refine va_last (i := Int32.ofInt i) (x := Int64.ofInt w) hexec hb hK hP (zD_of hA hinj) hS n 1 hent rfl e4 hdg (fun H1 locs1 hP1 hD1 hS1 => hfin H1 locs1 ?_ hS1)
          rw [e3] at hP1
          have : (fun q : Nat => Int64.ofInt (zU σ n j w n q)) = vp_updL (fun q : Nat => Int64.ofInt (σ n q)) j (Int64.ofInt w) := by
            funext q
            unfold zU vp_updL
            by_cases hq : q = j
            · subst hq; rw [if_pos ⟨rfl, rfl⟩, if_pos rfl]
            · rw [if_neg (fun z => hq (by omega)), if_neg hq]
          unfold zentT
          rw [this]
          exact hP1
        · cases z
      · rcases hins with ⟨z, -⟩ | ⟨z, -⟩ | ⟨-, rfl⟩
        · cases z
        · cases z
        · subst h0
          rcases h6 with rfl | rfl
          · refine va_bast (i := Int32.ofInt i) (x := Int32.ofInt w) hexec hb hK hP (zD_of hA hinj) hS n 2 hent rfl e4 hdg (fun H1 locs1 hP1 hD1 hS1 => hfin H1 locs1 ?_ hS1)
            rw [e3] at hP1
            have : (fun q : Nat => (Int32.ofInt (zU σ n j w n q)).toInt8.toInt32) = upd (fun q : Nat => (Int32.ofInt (σ n q)).toInt8.toInt32) j (vp_nar .byte (Int32.ofInt w)) := by
              funext q
              unfold zU upd
              by_cases hq : q = j
              · subst hq; rw [if_pos ⟨rfl, rfl⟩, if_pos rfl]; rfl
              · rw [if_neg (fun z => hq (by omega)), if_neg hq]
            unfold zentT
            rw [this]
            exact hP1
          · refine va_zast (i := Int32.ofInt i) (x := Int32.ofInt w) hexec hb hK hP (zD_of hA hinj) hS n 3 hent rfl e4 hdg (fun H1 locs1 hP1 hD1 hS1 => hfin H1 locs1 ?_ hS1)
            rw [e3] at hP1
            have : (fun q : Nat => Int32.ofInt (zU σ n j w n q) &&& 1) = upd (fun q : Nat => Int32.ofInt (σ n q) &&& 1) j (vp_nar .boolean (Int32.ofInt w)) := by
              funext q
              unfold zU upd
              by_cases hq : q = j
              · subst hq; rw [if_pos ⟨rfl, rfl⟩, if_pos rfl]; rfl
              · rw [if_neg (fun z => hq (by omega)), if_neg hq]
            unfold zentT
            rw [this]
            exact hP1
    · rw [if_neg h1] at h; cases h
theorem zs_aln (C : zCx ad D ca A xr p R s m args c k) (hdg : decode (zbytes k) pc = .ok (.arraylength, 1)) (hpc : is = is' → zpc is' = pc + 1)
    (h : zaln k is ls st σ = .inr (.inl (is', ls', st', σ'))) (kk : zWp ad D ca A xr p l e R s m args below meth c cells slots Q k (zpc is') ls' st' σ') : zWp ad D ca A xr p l e R s m args below meth c cells slots Q k pc ls st σ := by
  unfold zaln at h
  rcases st with _ | ⟨⟨t2, a⟩, st⟩
  · cases h
  · dsimp only at h
    by_cases h1 : t2 = 2
    · rw [if_pos h1] at h
      subst h1
      obtain ⟨hexec, hb, hml, hown, hts, -, hK, hA, hinj, -, -, hscr⟩ := C
      by_cases hlaw : k = zLAW ∧ a = 72
      · rw [if_pos hlaw] at h
        obtain ⟨hk, rfl⟩ := hlaw
        obtain ⟨h3, rfl, rfl, rfl⟩ := zgo_inv h
        rw [hpc h3] at kk
        intro H locs M hxx hP hS hl
        have K := kk H locs M hxx hP hS hl
        obtain ⟨L, hX, hbl, hbA, hxl, hL⟩ := hscr hk
        refine va_slen hexec hb hX hbl hbA hS hdg ?_
        rw [hxx, hxl] at K
        exact K
      · rw [if_neg hlaw] at h
        by_cases h4 : (zshp a).1 < 6
        · rw [if_pos h4] at h
          obtain ⟨h3, rfl, rfl, rfl⟩ := zgo_inv h
          rw [hpc h3] at kk
          intro H locs M hxx hP hS hl
          have K := kk H locs M hxx hP hS hl
          obtain ⟨n, rfl, hn, hs⟩ := zshp_lt (c := a) (by omega)
          rw [hs] at h4 K
          have hent := zWS_get ad ca σ hn
          generalize hTN : zSHP.getD n (99, 0) = TN at h4 K
          obtain ⟨T, N⟩ := TN
          rw [zent_t hTN] at hent
          dsimp only at h4 K
          rcases (show T = 0 ∨ T = 1 ∨ T = 2 ∨ T = 3 ∨ T = 4 ∨ T = 5 by omega) with rfl | rfl | rfl | rfl | rfl | rfl
          · exact va_alen hexec hb hK hP n 0 hent rfl (v := Int32.ofInt N) rfl hdg K
          · exact va_alen hexec hb hK hP n 1 hent rfl (v := Int32.ofInt N) rfl hdg K
          · exact va_alen hexec hb hK hP n 2 hent rfl (v := Int32.ofInt N) rfl hdg K
          · exact va_alen hexec hb hK hP n 3 hent rfl (v := Int32.ofInt N) rfl hdg K
          · exact va_alen hexec hb hK hP n 4 hent rfl (v := Int32.ofInt N) rfl hdg K
          · exact va_alen hexec hb hK hP n 5 hent rfl (v := Int32.ofInt N) rfl hdg K
        · rw [if_neg h4] at h; cases h
    · rw [if_neg h1] at h; cases h
end ZA
end
section
theorem zcat_sum {ad : Nat → Nat} : ∀ (st : List zV), st.length ≤ 4 → ((st.map (zenc ad)).map fun v => v.category).sum ≤ 8 := by
  have key : ∀ (st : List zV), ((st.map (zenc ad)).map fun v => v.category).sum ≤ 2 * st.length := by
    intro st
    induction st with
    | nil => simp
    | cons a t ih =>
      simp only [List.map_cons, List.sum_cons, List.length_cons]
      have : (zenc ad a).category ≤ 2 := by rcases lv_cat (zenc ad a) with h | h <;> omega
      omega
  intro st h
  have := key st
  omega
theorem zcall4 {q : Nat × Nat × Nat × Nat × Nat × Nat × Nat × Nat} (hq : q ∈ zCALL) : ∀ w ∈ zkw q, w ∈ lw_tbl := by
  have h := List.all_eq_true.mp zCALL_ok q hq
  unfold zkwok at h
  simp only [Bool.and_eq_true, decide_eq_true_eq] at h
  intro w hw
  have h3 : some w ∈ (zkw q).map some := List.mem_map.mpr ⟨w, hw, rfl⟩
  rw [← h.1] at h3
  simp only [List.mem_cons, List.not_mem_nil, or_false] at h3
  rcases h3 with h3 | h3 | h3 | h3
  · exact List.mem_of_getElem? h3.symm
  · exact List.mem_of_getElem? h3.symm
  · exact List.mem_of_getElem? h3.symm
  · exact List.mem_of_getElem? h3.symm
theorem zcallk {q : Nat × Nat × Nat × Nat × Nat × Nat × Nat × Nat} (hq : q ∈ zCALL) : q.2.2.1 = 3 ∨ (zstat q.2.2.2.1 = !(q.2.2.1 == 0) ∧ q.2.2.2.1 < zNM ∧ q.2.2.2.1 ≠ zLAW) := by
  have h := List.all_eq_true.mp zCALL_ok q hq
  unfold zkwok at h
  simp only [Bool.and_eq_true, Bool.or_eq_true, decide_eq_true_eq, beq_iff_eq, Bool.not_eq_true', beq_eq_false_iff_ne, ne_eq] at h
  rcases h.2 with h | ⟨⟨h1, h2⟩, h3⟩
  · exact Or.inl h
  · exact Or.inr ⟨h1, h2, h3⟩
theorem z_c0 {x : Int} (h : 0 ≤ c32 x) : ∃ j : Nat, c32 x = j ∧ True ∧ (Int32.ofInt x).toNatClampNeg = j ∧ ¬ Int32.ofInt x < 0 := by
  refine ⟨(c32 x).toNat, by omega, trivial, rfl, ?_⟩
  rw [Int32.lt_iff_toInt_lt]
  exact Int.not_lt.mpr h
section ZC
variable {ad : Nat → Nat} {D : va_G} {ca : Nat → ClassId} {A : Nat → Prop} {xr : Int → Int} {p : Program} {l : Launch} {e : Env} {R : Room} {s : State} {m : MethodId} {args : Array Value} {below : List Frame} {meth : Method} {c : Code} {cells slots : Nat} {Q : State → Prop} {k pc : Nat} {is is' : List zCE} {ls ls' st st' : List zV} {σ σ' : zM}
theorem zs_cpy {i : Nat} (C : zCx ad D ca A xr p R s m args c k) (hdg : decode (zbytes k) pc = .ok (.invokestatic i, 3)) (hlv : 1 ≤ zlvl k) (hq : zCALL.any (fun q => q.1 == zown k && q.2.1 == i && q.2.2.1 == 3) = true) (hpc : is = is' → zpc is' = pc + 3)
    (h : zcpy is ls st σ = .inr (.inl (is', ls', st', σ'))) (kk : zWp ad D ca A xr p l e R s m args below meth c cells slots Q k (zpc is') ls' st' σ') : zWp ad D ca A xr p l e R s m args below meth c cells slots Q k pc ls st σ := by
  unfold zcpy at h
  rcases st with _ | ⟨⟨t0, n⟩, _ | ⟨⟨t1, dp⟩, _ | ⟨⟨t2, d⟩, _ | ⟨⟨t3, sp⟩, _ | ⟨⟨t4, a⟩, st⟩⟩⟩⟩⟩
  · cases h
  · cases h
  · cases h
  · cases h
  · cases h
  · dsimp only at h
    split at h
    · rename_i h1
      obtain ⟨rfl, rfl, rfl, rfl, rfl, hst, hty, ht2, hn0, hdp0, hsp0, hsa, hda⟩ := h1
      obtain ⟨h3, rfl, rfl, rfl⟩ := zgo_inv h
      rw [hpc h3] at kk
      obtain ⟨q, hqm, hq1⟩ := List.any_eq_true.mp hq
      simp only [Bool.and_eq_true, beq_iff_eq] at hq1
      obtain ⟨⟨hq1, hq2⟩, hq3⟩ := hq1
      have hw := zcall4 hqm
      unfold zkw at hw
      rw [hq3] at hw
      simp only [List.mem_cons, List.not_mem_nil, or_false, forall_eq_or_imp, forall_eq] at hw
      obtain ⟨w1, w2, w3, w4⟩ := hw
      rw [hq1, hq2] at w1
      obtain ⟨hexec, hb, hml, hown, hts, -, hK, hA, hinj, hfr, hlo, -⟩ := C
      have w1 := hts _ (zgood w1 rfl)
      have w2 := hts _ (zgood w2 rfl)
      have w3 := hts _ (zgood w3 rfl)
      have w4 := hts _ (zgood w4 rfl)
      intro H locs M hxx hP hS hl
      obtain ⟨na, rfl, hna, hsA⟩ := zshp_lt (c := a) (by omega)
      obtain ⟨nd, rfl, hnd, hsD⟩ := zshp_lt (c := d) (by omega)
      rw [hsA] at hty hsa
      rw [hsD] at hty ht2 hda
      have sma := zsh_small na hna
      have smd := zsh_small nd hnd
      obtain ⟨jn, en1, en2, en3, en4⟩ := z_c0 hn0
      obtain ⟨jd, ed1, ed2, ed3, ed4⟩ := z_c0 hdp0
      obtain ⟨js, es1, es2, es3, es4⟩ := z_c0 hsp0
      rw [en1, ed1, es1] at kk
      rw [en1, es1] at hsa
      rw [en1, ed1] at hda
      have hentA := zWS_get ad ca σ hna
      have hentD := zWS_get ad ca σ hnd
      have hfin : ∀ H1 locs1, va_P D vwCl ((zWS ad ca σ).set nd (ad nd, zent ad ca (zCpy σ na js nd jd jn nd) nd)) H1 → va_S A s.heap H1 locs1 → W p l e R s m args below meth c H1 locs1 cells slots Q (F0 m (pc + 3) M (st.map (zenc ad))) := by
        intro H1 locs1 hP1 hS1
        rw [zWS_set ad ca σ (zCpy σ na js nd jd jn) hnd (fun q hq => by funext z; unfold zCpy; rw [if_neg (fun w => hq (by omega))])] at hP1
        refine kk H1 locs1 M ?_ hP1 hS1 hl
        rw [← hxx]
        funext z
        unfold zCpy
        rw [if_neg (fun w => by omega)]
      generalize hTA : zSHP.getD na (99, 0) = TA at hty hsa sma
      generalize hTD : zSHP.getD nd (99, 0) = TD at hty ht2 hda smd
      obtain ⟨Ta, Na⟩ := TA
      obtain ⟨Td, Nd⟩ := TD
      rw [zent_t hTA] at hentA
      rw [zent_t hTD] at hentD hfin
      dsimp only at hty ht2 hsa hda
      subst hty
      have hrest := zcat_sum (ad := ad) st hst
      have hloc : ((st.map (zenc ad)).map fun v => v.category).sum + (nativeFrameWords "java/lang/System" "arraycopy" 5 + 11) ≤ R.locals := by
        have : nativeFrameWords "java/lang/System" "arraycopy" 5 = 7 := by decide +kernel
        omega
      rcases (show Ta = 0 ∨ Ta = 1 by omega) with rfl | rfl
      · refine va_copyi (sp := Int32.ofInt sp) (dp := Int32.ofInt dp) (n := Int32.ofInt n) hexec hb (hml.trans hl.1.symm) hown w1 w2 w3 w4 hK hP (zD_of hA hinj) hS na nd 0 0 hentA hentD rfl rfl rfl es4 ed4 en4 (by rw [es3, en3]; omega) (by rw [ed3, en3]; omega) (fun _ _ => rfl) (by omega) hloc hdg (fun H1 locs1 hP1 hD1 hS1 => hfin H1 locs1 ?_ hS1)
        rw [es3, ed3, en3] at hP1
        have : (fun q : Nat => Int32.ofInt (zCpy σ na js nd jd jn nd q)) = va_cpy (fun q : Nat => Int32.ofInt (σ na q)) (fun q : Nat => Int32.ofInt (σ nd q)) js jd jn := by
          funext q
          unfold zCpy va_cpy
          by_cases hq : jd ≤ q ∧ q < jd + jn
          · rw [if_pos ⟨rfl, by omega⟩, if_pos hq]
            congr 2
            omega
          · rw [if_neg (fun z => hq (by omega)), if_neg hq]
        unfold zentT
        rw [this]
        exact hP1
      · refine va_copyl (sp := Int32.ofInt sp) (dp := Int32.ofInt dp) (n := Int32.ofInt n) hexec hb (hml.trans hl.1.symm) hown w1 w2 w3 w4 hK hP (zD_of hA hinj) hS na nd 1 1 hentA hentD rfl rfl rfl es4 ed4 en4 (by rw [es3, en3]; omega) (by rw [ed3, en3]; omega) (fun _ _ => rfl) (by omega) hloc hdg (fun H1 locs1 hP1 hD1 hS1 => hfin H1 locs1 ?_ hS1)
        rw [es3, ed3, en3] at hP1
        have : (fun q : Nat => Int64.ofInt (zCpy σ na js nd jd jn nd q)) = va_cpy (fun q : Nat => Int64.ofInt (σ na q)) (fun q : Nat => Int64.ofInt (σ nd q)) js jd jn := by
          funext q
          unfold zCpy va_cpy
          by_cases hq : jd ≤ q ∧ q < jd + jn
          · rw [if_pos ⟨rfl, by omega⟩, if_pos hq]
            congr 2
            omega
          · rw [if_neg (fun z => hq (by omega)), if_neg hq]
        unfold zentT
        rw [this]
        exact hP1
    · cases h
end ZC
end
section
theorem zof32 (y : Int32) : Int32.ofInt y.toInt = y := Int32.ofInt_toInt y
theorem zof64 (y : Int64) : Int64.ofInt y.toInt = y := Int64.ofInt_toInt y
theorem zi2l (a : Int) : (Int32.ofInt a).toInt64 = Int64.ofInt (c32 a) := by
  apply Int64.toInt_inj.mp
  have h1 := Int32.le_toInt (Int32.ofInt a)
  have h2 := Int32.toInt_lt (Int32.ofInt a)
  rw [Int32.toInt_toInt64, Int64.toInt_ofInt, show Int64.size = 18446744073709551616 from rfl]
  unfold c32
  exact (Int.bmod_eq_of_le (by omega) (by omega)).symm
theorem zl2i (a : Int) : (Int64.ofInt a).toInt32 = Int32.ofInt (l2I a) := Int64.toInt32_ofInt
section ZM
variable {ad : Nat → Nat} {D : va_G} {ca : Nat → ClassId} {A : Nat → Prop} {xr : Int → Int} {p : Program} {l : Launch} {e : Env} {R : Room} {s : State} {m : MethodId} {args : Array Value} {below : List Frame} {meth : Method} {c : Code} {cells slots : Nat} {Q : State → Prop} {k pc : Nat} {is is' : List zCE} {ls ls' st st' : List zV} {σ σ' : zM}
theorem zcst32 {own i : Nat} {x : Int} (h : zCST.any (fun q => q.1 == own && q.2.1 == i && q.2.2.1 == 32 && q.2.2.2.1 == x) = true) : Jvm.Cond.constant (zcn own) i (Int32.ofInt x) ∈ zW := by
  obtain ⟨q, hq, h1⟩ := List.any_eq_true.mp h
  simp only [Bool.and_eq_true, beq_iff_eq] at h1
  obtain ⟨⟨⟨h1, h2⟩, h3⟩, h4⟩ := h1
  have h5 := List.all_eq_true.mp zCST_ok q hq
  unfold zcwok at h5
  have h6 := List.mem_of_getElem? (of_decide_eq_true h5)
  unfold zcw at h6
  rw [h1, h2, h3, h4, if_pos rfl] at h6
  exact zgood h6 rfl
theorem zcst64 {own i : Nat} {x : Int} (h : zCST.any (fun q => q.1 == own && q.2.1 == i && q.2.2.1 == 64 && q.2.2.2.1 == x) = true) : Jvm.Cond.constantLong (zcn own) i (Int64.ofInt x) ∈ zW := by
  obtain ⟨q, hq, h1⟩ := List.any_eq_true.mp h
  simp only [Bool.and_eq_true, beq_iff_eq] at h1
  obtain ⟨⟨⟨h1, h2⟩, h3⟩, h4⟩ := h1
  have h5 := List.all_eq_true.mp zCST_ok q hq
  unfold zcwok at h5
  have h6 := List.mem_of_getElem? (of_decide_eq_true h5)
  unfold zcw at h6
  rw [h1, h2, h3, h4, if_neg (by decide)] at h6
  exact zgood h6 rfl
set_option maxHeartbeats 4000000 in
theorem z_step {len : Nat} {x : Int} {ins : Instr} (C : zCx ad D ca A xr p R s m args c k) (hD : zokD (zbytes k) (zown k) (zlvl k) (zret k) (pc, len, x, ins) = true) (hpc0 : is = [] ∨ zpc is = pc + len) (hlen : ls.length = zmaxl k) (hne : is' ≠ [])
    (h : nx k pc x is ls st σ ins = .inr (.inl (is', ls', st', σ'))) (kk : zWp ad D ca A xr p l e R s m args below meth c cells slots Q k (zpc is') ls' st' σ') : zWp ad D ca A xr p l e R s m args below meth c cells slots Q k pc ls st σ := by
  unfold zokD at hD
  simp only [Bool.and_eq_true, decide_eq_true_eq] at hD
  obtain ⟨hd, hE⟩ := hD
  have hx : p.tables.exec = Jvm.exec := C.1
  have hb : c.code = zbytes k := C.2.1
  have hown := C.2.2.2.1
  have hts := C.2.2.2.2.1
  have hpc : ∀ n, len = n → is = is' → zpc is' = pc + n := by
    intro n hn hi
    subst hn; subst hi
    rcases hpc0 with h0 | h0
    · exact absurd h0 hne
    · exact h0
  unfold nx at h
  split at h
  case h_1 => 
    simp only [zokE, Bool.and_eq_true, beq_iff_eq, decide_eq_true_eq] at hE
    obtain ⟨rfl, hE⟩ := hE
    exact zs_const (fun H locs M rest K => lv_iconst hx hb hd hE K) (hpc 1 rfl) h kk
  case h_2 =>
    simp only [zokE, Bool.and_eq_true, beq_iff_eq, decide_eq_true_eq] at hE
    obtain ⟨rfl, hE⟩ := hE
    exact zs_const (fun H locs M rest K => lv_bipush hx hb hd hE K) (hpc 2 rfl) h kk
  case h_3 =>
    simp only [zokE, Bool.and_eq_true, beq_iff_eq, decide_eq_true_eq] at hE
    obtain ⟨rfl, hE⟩ := hE
    exact zs_const (fun H locs M rest K => lv_sipush hx hb hd hE K) (hpc 3 rfl) h kk
  case h_4 =>
    simp only [zokE, Bool.and_eq_true, beq_iff_eq] at hE
    obtain ⟨rfl, hE⟩ := hE
    exact zs_const (fun H locs M rest K => lv_ldcw hx hb hown (hts _ (zcst32 (by simpa using hE))) hd K) (hpc 3 rfl) h kk
  case h_5 =>
    simp only [zokE, Bool.and_eq_true, beq_iff_eq, decide_eq_true_eq] at hE
    obtain ⟨rfl, hE⟩ := hE
    exact zs_const (fun H locs M rest K => lv_lconst hx hb hd hE K) (hpc 1 rfl) h kk
  case h_6 =>
    simp only [zokE, Bool.and_eq_true, beq_iff_eq] at hE
    obtain ⟨rfl, hE⟩ := hE
    exact zs_const (fun H locs M rest K => lv_ldc2 hx hb hown (hts _ (zcst64 (by simpa using hE))) hd K) (hpc 3 rfl) h kk
  case h_7 =>
    simp only [zokE, beq_iff_eq] at hE
    subst hE
    exact zs_ld (by omega) (fun H locs M rest v hv hM K => by obtain ⟨t, a⟩ := v; cases hv; exact lv_iload_n hx hb hd rfl hM K) (hpc 1 rfl) h kk
  case h_8 =>
    simp only [zokE, beq_iff_eq] at hE
    subst hE
    exact zs_ld (by omega) (fun H locs M rest v hv hM K => by obtain ⟨t, a⟩ := v; cases hv; exact lv_iload hx hb hd hM K) (hpc 2 rfl) h kk
  case h_9 =>
    simp only [zokE, beq_iff_eq] at hE
    subst hE
    exact zs_ld (by omega) (fun H locs M rest v hv hM K => by obtain ⟨t, a⟩ := v; cases hv; exact lv_lload_n hx hb hd rfl hM K) (hpc 1 rfl) h kk
  case h_10 =>
    simp only [zokE, beq_iff_eq] at hE
    subst hE
    exact zs_ld (by omega) (fun H locs M rest v hv hM K => by obtain ⟨t, a⟩ := v; cases hv; exact lv_lload hx hb hd hM K) (hpc 2 rfl) h kk
  case h_11 =>
    simp only [zokE, beq_iff_eq] at hE
    subst hE
    exact zs_ld (by omega) (fun H locs M rest v hv hM K => by obtain ⟨t, a⟩ := v; cases hv; exact lv_aload_n hx hb hd rfl hM K) (hpc 1 rfl) h kk
  case h_12 =>
    simp only [zokE, beq_iff_eq] at hE
    subst hE
    exact zs_ld (by omega) (fun H locs M rest v hv hM K => by obtain ⟨t, a⟩ := v; cases hv; exact lv_aload hx hb hd hM K) (hpc 2 rfl) h kk
  case h_13 =>
    simp only [zokE, beq_iff_eq] at hE
    subst hE
    exact zs_st (fun H locs M rest v hv hn hl K => by obtain ⟨t, a⟩ := v; cases hv; exact lv_istore_n hx hb hd rfl hl (by simpa using hn) rfl (fun M1 hl1 => K M1 (zst1 (v := (0, a)) Nat.zero_ne_one hl1))) hlen (hpc 1 rfl) h kk
  case h_14 =>
    simp only [zokE, beq_iff_eq] at hE
    subst hE
    exact zs_st (fun H locs M rest v hv hn hl K => by obtain ⟨t, a⟩ := v; cases hv; exact lv_istore hx hb hd hl (by simpa using hn) rfl (fun M1 hl1 => K M1 (zst1 (v := (0, a)) Nat.zero_ne_one hl1))) hlen (hpc 2 rfl) h kk
  case h_15 =>
    simp only [zokE, beq_iff_eq] at hE
    subst hE
    exact zs_st (fun H locs M rest v hv hn hl K => by obtain ⟨t, a⟩ := v; cases hv; exact lv_lstore_n hx hb hd rfl hl (by simpa using hn) rfl (fun M1 hl1 => K M1 (zst2 (v := (1, a)) rfl hl1))) hlen (hpc 1 rfl) h kk
  case h_16 =>
    simp only [zokE, beq_iff_eq] at hE
    subst hE
    exact zs_st (fun H locs M rest v hv hn hl K => by obtain ⟨t, a⟩ := v; cases hv; exact lv_lstore hx hb hd hl (by simpa using hn) rfl (fun M1 hl1 => K M1 (zst2 (v := (1, a)) rfl hl1))) hlen (hpc 2 rfl) h kk
  case h_17 =>
    simp only [zokE, beq_iff_eq] at hE
    subst hE
    exact zs_st (fun H locs M rest v hv hn hl K => by obtain ⟨t, a⟩ := v; cases hv; exact lv_astore_n hx hb hd rfl hl (by simpa using hn) rfl (fun M1 hl1 => K M1 (zst1 (v := (2, a)) (fun q : (2:Nat) = 1 => absurd q (by decide)) hl1))) hlen (hpc 1 rfl) h kk
  case h_18 =>
    simp only [zokE, beq_iff_eq] at hE
    subst hE
    exact zs_st (fun H locs M rest v hv hn hl K => by obtain ⟨t, a⟩ := v; cases hv; exact lv_astore hx hb hd hl (by simpa using hn) rfl (fun M1 hl1 => K M1 (zst1 (v := (2, a)) (fun q : (2:Nat) = 1 => absurd q (by decide)) hl1))) hlen (hpc 2 rfl) h kk
  case h_19 =>
    simp only [zokE, beq_iff_eq] at hE
    subst hE
    exact zs_iinc hx hb hd hlen (hpc 3 rfl) h kk
  case h_20 =>
    simp only [zokE, beq_iff_eq] at hE
    subst hE
    exact zs_dup hx hb hd (hpc 1 rfl) h kk
  case h_21 =>
    simp only [zokE, beq_iff_eq] at hE
    subst hE
    exact zs_dup2 hx hb hd (hpc 1 rfl) h kk
  case h_22 =>
    simp only [zokE, beq_iff_eq] at hE
    subst hE
    exact zs_bin (fun H locs M rest a b r hg K => by
      cases hg
      exact lv_iadd hx hb hd (by rw [← Int32.ofInt_add]; exact K)) (hpc 1 rfl) h kk
  case h_23 =>
    simp only [zokE, beq_iff_eq] at hE
    subst hE
    exact zs_bin (fun H locs M rest a b r hg K => by
      cases hg
      exact lv_isub hx hb hd (by rw [← Int32.ofInt_sub]; exact K)) (hpc 1 rfl) h kk
  case h_24 =>
    simp only [zokE, beq_iff_eq] at hE
    subst hE
    exact zs_bin (fun H locs M rest a b r hg K => by
      cases hg
      exact lv_imul hx hb hd (by rw [← Int32.ofInt_mul]; exact K)) (hpc 1 rfl) h kk
  case h_25 =>
    simp only [zokE, beq_iff_eq] at hE
    subst hE
    exact zs_bin (fun H locs M rest a b r hg K => by
      unfold iDiv at hg
      by_cases h0 : c32 b = 0
      · rw [if_pos h0] at hg; cases hg
      · rw [if_neg h0] at hg
        cases hg
        unfold zenc at K
        dsimp only at K
        rw [zof32] at K
        exact lv_idiv hx hb hd (fun q => h0 (by unfold c32; rw [q]; rfl)) K) (hpc 1 rfl) h kk
  case h_26 =>
    simp only [zokE, beq_iff_eq] at hE
    subst hE
    exact zs_bin (fun H locs M rest a b r hg K => by
      unfold iRem at hg
      by_cases h0 : c32 b = 0
      · rw [if_pos h0] at hg; cases hg
      · rw [if_neg h0] at hg
        cases hg
        unfold zenc at K
        dsimp only at K
        rw [zof32] at K
        exact lv_irem hx hb hd (fun q => h0 (by unfold c32; rw [q]; rfl)) K) (hpc 1 rfl) h kk
  case h_27 =>
    simp only [zokE, beq_iff_eq] at hE
    subst hE
    exact zs_bin (fun H locs M rest a b r hg K => by
      cases hg
      unfold zenc at K
      dsimp only at K
      unfold iAnd at K
      rw [zof32] at K
      exact lv_iand hx hb hd K) (hpc 1 rfl) h kk
  case h_28 =>
    simp only [zokE, beq_iff_eq] at hE
    subst hE
    exact zs_bin (fun H locs M rest a b r hg K => by
      cases hg
      unfold zenc at K
      dsimp only at K
      unfold iOr at K
      rw [zof32] at K
      exact lv_ior hx hb hd K) (hpc 1 rfl) h kk
  case h_29 =>
    simp only [zokE, beq_iff_eq] at hE
    subst hE
    exact zs_bin (fun H locs M rest a b r hg K => by
      cases hg
      unfold zenc at K
      dsimp only at K
      unfold iShl at K
      rw [zof32] at K
      exact lv_ishl hx hb hd K) (hpc 1 rfl) h kk
  case h_30 =>
    simp only [zokE, beq_iff_eq] at hE
    subst hE
    exact zs_bin (fun H locs M rest a b r hg K => by
      cases hg
      unfold zenc at K
      dsimp only at K
      unfold iShr at K
      rw [zof32] at K
      exact lv_ishr hx hb hd K) (hpc 1 rfl) h kk
  case h_31 =>
    simp only [zokE, beq_iff_eq] at hE
    subst hE
    exact zs_bin (fun H locs M rest a b r hg K => by
      cases hg
      unfold zenc at K
      dsimp only at K
      unfold iUsh at K
      rw [zof32] at K
      exact lv_iushr hx hb hd rfl K) (hpc 1 rfl) h kk
  case h_32 =>
    simp only [zokE, beq_iff_eq] at hE
    subst hE
    exact zs_bin (fun H locs M rest a b r hg K => by
      cases hg
      exact lv_ladd hx hb hd (by rw [← Int64.ofInt_add]; exact K)) (hpc 1 rfl) h kk
  case h_33 =>
    simp only [zokE, beq_iff_eq] at hE
    subst hE
    exact zs_bin (fun H locs M rest a b r hg K => by
      cases hg
      exact lv_lsub hx hb hd (by rw [← Int64.ofInt_sub]; exact K)) (hpc 1 rfl) h kk
  case h_34 =>
    simp only [zokE, beq_iff_eq] at hE
    subst hE
    exact zs_bin (fun H locs M rest a b r hg K => by
      cases hg
      exact lv_lmul hx hb hd (by rw [← Int64.ofInt_mul]; exact K)) (hpc 1 rfl) h kk
  case h_35 =>
    simp only [zokE, beq_iff_eq] at hE
    subst hE
    exact zs_bin (fun H locs M rest a b r hg K => by
      unfold lDiv at hg
      by_cases h0 : c64 b = 0
      · rw [if_pos h0] at hg; cases hg
      · rw [if_neg h0] at hg
        cases hg
        unfold zenc at K
        dsimp only at K
        rw [zof64] at K
        exact lv_ldiv hx hb hd (fun q => h0 (by unfold c64; rw [q]; rfl)) K) (hpc 1 rfl) h kk
  case h_36 =>
    simp only [zokE, beq_iff_eq] at hE
    subst hE
    exact zs_bin (fun H locs M rest a b r hg K => by
      unfold lRem at hg
      by_cases h0 : c64 b = 0
      · rw [if_pos h0] at hg; cases hg
      · rw [if_neg h0] at hg
        cases hg
        unfold zenc at K
        dsimp only at K
        rw [zof64] at K
        exact lv_lrem hx hb hd (fun q => h0 (by unfold c64; rw [q]; rfl)) K) (hpc 1 rfl) h kk
  case h_37 =>
    simp only [zokE, beq_iff_eq] at hE
    subst hE
    exact zs_bin (fun H locs M rest a b r hg K => by
      cases hg
      unfold zenc at K
      dsimp only at K
      unfold lAnd at K
      rw [zof64] at K
      exact lv_land hx hb hd K) (hpc 1 rfl) h kk
  case h_38 =>
    simp only [zokE, beq_iff_eq] at hE
    subst hE
    exact zs_bin (fun H locs M rest a b r hg K => by
      cases hg
      unfold zenc at K
      dsimp only at K
      unfold lOr at K
      rw [zof64] at K
      exact lv_lor hx hb hd K) (hpc 1 rfl) h kk
  case h_39 =>
    simp only [zokE, beq_iff_eq] at hE
    subst hE
    exact zs_bin (fun H locs M rest a b r hg K => by
      cases hg
      unfold zenc at K
      dsimp only at K
      unfold lShl at K
      rw [zof64] at K
      exact lv_lshl hx hb hd rfl K) (hpc 1 rfl) h kk
  case h_40 =>
    simp only [zokE, beq_iff_eq] at hE
    subst hE
    exact zs_bin (fun H locs M rest a b r hg K => by
      cases hg
      unfold zenc at K
      dsimp only at K
      unfold lCmp at K
      rw [zof32] at K
      exact W.lcmp hx hb hd K) (hpc 1 rfl) h kk
  case h_41 =>
    simp only [zokE, beq_iff_eq] at hE
    subst hE
    exact zs_un (fun H locs M rest a K => lv_ineg hx hb hd (by rw [← Int32.ofInt_neg]; exact K)) (hpc 1 rfl) h kk
  case h_42 =>
    simp only [zokE, beq_iff_eq] at hE
    subst hE
    exact zs_un (fun H locs M rest a K => lv_lneg hx hb hd (by rw [← Int64.ofInt_neg]; exact K)) (hpc 1 rfl) h kk
  case h_43 =>
    simp only [zokE, beq_iff_eq] at hE
    subst hE
    exact zs_un (fun H locs M rest a K => lv_i2l hx hb hd (zi2l a) K) (hpc 1 rfl) h kk
  case h_44 =>
    simp only [zokE, beq_iff_eq] at hE
    subst hE
    exact zs_un (fun H locs M rest a K => lv_l2i hx hb hd (zl2i a) K) (hpc 1 rfl) h kk
  case h_45 =>
    simp only [zokE, beq_iff_eq] at hE
    subst hE
    exact zs_un (fun H locs M rest a K => lv_i2b hx hb hd (by unfold i2B; rw [zof32]) K) (hpc 1 rfl) h kk
  case h_46 =>
    simp only [zokE, beq_iff_eq] at hE
    subst hE
    exact zs_un (fun H locs M rest a K => lv_i2s hx hb hd (by unfold i2S; rw [zof32]) K) (hpc 1 rfl) h kk
  case h_47 =>
    simp only [zokE, Bool.and_eq_true, beq_iff_eq, decide_eq_true_eq] at hE
    obtain ⟨⟨rfl, hE⟩, hE0⟩ := hE
    obtain ⟨h3, rfl, rfl, rfl⟩ := zgo_inv h
    intro H locs M hxx hP hS hl
    exact lv_goto hx hb hd (hE.trans (zjump_pc h3 hne).symm) (kk H locs M hxx hP hS hl)
  case h_48 =>
    simp only [zokE, Bool.and_eq_true, beq_iff_eq, decide_eq_true_eq] at hE
    obtain ⟨⟨rfl, hE⟩, hE0⟩ := hE
    exact zs_if hx hb hd hE hE0 hne (hpc 3 rfl) h kk
  case h_49 =>
    simp only [zokE, Bool.and_eq_true, beq_iff_eq, decide_eq_true_eq] at hE
    obtain ⟨⟨rfl, hE⟩, hE0⟩ := hE
    exact zs_icmp hx hb hd hE hE0 hne (hpc 3 rfl) h kk
  case h_50 =>
    exact zs_tab hx hb hd hne h kk
  case h_51 =>
    exact zs_look hx hb hd hE hne h kk
  case h_52 =>
    simp only [zokE, Bool.and_eq_true, beq_iff_eq, decide_eq_true_eq] at hE
    obtain ⟨⟨rfl, hE0⟩, hE⟩ := hE
    exact zs_gf C hd (by simpa using hE) (hpc 3 rfl) h kk
  case h_53 =>
    simp only [zokE, Bool.and_eq_true, beq_iff_eq, decide_eq_true_eq] at hE
    obtain ⟨⟨rfl, hE0⟩, hE⟩ := hE
    exact zs_pf C hd (by simpa using hE) (hpc 3 rfl) h kk
  case h_54 =>
    simp only [zokE, beq_iff_eq] at hE
    subst hE
    exact zs_ald C (by simp) hd (hpc 1 rfl) h kk
  case h_55 =>
    simp only [zokE, beq_iff_eq] at hE
    subst hE
    exact zs_ald C (by simp) hd (hpc 1 rfl) h kk
  case h_56 =>
    simp only [zokE, beq_iff_eq] at hE
    subst hE
    exact zs_ald C (by simp) hd (hpc 1 rfl) h kk
  case h_57 =>
    simp only [zokE, beq_iff_eq] at hE
    subst hE
    exact zs_ald C (by simp) hd (hpc 1 rfl) h kk
  case h_58 =>
    simp only [zokE, beq_iff_eq] at hE
    subst hE
    exact zs_ast C (by simp) hd (hpc 1 rfl) h kk
  case h_59 =>
    simp only [zokE, beq_iff_eq] at hE
    subst hE
    exact zs_ast C (by simp) hd (hpc 1 rfl) h kk
  case h_60 =>
    simp only [zokE, beq_iff_eq] at hE
    subst hE
    exact zs_ast C (by simp) hd (hpc 1 rfl) h kk
  case h_61 =>
    simp only [zokE, beq_iff_eq] at hE
    subst hE
    exact zs_aln C hd (hpc 1 rfl) h kk
  case h_62 =>
    unfold zinv at h
    split at h <;> cases h
  case h_63 =>
    split at h
    · rename_i h9
      simp only [zokE, Bool.and_eq_true, beq_iff_eq, decide_eq_true_eq] at hE
      obtain ⟨⟨rfl, hE0⟩, hE⟩ := hE
      rw [if_pos h9] at hE
      simp only [Bool.and_eq_true, decide_eq_true_eq] at hE
      exact zs_cpy C hd hE.1 (by simpa using hE.2) (hpc 3 rfl) h kk
    · unfold zinv at h
      split at h <;> cases h
  case h_64 =>
    unfold zireturn at h
    split at h
    · split at h <;> cases h
    · cases h
  case h_65 =>
    unfold zlreturn at h
    split at h
    · split at h <;> cases h
    · cases h
  case h_66 =>
    unfold zvreturn at h
    split at h <;> cases h
  case h_67 =>
    cases h
end ZM
end
section
set_option maxRecDepth 100000 in
set_option maxHeartbeats 4000000 in
theorem zokM_0 : zMT_0.all zokM = true := by decide +kernel
set_option maxRecDepth 100000 in
set_option maxHeartbeats 4000000 in
theorem zokM_1 : zMT_1.all zokM = true := by decide +kernel
set_option maxRecDepth 100000 in
set_option maxHeartbeats 4000000 in
theorem zokM_2 : zMT_2.all zokM = true := by decide +kernel
set_option maxRecDepth 100000 in
set_option maxHeartbeats 4000000 in
theorem zokM_3 : zMT_3.all zokM = true := by decide +kernel
set_option maxRecDepth 100000 in
set_option maxHeartbeats 4000000 in
theorem zokM_4 : zMT_4.all zokM = true := by decide +kernel
end
section
set_option maxRecDepth 100000 in
set_option maxHeartbeats 4000000 in
theorem zokM_5 : zMT_5.all zokM = true := by decide +kernel
set_option maxRecDepth 100000 in
set_option maxHeartbeats 4000000 in
theorem zokM_6 : zMT_6.all zokM = true := by decide +kernel
set_option maxRecDepth 100000 in
set_option maxHeartbeats 4000000 in
theorem zokM_7 : zMT_7.all zokM = true := by decide +kernel
set_option maxRecDepth 100000 in
set_option maxHeartbeats 4000000 in
theorem zokM_8 : zMT_8.all zokM = true := by decide +kernel
set_option maxRecDepth 100000 in
set_option maxHeartbeats 4000000 in
theorem zokM_9 : (zMT_9.take 13).all zokM = true := by decide +kernel
end
section
def zlawR : zMTr := zMT_9.getD 13 (⟨"", "", ""⟩, ⟨#[]⟩, 0, none, 0, true, 0, 0, 0, [])
def zlawD (lo n : Nat) : Bool := ((zlawR.2.2.2.2.2.2.2.2.2.drop lo).take n).all (zokD zlawR.2.1 zlawR.2.2.2.2.1 zlawR.2.2.2.2.2.2.1 zlawR.2.2.2.1)
set_option maxRecDepth 100000 in
set_option maxHeartbeats 4000000 in
theorem zlawC : zchain zlawR.2.2.2.2.2.2.2.2.2 = true := by decide +kernel
set_option maxRecDepth 100000 in
set_option maxHeartbeats 4000000 in
theorem zlawD_0 : zlawD 0 50 = true := by decide +kernel
set_option maxRecDepth 100000 in
set_option maxHeartbeats 4000000 in
theorem zlawD_1 : zlawD 50 50 = true := by decide +kernel
set_option maxRecDepth 100000 in
set_option maxHeartbeats 4000000 in
theorem zlawD_2 : zlawD 100 50 = true := by decide +kernel
set_option maxRecDepth 100000 in
set_option maxHeartbeats 4000000 in
theorem zlawD_3 : zlawD 150 50 = true := by decide +kernel
set_option maxRecDepth 100000 in
set_option maxHeartbeats 4000000 in
theorem zlawD_4 : zlawD 200 50 = true := by decide +kernel
set_option maxRecDepth 100000 in
set_option maxHeartbeats 4000000 in
theorem zlawD_5 : zlawD 250 50 = true := by decide +kernel
set_option maxRecDepth 100000 in
set_option maxHeartbeats 4000000 in
theorem zlawD_6 : zlawD 300 50 = true := by decide +kernel
set_option maxRecDepth 100000 in
set_option maxHeartbeats 4000000 in
theorem zlawD_7 : zlawD 350 50 = true := by decide +kernel
set_option maxRecDepth 100000 in
set_option maxHeartbeats 4000000 in
theorem zlawD_8 : zlawD 400 50 = true := by decide +kernel
set_option maxRecDepth 100000 in
set_option maxHeartbeats 4000000 in
theorem zlawD_9 : zlawD 450 50 = true := by decide +kernel
set_option maxRecDepth 100000 in
set_option maxHeartbeats 4000000 in
theorem zlawD_10 : zlawD 500 50 = true := by decide +kernel
set_option maxRecDepth 100000 in
set_option maxHeartbeats 4000000 in
theorem zlawD_11 : zlawD 550 50 = true := by decide +kernel
set_option maxRecDepth 100000 in
set_option maxHeartbeats 4000000 in
theorem zlawD_12 : zlawD 600 50 = true := by decide +kernel
set_option maxRecDepth 100000 in
set_option maxHeartbeats 4000000 in
theorem zlawD_13 : zlawD 650 50 = true := by decide +kernel
set_option maxRecDepth 100000 in
set_option maxHeartbeats 4000000 in
theorem zlawD_14 : zlawD 700 50 = true := by decide +kernel
set_option maxRecDepth 100000 in
set_option maxHeartbeats 4000000 in
theorem zlawD_15 : zlawD 750 50 = true := by decide +kernel
set_option maxRecDepth 100000 in
set_option maxHeartbeats 4000000 in
theorem zlawD_16 : zlawD 800 50 = true := by decide +kernel
set_option maxRecDepth 100000 in
set_option maxHeartbeats 4000000 in
theorem zlawD_17 : zlawD 850 50 = true := by decide +kernel
set_option maxRecDepth 100000 in
set_option maxHeartbeats 4000000 in
theorem zlawD_18 : zlawD 900 50 = true := by decide +kernel
set_option maxRecDepth 100000 in
set_option maxHeartbeats 4000000 in
theorem zlawD_19 : zlawD 950 50 = true := by decide +kernel
set_option maxRecDepth 100000 in
set_option maxHeartbeats 4000000 in
theorem zlawD_20 : zlawD 1000 50 = true := by decide +kernel
end
section
theorem zlaw_split (L : List zCE) (P : zCE → Bool) (h : ∀ q, q < 21 → ((L.drop (50 * q)).take 50).all P = true) (hl : L.length ≤ 1050) : L.all P = true := by
  rw [List.all_eq_true]
  intro e he
  obtain ⟨i, hi⟩ := List.getElem?_of_mem he
  have hlt := (List.getElem?_eq_some_iff.mp hi).1
  refine List.all_eq_true.mp (h (i / 50) (by omega)) e (List.mem_of_getElem? (i := i % 50) ?_)
  rw [List.getElem?_take, if_pos (by omega), List.getElem?_drop, show 50 * (i / 50) + i % 50 = i by omega]
  exact hi
theorem zlawAll : zokM zlawR = true := by
  unfold zokM
  rw [Bool.and_eq_true]
  refine ⟨zlaw_split _ _ ?_ (by decide +kernel), zlawC⟩
  intro q hq
  rcases (show q = 0 ∨ q = 1 ∨ q = 2 ∨ q = 3 ∨ q = 4 ∨ q = 5 ∨ q = 6 ∨ q = 7 ∨ q = 8 ∨ q = 9 ∨ q = 10 ∨ q = 11 ∨ q = 12 ∨ q = 13 ∨ q = 14 ∨ q = 15 ∨ q = 16 ∨ q = 17 ∨ q = 18 ∨ q = 19 ∨ q = 20 by omega) with rfl | rfl | rfl | rfl | rfl | rfl | rfl | rfl | rfl | rfl | rfl | rfl | rfl | rfl | rfl | rfl | rfl | rfl | rfl | rfl | rfl
  · exact zlawD_0
  · exact zlawD_1
  · exact zlawD_2
  · exact zlawD_3
  · exact zlawD_4
  · exact zlawD_5
  · exact zlawD_6
  · exact zlawD_7
  · exact zlawD_8
  · exact zlawD_9
  · exact zlawD_10
  · exact zlawD_11
  · exact zlawD_12
  · exact zlawD_13
  · exact zlawD_14
  · exact zlawD_15
  · exact zlawD_16
  · exact zlawD_17
  · exact zlawD_18
  · exact zlawD_19
  · exact zlawD_20
theorem zMTs : zMT = (zMT_0 ++ (zMT_1 ++ (zMT_2 ++ (zMT_3 ++ (zMT_4 ++ (zMT_5 ++ (zMT_6 ++ (zMT_7 ++ (zMT_8 ++ zMT_9.take 13))))))))) ++ [zlawR] := by
  rfl
theorem zokAll : ∀ r ∈ zMT, zokM r = true := by
  intro r h
  rw [zMTs] at h
  simp only [List.mem_append, List.mem_singleton] at h
  rcases h with (h | h | h | h | h | h | h | h | h | h) | h
  · exact List.all_eq_true.mp zokM_0 r h
  · exact List.all_eq_true.mp zokM_1 r h
  · exact List.all_eq_true.mp zokM_2 r h
  · exact List.all_eq_true.mp zokM_3 r h
  · exact List.all_eq_true.mp zokM_4 r h
  · exact List.all_eq_true.mp zokM_5 r h
  · exact List.all_eq_true.mp zokM_6 r h
  · exact List.all_eq_true.mp zokM_7 r h
  · exact List.all_eq_true.mp zokM_8 r h
  · exact List.all_eq_true.mp zokM_9 r h
  · rw [h]; exact zlawAll
theorem zCHK : ∀ k, (zcode k).all (zokD (zbytes k) (zown k) (zlvl k) (zret k)) = true ∧ zchain (zcode k) = true := by
  intro k
  by_cases h : k < zMT.length
  · have hm : zmt k ∈ zMT := by
      unfold zmt
      rw [List.getD_eq_getElem?_getD, List.getElem?_eq_getElem h]
      exact List.getElem_mem h
    have h1 := zokAll _ hm
    unfold zokM at h1
    rw [Bool.and_eq_true] at h1
    exact h1
  · have : zcode k = [] := by
      unfold zcode zmt
      rw [List.getD_eq_getElem?_getD, List.getElem?_eq_none (by omega)]
      rfl
    rw [this]
    exact ⟨rfl, rfl⟩
end
section
section ZI
variable {k pc : Nat} {x : Int} {is is' : List zCE} {ls ls' st st' : List zV} {σ σ' : zM} {ins : Instr}
theorem zok_shp {x c : Int} {v : zV} (h : zokF x c v = true) : ∃ n : Nat, c = n ∧ n < 72 := by
  unfold zokF at h
  simp only [Bool.and_eq_true, beq_iff_eq, decide_eq_true_eq] at h
  obtain ⟨n, h1, h2, -⟩ := zshp_lt (zobj99 h.1.1 h.1.2)
  exact ⟨n, h1, h2⟩
theorem zok_arr {t : Nat} {c i : Int} (h : zokA t c i = true) : ∃ n : Nat, c = n ∧ n < 72 := by
  unfold zokA at h
  simp only [Bool.and_eq_true, decide_eq_true_eq] at h
  obtain ⟨n, h1, h2, -⟩ := zsh_arr (c := c) (i := i) ⟨h.1.1, h.1.2⟩
  exact ⟨n, h1, h2⟩
theorem zast_inv {t : Nat} (h : zast t is ls st σ = .inr (.inl (is', ls', st', σ'))) : ls'.length = ls.length ∧ σ' 72 = σ 72 ∧ (is' = is ∨ ∃ y, is' = zjump k y) := by
  unfold zast at h
  rcases st with _ | ⟨⟨t0, w⟩, _ | ⟨⟨t1, i⟩, _ | ⟨⟨t2, a⟩, st⟩⟩⟩
  · cases h
  · cases h
  · cases h
  · dsimp only at h
    by_cases h1 : t0 = (if t = 1 then 1 else 0) ∧ t1 = 0 ∧ t2 = 2 ∧ zokA t a (c32 i) = true
    · rw [if_pos h1] at h
      obtain ⟨n, rfl, h11⟩ := zok_arr h1.2.2.2
      obtain ⟨rfl, rfl, rfl, rfl⟩ := zgo_inv h
      exact ⟨rfl, zrow72 h11, Or.inl rfl⟩
    · rw [if_neg h1] at h; cases h
theorem zpf_inv (h : zpf x is ls st σ = .inr (.inl (is', ls', st', σ'))) : ls'.length = ls.length ∧ σ' 72 = σ 72 ∧ (is' = is ∨ ∃ y, is' = zjump k y) := by
  unfold zpf at h
  rcases st with _ | ⟨⟨tv, vv⟩, _ | ⟨⟨t2, a⟩, st⟩⟩
  · cases h
  · cases h
  · dsimp only at h
    by_cases h1 : t2 = 2 ∧ zokF x a (tv, vv) = true
    · rw [if_pos h1] at h
      obtain ⟨n, rfl, h11⟩ := zok_shp h1.2
      obtain ⟨rfl, rfl, rfl, rfl⟩ := zgo_inv h
      exact ⟨rfl, zrow72 h11, Or.inl rfl⟩
    · rw [if_neg h1] at h; cases h
theorem zcpy_inv (h : zcpy is ls st σ = .inr (.inl (is', ls', st', σ'))) : ls'.length = ls.length ∧ σ' 72 = σ 72 ∧ (is' = is ∨ ∃ y, is' = zjump k y) := by
  unfold zcpy at h
  rcases st with _ | ⟨⟨t0, n⟩, _ | ⟨⟨t1, dp⟩, _ | ⟨⟨t2, d⟩, _ | ⟨⟨t3, sp⟩, _ | ⟨⟨t4, a⟩, st⟩⟩⟩⟩⟩
  · cases h
  · cases h
  · cases h
  · cases h
  · cases h
  · dsimp only at h
    split at h
    · rename_i h1
      obtain ⟨-, -, -, -, -, -, -, ht2, -⟩ := h1
      obtain ⟨nd, rfl, hnd, -⟩ := zshp_lt (c := d) (by omega)
      obtain ⟨rfl, rfl, rfl, rfl⟩ := zgo_inv h
      refine ⟨rfl, ?_, Or.inl rfl⟩
      funext z
      unfold zCpy
      rw [if_neg (fun w => by omega)]
    · cases h
set_option maxHeartbeats 4000000 in
theorem nx_inv (h : nx k pc x is ls st σ ins = .inr (.inl (is', ls', st', σ'))) : ls'.length = ls.length ∧ σ' 72 = σ 72 ∧ (is' = is ∨ ∃ y, is' = zjump k y) := by
  unfold nx at h
  split at h <;> try simp only [zld, zst, ziinc, zdup, zdup2, zbin, zun, zif, zicmp, ztab, zlook, zgf, zald, zaln, zinv, zireturn, zlreturn, zvreturn, zstuck] at h
  all_goals first
    | exact zast_inv h
    | exact zpf_inv h
    | skip
  all_goals (repeat' (split at h))
  all_goals first
    | (cases h; done)
    | exact zcpy_inv h
    | (obtain ⟨rfl, rfl, rfl, rfl⟩ := zgo_inv h; first
        | exact ⟨rfl, rfl, Or.inl rfl⟩
        | exact ⟨rfl, rfl, Or.inr ⟨_, rfl⟩⟩
        | exact ⟨zput_len _ _ _, rfl, Or.inl rfl⟩)
end ZI
def zOK (k : Nat) (code : List zCE) : Prop := ∃ pre, zcode k = pre ++ code
theorem zchain_app : ∀ (pre : List zCE) (e : zCE) (r : List zCE), zchain (pre ++ e :: r) = true → r = [] ∨ zpc r = e.1 + e.2.1
  | [], e, r, h => by
    cases r with
    | nil => exact Or.inl rfl
    | cons e2 r =>
      right
      simp only [List.nil_append, zchain, Bool.and_eq_true, beq_iff_eq] at h
      exact h.1
  | a :: pre, e, r, h => by
    rw [List.cons_append] at h
    unfold zchain at h
    rw [Bool.and_eq_true] at h
    exact zchain_app pre e r h.2
theorem zjump_ok (k : Nat) (y : Int) : zOK k (zjump k y) := by
  unfold zOK zjump
  exact ⟨(zcode k).takeWhile (fun e => decide ((e.1 : Int) ≠ y)), (List.takeWhile_append_dropWhile).symm⟩
theorem zOK_tail {k : Nat} {e : zCE} {r : List zCE} (h : zOK k (e :: r)) : zOK k r := by
  obtain ⟨pre, h⟩ := h
  exact ⟨pre ++ [e], by rw [h]; simp⟩
/-- row 72, the script, is never written -/
theorem ex_72 : ∀ (f k : Nat) (code : List zCE) (ls st : List zV) (σ : zM) (r : Option zV) (σ' : zM), ex f k code ls st σ = some (r, σ') → σ' 72 = σ 72
  | 0, _, _, _, _, _, _, _, h => by cases h
  | f + 1, _, [], _, _, _, _, _, h => by cases h
  | f + 1, k, (pc, len, x, ins) :: is, ls, st, σ, r, σ', h => by
    unfold ex at h
    split at h
    · rename_i r0 hn
      subst h
      unfold nx at hn
      split at hn <;> try simp only [zld, zst, ziinc, zdup, zdup2, zbin, zun, zif, zicmp, ztab, zlook, zgf, zpf, zast, zcpy, zald, zaln, zinv, zireturn, zlreturn, zvreturn, zstuck, zgo] at hn
      all_goals (repeat' (split at hn))
      all_goals first
        | (cases hn; done)
        | (simp only [Sum.inl.injEq, Option.some.injEq, Prod.mk.injEq] at hn; rw [← hn.2]; done)
        | (cases hn; rfl)
    · rename_i hn
      rw [ex_72 f k _ _ _ _ r σ' h]
      exact (nx_inv hn).2.1
    · rename_i k1 args1 st1 hn
      split at h
      · cases h
      · rename_i r1 σ1 h1
        rw [ex_72 f k _ _ _ _ r σ' h]
        exact ex_72 f _ _ _ _ _ r1 σ1 h1
end
section
theorem zok_at {k : Nat} {e : zCE} {r : List zCE} (h : zOK k (e :: r)) : zokD (zbytes k) (zown k) (zlvl k) (zret k) e = true ∧ (r = [] ∨ zpc r = e.1 + e.2.1) := by
  obtain ⟨pre, h⟩ := h
  have h1 := zCHK k
  rw [h] at h1
  exact ⟨List.all_eq_true.mp h1.1 e (by simp), zchain_app pre e r h1.2⟩
theorem zmt_mem {k : Nat} (h : k < zNM) : zmt k ∈ zMT := by
  unfold zmt
  rw [← zmt_len] at h
  rw [List.getD_eq_getElem?_getD, List.getElem?_eq_getElem h]
  exact List.getElem_mem h
theorem zmt_facts {k : Nat} (h : k < zNM) : plainName (zname k).cls = true ∧ (zname k).cls ≠ "java/lang/invoke/MethodHandle" ∧ (zname k).cls ≠ "java/lang/invoke/VarHandle" ∧ (parseMethodDescriptor (zname k).desc).map (fun d => d.parameters.length) = some (if zstat k then znar k else znar k - 1) ∧ zmaxl k ≤ 21 ∧ (zname k).cls = zcn (zown k) ∧ (zstat k = true ∨ 1 ≤ znar k) := by
  have h1 := List.all_eq_true.mp zmt_ok1 _ (zmt_mem h)
  unfold zmtok at h1
  simp only [Bool.and_eq_true, Bool.or_eq_true, decide_eq_true_eq] at h1
  obtain ⟨⟨⟨⟨⟨⟨a1, a2⟩, a3⟩, a4⟩, a5⟩, a6⟩, a7⟩ := h1
  exact ⟨a1, a2, a3, a4, a5, a6, a7⟩
theorem zMT_split : zMT = (zMT_0 ++ (zMT_1 ++ (zMT_2 ++ (zMT_3 ++ (zMT_4 ++ (zMT_5 ++ (zMT_6 ++ (zMT_7 ++ (zMT_8 ++ zMT_9.take 13))))))))) ++ [zMT_9.getD 13 (⟨"", "", ""⟩, ⟨#[]⟩, 0, none, 0, true, 0, 0, 0, [])] := by
  rfl
theorem zcode_all : ∀ r ∈ zMT_0 ++ (zMT_1 ++ (zMT_2 ++ (zMT_3 ++ (zMT_4 ++ (zMT_5 ++ (zMT_6 ++ (zMT_7 ++ (zMT_8 ++ zMT_9.take 13)))))))), zcodeP r := by
  intro r h
  simp only [List.mem_append] at h
  rcases h with h | h | h | h | h | h | h | h | h | h
  · exact zcodeP_0 r h
  · exact zcodeP_1 r h
  · exact zcodeP_2 r h
  · exact zcodeP_3 r h
  · exact zcodeP_4 r h
  · exact zcodeP_5 r h
  · exact zcodeP_6 r h
  · exact zcodeP_7 r h
  · exact zcodeP_8 r h
  · exact zcodeP_9 r h
theorem zcode_in {k : Nat} (h : k < zNM) (hk : k ≠ zLAW) : Jvm.Cond.code (zname k) (zbytes k) (zmaxl k) (zret k) ∈ zW := by
  have h193 : k < 193 := by
    have e1 : zNM = 194 := rfl
    have e2 : zLAW = 193 := rfl
    omega
  have hl : (zMT_0 ++ (zMT_1 ++ (zMT_2 ++ (zMT_3 ++ (zMT_4 ++ (zMT_5 ++ (zMT_6 ++ (zMT_7 ++ (zMT_8 ++ zMT_9.take 13))))))))).length = 193 := by decide +kernel
  have hm : zmt k ∈ zMT_0 ++ (zMT_1 ++ (zMT_2 ++ (zMT_3 ++ (zMT_4 ++ (zMT_5 ++ (zMT_6 ++ (zMT_7 ++ (zMT_8 ++ zMT_9.take 13)))))))) := by
    unfold zmt
    rw [zMT_split, List.getD_eq_getElem?_getD, List.getElem?_append_left (by rw [hl]; exact h193), List.getElem?_eq_getElem (by rw [hl]; exact h193)]
    exact List.getElem_mem _
  exact zgood (List.mem_of_getElem? (zcode_all _ hm)) rfl
/-- the world of a method's start, and of its end -/
def zPc (ad : Nat → Nat) (D : va_G) (ca : Nat → ClassId) (av : List Value) (σ : zM) : Array Value → State → Prop := fun v U => v = av.toArray ∧ va_P D vwCl (zWS ad ca σ) U.heap ∧ va_K D vwCl (zTys ca) U ∧ zNest U
def zFr (ad : Nat → Nat) : Nat → Prop := fun q => ∃ i, i < 72 ∧ q = ad i
def zQc (ad : Nat → Nat) (D : va_G) (ca : Nat → ClassId) (r : Option zV) (σ : zM) : Array Value → State → Outcome → State → Prop := fun _ st o t => o = .returned (r.map (zenc ad)) ∧ va_P D vwCl (zWS ad ca σ) t.heap ∧ va_F (zFr ad) st t
def zrm (k : Nat) : Room := { frames := zlvl k, cells := 0, slots := 0, locals := 40 * zlvl k }
def zws (k : Nat) : List Jvm.Cond := .code (zname k) (zbytes k) (zmaxl k) (zret k) :: zW
theorem zPc_blind (ad : Nat → Nat) (D : va_G) (ca : Nat → ClassId) (av : List Value) (σ : zM) : FrameBlind (zPc ad D ca av σ) := by
  intro a U g mk h
  obtain ⟨h1, h2, h3, h4⟩ := h
  exact ⟨h1, h2, va_K.moved (u := U) (U := U.calling g mk a) (Vm.Alike.refl U.vm) h3, fun q hq hk => va_Nw.same rfl rfl (h4 q hq hk)⟩
theorem zNest_warm {s U : State} (hW : s.WarmedH U.vm) (h : zNest s) : zNest U := fun q hq hk => va_Nw.warmM hW (h q hq hk)
theorem zW_good {w : Jvm.Cond} (h : w ∈ zW) : (w.onTables && w.keeps) = true ∨ ∃ ty, w = .arrayClass ty := good_of_word (List.mem_filter.mp h).2
theorem zini_sl {ad : Nat → Nat} : ∀ (args : List zV), (lg_sl (args.map (zenc ad))).length = (zini args).length
  | [] => rfl
  | v :: r => by
    have ih := zini_sl (ad := ad) r
    unfold lg_sl at ih ⊢
    simp only [List.map_cons, List.flatMap_cons, List.length_append, ih, zini]
    by_cases h : v.1 = 1
    · rw [if_pos h, if_pos (zenc_long h)]; simp; omega
    · rw [if_neg h, if_neg (fun q => h (zenc_cat2 q))]; simp; omega
theorem zasc_app {ad : Nat → Nat} : ∀ (a : List zV) (i n : Nat), zasc ad i (a ++ List.replicate n vU) = zasc ad i a
  | [], i, n => by
    induction n generalizing i with
    | zero => rfl
    | succ n ih =>
      rw [List.replicate_succ, List.nil_append] at *
      unfold zasc
      rw [if_neg (by decide)]
      exact ih (i + 1)
  | v :: a, i, n => by
    rw [List.cons_append]
    unfold zasc
    rw [zasc_app a (i + 1) n]
theorem zasc_args {ad : Nat → Nat} : ∀ (args : List zV) (i : Nat), (∀ v ∈ args, v.1 ≤ 2) → zasc ad i (zini args) = lv_args i (args.map (zenc ad))
  | [], i, _ => rfl
  | v :: r, i, h => by
    have h0 := h v List.mem_cons_self
    have ih := fun j => zasc_args (ad := ad) r j (fun w hw => h w (List.mem_cons_of_mem _ hw))
    simp only [zini, List.map_cons, lv_args]
    by_cases h1 : v.1 = 1
    · rw [if_pos h1, if_pos (zenc_long h1)]
      simp only [zasc]
      rw [if_pos h0, if_neg (by decide), ih]
    · rw [if_neg h1, if_neg (fun q => h1 (zenc_cat2 q))]
      simp only [zasc]
      rw [if_pos h0, ih]
theorem zloc_len {k : Nat} {args : List zV} (h : (zini args).length ≤ zmaxl k) : (zloc k args).length = zmaxl k := by
  unfold zloc
  rw [List.length_append, List.length_replicate]
  omega
/-- behind a call -/
theorem z_ret {p : Program} {l : Launch} {e : Env} {R : Room} {s : State} {m : MethodId} {args : Array Value} {below : List Frame} {meth : Method} {c : Code} {H : Heap} {locs : List Loc} {cells slots : Nat} {Q : State → Prop} {ad : Nat → Nat} {D : va_G} {ca : Nat → ClassId} {A : Nat → Prop} {pc : Nat} {M : Array Slot} {st0 rest : List Value} {a : Array Value} {r : Option zV} {σ : zM}
    (hr : va_Run p l e R s m args below meth c H locs cells slots 0 0 (F0 m pc M st0) rest (zQc ad D ca r σ a) (zFr ad)) (hS : va_S A s.heap H locs) (hf : ∀ q, zFr ad q → A q)
    (kk : ∀ (H1 : Heap) (locs1 : List Loc), va_P D vwCl (zWS ad ca σ) H1 → va_S A s.heap H1 locs1 → W p l e R s m args below meth c H1 locs1 cells slots Q (F0 m (pc + 3) M ((r.map (zenc ad)).toList ++ rest))) : W p l e R s m args below meth c H locs cells slots Q (F0 m pc M st0) := by
  intro T hT X
  obtain ⟨v, st₀, t, T', L, h0, X', hL, e1, e2, ⟨hv, hP, hz, hk⟩, st⟩ := hr T hT X
  cases hv
  rw [h0] at hz hk
  obtain ⟨t2, a1, b1⟩ := kk T'.heap (locs ++ L) (by rw [e1]; exact hP)
    ⟨Nat.le_trans hS.1 (by rw [e1]; exact hz), fun q h1 h2 => by rw [e1, hk q (Nat.lt_of_lt_of_le h1 hS.1) (fun z => h2 (hf q z))]; exact hS.2.1 q h1 h2, fun q hq => by
      rcases List.mem_append.mp hq with h | h
      · exact hS.2.2 q h
      · exact hf _ (hL q h)⟩ T' rfl X'
  exact ⟨t2, st t2 a1, b1⟩
end
section
theorem zpc0_all : (List.range 193).all (fun k => zpc (zcode k) == 0) = true := by decide +kernel
theorem zpc0 {k : Nat} (hk : k < zNM) (hkl : k ≠ zLAW) : zpc (zcode k) = 0 := by
  have h193 : k < 193 := by
    have e1 : zNM = 194 := rfl
    have e2 : zLAW = 193 := rfl
    omega
  simpa using List.all_eq_true.mp zpc0_all k (List.mem_range.mpr h193)
theorem zcn_cl : ∀ ci, ci < 8 → (zcl ci).1 = zcn ci := by decide +kernel
theorem zlaw_stat : zstat zLAW = true := by decide +kernel
/-- what is asked of the end of a method -/
def zEnd (ad : Nat → Nat) (D : va_G) (ca : Nat → ClassId) (A : Nat → Prop) (p : Program) (l : Launch) (e : Env) (R : Room) (s : State) (m : MethodId) (args : Array Value) (below : List Frame) (meth : Method) (c : Code) (cells slots : Nat) (Q : State → Prop) (k : Nat) (r : Option zV) (σ : zM) : Prop :=
  ∀ (H : Heap) (locs : List Loc) (M : Array Slot) (pc : Nat), va_P D vwCl (zWS ad ca σ) H → va_S A s.heap H locs →
    (match r with
      | none => decode (zbytes k) pc = .ok (.return_, 1) ∧ zret k = none
      | some v => (v.1 = 0 ∧ decode (zbytes k) pc = .ok (.ireturn, 1) ∧ (zret k = some .int ∨ (zret k = some .boolean ∧ (v.2 = 0 ∨ v.2 = 1)))) ∨ (v.1 = 1 ∧ decode (zbytes k) pc = .ok (.lreturn, 1) ∧ zret k = some .long)) →
    W p l e R s m args below meth c H locs cells slots Q (F0 m pc M (r.toList.map (zenc ad)))
/-- what holds of an execution of f steps, wherever it is done -/
def zSound (ad : Nat → Nat) (D : va_G) (ca : Nat → ClassId) (l : Launch) (f : Nat) : Prop :=
  ∀ (k : Nat) (code : List zCE) (ls st : List zV) (σ : zM) (r : Option zV) (σ' : zM), zOK k code → ls.length = zmaxl k → ex f k code ls st σ = some (r, σ') →
    ∀ {A : Nat → Prop} {xr : Int → Int} {p : Program} {e : Env} {R : Room} {s : State} {m : MethodId} {args : Array Value} {below : List Frame} {meth : Method} {c : Code} {cells slots : Nat} {Q : State → Prop},
      zCx ad D ca A xr p R s m args c k → cells ≤ R.cells ∧ slots ≤ R.slots → zEnd ad D ca A p l e R s m args below meth c cells slots Q k r σ' → zWp ad D ca A xr p l e R s m args below meth c cells slots Q k (zpc code) ls st σ
theorem z_met {ad : Nat → Nat} {D : va_G} {ca : Nat → ClassId} {l : Launch} {f : Nat} (IH : zSound ad D ca l f) (hinj : ∀ i j, i < 72 → j < 72 → ad i = ad j → i = j) {k : Nat} (hk : k < zNM) (hkl : k ≠ zLAW) {args' : List zV} (hag : ∀ v ∈ args', v.1 ≤ 2) (hal : (zini args').length ≤ zmaxl k) {σ σ1 : zM} {r1 : Option zV} (h : ex f k (zcode k) (zloc k args') [] σ = some (r1, σ1)) :
    Met l (zname k) (zws k) (zrm k) (zPc ad D ca (args'.map (zenc ad)) σ) (zQc ad D ca r1 σ1) 0 0 (zFr ad) := by
  obtain ⟨f1, f2, f3, f4, f5, f6, f7⟩ := zmt_facts hk
  refine Met.ofW (cc := zbytes k) (maxL := zmaxl k) (ret := zret k) (ws' := zW) f1 rfl ?_
  intro p e s m args below meth c s₁ B hml hv
  obtain ⟨rfl, hP, hK, hN⟩ := hv
  have hx := B.exec
  have hb := B.bytes
  have hr := B.returns
  have hts := atoms_spec (ws := zws k) B.pre
  have hown : s.vm.findClass (zname k).cls = some m.cls := findClass_of_methodNamed B.named
  have hlocks := B.notSynchronized
  have hl := lv_entry (args'.map (zenc ad)) (n := zmaxl k) (by rw [zini_sl]; exact hal)
  rw [lg_entry_eq]
  generalize (lg_sl (args'.map (zenc ad)) ++ List.replicate (zmaxl k - (lg_sl (args'.map (zenc ad))).length) Slot.unset).toArray = M at hl ⊢
  rw [← zasc_args args' 0 hag, ← zasc_app (zini args') 0 (zmaxl k - (zini args').length)] at hl
  have hl : lv_has M (zmaxl k) (zasc ad 0 (zloc k args')) := hl
  have hcode : zcode k ≠ [] := by
    intro q
    rw [q] at h
    cases f <;> cases h
  have hpc0 : zpc (zcode k) = 0 := zpc0 hk hkl
  have C : zCx ad D ca (zFr ad) (σ 72) p (headSpec (zws k) (zrm k)).room s m (args'.map (zenc ad)).toArray c k :=
    ⟨hx, hb, hml, by rw [← f6]; exact hown, fun w hw => hts w (List.mem_cons_of_mem _ hw), hN, hK, fun q hq => ⟨q, hq, rfl⟩, hinj, Nat.le_refl _, Nat.le_refl _, fun q => absurd q hkl⟩
  have K := IH k (zcode k) (zloc k args') [] σ r1 σ1 ⟨[], rfl⟩ (zloc_len hal) h (e := e) (below := below) (meth := meth) (cells := 0) (slots := 0) (Q := MQ below (zQc ad D ca r1 σ1) (args'.map (zenc ad)).toArray s 0 0 (zFr ad)) C ⟨Nat.zero_le _, Nat.zero_le _⟩ (by
    intro H locs M1 pc1 hP1 hS1 hret
    rcases r1 with _ | ⟨t, a⟩
    · obtain ⟨h1, h2⟩ := hret
      exact W.vret hx hb (hr.trans h2) (fun t ht hW => ⟨rfl, by rw [ht]; exact hP1, hS1.F ht⟩) hS1.2.2 h1 hlocks
    · rcases hret with ⟨h0, h1, h2⟩ | ⟨h0, h1, h2⟩
      · cases h0
        rcases h2 with h2 | ⟨h2, h3⟩
        · exact W.iret (v := Int32.ofInt a) hx hb (hr.trans h2) (fun t ht hW => ⟨rfl, by rw [ht]; exact hP1, hS1.F ht⟩) hS1.2.2 h1 hlocks
        · refine W.zret (v := Int32.ofInt a) hx hb (hr.trans h2) ?_ (fun t ht hW => ⟨rfl, by rw [ht]; exact hP1, hS1.F ht⟩) hS1.2.2 h1 hlocks
          rcases h3 with h3 | h3
          · have h3 : a = 0 := h3
            subst h3; rfl
          · have h3 : a = 1 := h3
            subst h3; rfl
      · cases h0
        exact W.lret (v := Int64.ofInt a) hx hb (hr.trans h2) (fun t ht hW => ⟨rfl, by rw [ht]; exact hP1, hS1.F ht⟩) hS1.2.2 h1 hlocks)
  rw [hpc0] at K
  exact K s.heap [] M rfl hP va_S.rf hl
theorem zFr_A {ad : Nat → Nat} {A : Nat → Prop} (hA : ∀ q, q < 72 → A (ad q)) : ∀ q, zFr ad q → A q := by
  rintro q ⟨i, h, rfl⟩
  exact hA i h
/-- one call, done -/
theorem z_call {ad : Nat → Nat} {D : va_G} {ca : Nat → ClassId} {l : Launch} {f : Nat} (IH : zSound ad D ca l f) {A : Nat → Prop} {xr : Int → Int} {p : Program} {e : Env} {R : Room} {s : State} {m : MethodId} {args : Array Value} {below : List Frame} {meth : Method} {c : Code} {cells slots : Nat} {Q : State → Prop} {k pc i : Nat} {x : Int} {is : List zCE} {ls st : List zV} {σ σ1 : zM} {r1 : Option zV} {ins : Instr}
    (C : zCx ad D ca A xr p R s m args c k) (hcs : cells ≤ R.cells ∧ slots ≤ R.slots) (hins : ins = .invokevirtual i ∨ ins = .invokestatic i) (hdg : decode (zbytes k) pc = .ok (ins, 3)) (hlv : zlvl x.toNat < zlvl k)
    (hq : ∃ q ∈ zCALL, q.1 = zown k ∧ q.2.1 = i ∧ (if ins = .invokevirtual i then q.2.2.1 = 0 else q.2.2.1 = 1 ∨ q.2.2.1 = 2) ∧ q.2.2.2.1 = x.toNat)
    (hst : znar x.toNat ≤ st.length) (hst4 : (st.drop (znar x.toNat)).length ≤ 4) (htag : ∀ v ∈ st, v.1 ≤ 2) (hrecv : zrecv x.toNat (st.take (znar x.toNat)).reverse = true) (hini : (zini (st.take (znar x.toNat)).reverse).length ≤ zmaxl x.toNat)
    (h : ex f x.toNat (zcode x.toNat) (zloc x.toNat (st.take (znar x.toNat)).reverse) [] σ = some (r1, σ1))
    (kk : σ 72 = xr → zWp ad D ca A xr p l e R s m args below meth c cells slots Q k (pc + 3) ls (r1.toList ++ st.drop (znar x.toNat)) σ1) :
    zWp ad D ca A xr p l e R s m args below meth c cells slots Q k pc ls st σ := by
  obtain ⟨q, hqm, hq1, hq2, hq3, hq4⟩ := hq
  have hw := zcall4 hqm
  have hk3 : q.2.2.1 ≠ 3 := by
    intro z
    rw [z] at hq3
    split at hq3
    · cases hq3
    · rcases hq3 with h | h <;> cases h
  obtain ⟨hs1, hs2, hs3⟩ := (zcallk hqm).resolve_left hk3
  rw [hq4] at hs1 hs2 hs3
  generalize hkk : x.toNat = k' at *
  obtain ⟨f1, f2, f3, f4, f5, f6, f7⟩ := zmt_facts hs2
  obtain ⟨hexec, hb, hml, hown, hts, hN, hK, hA, hinj, hfr, hlo, hscr⟩ := C
  have htag' : ∀ v ∈ (st.take (znar k')).reverse, v.1 ≤ 2 := fun v hv => htag v (List.mem_of_mem_take (List.mem_reverse.mp hv))
  have hM := z_met IH hinj hs2 hs3 htag' hini h
  have hcode := hts _ (zcode_in hs2 hs3)
  have hws : ∀ w ∈ zws k', ∀ (a' : Array Value) (U : State), s.WarmedH U.vm → w.before a' U = true := by
    intro w hw a' U hW
    rcases List.mem_cons.mp hw with rfl | hw
    · exact word_at hW (zW_good (zcode_in hs2 hs3)) hcode
    · exact word_at hW (zW_good hw) (hts w hw)
  have hroom : (zrm k').cells = 0 ∧ (zrm k').slots = 0 ∧ (zrm k').frames + 1 ≤ R.frames ∧ 8 + (zmaxl k' + 11) + (zrm k').locals ≤ R.locals := by
    refine ⟨rfl, rfl, ?_, ?_⟩
    · show zlvl k' + 1 ≤ R.frames; omega
    · show 8 + (zmaxl k' + 11) + 40 * zlvl k' ≤ R.locals; omega
  have hstk : st.map (zenc ad) = ((st.take (znar k')).reverse.map (zenc ad)).reverse ++ (st.drop (znar k')).map (zenc ad) := by
    rw [← List.map_reverse, List.reverse_reverse, ← List.map_append, List.take_append_drop]
  have hlen : ((st.take (znar k')).reverse.map (zenc ad)).length = znar k' := by
    simp; omega
  have hrest := zcat_sum (ad := ad) (st.drop (znar k')) hst4
  intro H locs M hxx hP hS hl
  have hPre : ∀ U : State, U.heap = H → s.WarmedH U.vm → zPc ad D ca ((st.take (znar k')).reverse.map (zenc ad)) σ ((st.take (znar k')).reverse.map (zenc ad)).toArray U := by
    intro U hU hW
    exact ⟨rfl, by rw [hU]; exact hP, va_K.moved hW.alike hK, zNest_warm hW hN⟩
  have hbl := zPc_blind ad D ca ((st.take (znar k')).reverse.map (zenc ad)) σ
  have S : CallFix p m c (zbytes k) (zmaxl k) s args zW (zcn (zown k)) := ⟨hexec, hb, hml, hown, hts⟩
  have KK : ∀ (H1 : Heap) (locs1 : List Loc), va_P D vwCl (zWS ad ca σ1) H1 → va_S A s.heap H1 locs1 → W p l e R s m args below meth c H1 locs1 cells slots Q (F0 m (pc + 3) M ((r1.map (zenc ad)).toList ++ (st.drop (znar k')).map (zenc ad))) := by
    intro H1 locs1 hP1 hS1
    have h72 : σ1 72 = xr := (ex_72 f _ _ _ _ _ r1 σ1 h).trans hxx
    have K := kk hxx H1 locs1 M h72 hP1 hS1 hl
    rw [List.map_append] at K
    cases r1 <;> exact K
  by_cases hins2 : ins = .invokevirtual i
  · rw [if_pos hins2] at hq3
    subst hins2
    rw [hq3] at hs1
    have hs1 : zstat k' = false := by simpa using hs1
    unfold zkw at hw
    rw [hq3] at hw
    simp only [List.mem_cons, List.not_mem_nil, or_false, forall_eq_or_imp, forall_eq] at hw
    obtain ⟨w1, w2, w3, w4⟩ := hw
    rw [hq1, hq2, hq4] at w1
    rw [hq4] at w2 w3 w4
    unfold zrecv at hrecv
    rw [hs1, Bool.false_or] at hrecv
    generalize hag : (st.take (znar k')).reverse = ag at *
    rcases ag with _ | ⟨⟨t, b⟩, As⟩
    · cases hrecv
    · dsimp only at hrecv
      simp only [Bool.and_eq_true, beq_iff_eq] at hrecv
      obtain ⟨rfl, hsh⟩ := hrecv
      have hlen2 : (As.map (zenc ad)).length = znar k' - 1 := by
        simp only [List.map_cons, List.length_cons, List.length_map] at hlen ⊢
        omega
      obtain ⟨n, rfl, hn, hsn⟩ := zshp_lt (c := b) (by
        intro z
        have := (zcode_in hs2 hs3)
        have h99 : zown k' ≠ 89 := by
          have ho : ∀ k, k < 194 → zown k < 10 := by decide +kernel
          have := ho k' hs2
          omega
        omega)
      rw [hsn] at hsh
      obtain ⟨hci, hN2⟩ := zshp_obj hn hsh
      have hcls : (zcl (zown k')).1 = (zname k').cls := (zcn_cl _ hci).trans f6.symm
      have hent : (zWS ad ca σ)[n]? = some (ad n, .inr (zown k', (List.range (zcl (zown k')).2.2).map (zfv ad (σ n) n (zown k')))) := by
        rw [zWS_get ad ca σ hn, zent_obj hn hsh]
      rw [hs1] at f4
      have cw : CallW R s args (zcn (zown k)) (zname k').cls i (zname k') (zbytes k') (zmaxl k') (zret k') (zws k') (zrm k') 0 0 (znar k' - 1) := by
        refine ⟨⟨hroom.1, hroom.2.1, hroom.2.2.1, hroom.2.2.2, hws, List.mem_cons_self, hcode, hts _ (zgood w4 rfl), ⟨f2, f3⟩, fun sig hsig => ?_, hts _ (zgood w1 rfl)⟩, hts _ (zgood w2 rfl), hts _ (zgood w3 rfl)⟩
        rw [hsig] at f4
        exact (Option.some.inj f4).symm
      have R1 := va_runV (l := l) (e := e) (below := below) (meth := meth) (H := H) (locs := locs) (cells := cells) (slots := slots) (As := As.map (zenc ad)) (rest := (st.drop (znar k')).map (zenc ad)) (g := F0 m pc M (st.map (zenc ad))) (b := ad n) S hM cw
        ⟨hbl, by have := va_recv hK hP (zcl_get _ hci) hent; rw [hcls] at this; exact this, hPre⟩ rfl hlen2 hl.1 (by rw [hstk]; simp [zenc]) (lv_room hrest) hdg ⟨hcs.1, hcs.2⟩
      exact z_ret R1 hS (zFr_A hA) KK
  · rw [if_neg hins2] at hq3
    have hins3 : ins = .invokestatic i := hins.resolve_left hins2
    subst hins3
    have hs1 : zstat k' = true := by
      rcases hq3 with z | z <;> rw [z] at hs1 <;> simpa using hs1
    rw [hs1] at f4
    have hsig : ∀ sig, parseMethodDescriptor (zname k').desc = some sig → znar k' = sig.parameters.length := by
      intro sig hsig
      rw [hsig] at f4
      exact (Option.some.inj f4).symm
    rcases hq3 with hq3 | hq3
    · unfold zkw at hw
      rw [hq3] at hw
      simp only [List.mem_cons, List.not_mem_nil, or_false, forall_eq_or_imp, forall_eq] at hw
      obtain ⟨w1, w2, w3, w4⟩ := hw
      rw [hq1, hq2, hq4] at w1
      rw [hq4] at w2 w3
      have cw : CallB R s args (zcn (zown k)) i (zname k') (zbytes k') (zmaxl k') (zret k') (zws k') (zrm k') 0 0 (znar k') ∧ (Jvm.Cond.static (zname k')).before args s = true :=
        ⟨⟨hroom.1, hroom.2.1, hroom.2.2.1, hroom.2.2.2, hws, List.mem_cons_self, hcode, hts _ (zgood w3 rfl), ⟨f2, f3⟩, hsig, hts _ (zgood w1 rfl)⟩, hts _ (zgood w2 rfl)⟩
      have R1 := va_runS (l := l) (e := e) (below := below) (meth := meth) (H := H) (locs := locs) (cells := cells) (slots := slots) (As := (st.take (znar k')).reverse.map (zenc ad)) (rest := (st.drop (znar k')).map (zenc ad)) (g := F0 m pc M (st.map (zenc ad))) S hM cw
        ⟨hbl, hPre⟩ rfl hlen hl.1 hstk (lv_room hrest) hdg ⟨hcs.1, hcs.2⟩
      exact z_ret R1 hS (zFr_A hA) KK
    · have hNq := hN q hqm hq3
      rw [hq1, hq2, hq4] at hNq
      unfold zkw at hw
      rw [hq3] at hw
      simp only [List.mem_cons, List.not_mem_nil, or_false, forall_eq_or_imp, forall_eq] at hw
      obtain ⟨w1, w2, w3, w4⟩ := hw
      rw [hq4] at w2 w3
      have cw : va_CN R s args (zcn (zown k)) i (zname k') "PointShares" (zbytes k') (zmaxl k') (zret k') (zws k') (zrm k') 0 0 (znar k') ∧ (Jvm.Cond.static (zname k')).before args s = true ∧ True :=
        ⟨⟨⟨hroom.1, hroom.2.1, hroom.2.2.1, hroom.2.2.2, hws, List.mem_cons_self⟩, hcode, hts _ (zgood w3 rfl), ⟨f2, f3⟩, hsig, va_Nw.use rfl hNq⟩, hts _ (zgood w2 rfl), trivial⟩
      have R1 := va_runSN (l := l) (e := e) (below := below) (meth := meth) (H := H) (locs := locs) (cells := cells) (slots := slots) (As := (st.take (znar k')).reverse.map (zenc ad)) (rest := (st.drop (znar k')).map (zenc ad)) (g := F0 m pc M (st.map (zenc ad))) S hM cw
        ⟨hbl, hPre⟩ rfl hlen hl.1 hstk (lv_room hrest) hdg ⟨hcs.1, hcs.2⟩
      exact z_ret R1 hS (zFr_A hA) KK
end
section
theorem z_stop {k pc : Nat} {x : Int} {is : List zCE} {ls st : List zV} {σ σ' : zM} {ins : Instr} {r : Option zV} {len : Nat} (hD : zokD (zbytes k) (zown k) (zlvl k) (zret k) (pc, len, x, ins) = true) (h : nx k pc x is ls st σ ins = .inl (some (r, σ'))) :
    σ = σ' ∧ st = r.toList ∧ (match r with
      | none => decode (zbytes k) pc = .ok (.return_, 1) ∧ zret k = none
      | some v => (v.1 = 0 ∧ decode (zbytes k) pc = .ok (.ireturn, 1) ∧ (zret k = some .int ∨ (zret k = some .boolean ∧ (v.2 = 0 ∨ v.2 = 1)))) ∨ (v.1 = 1 ∧ decode (zbytes k) pc = .ok (.lreturn, 1) ∧ zret k = some .long)) := by
  unfold zokD at hD
  simp only [Bool.and_eq_true, decide_eq_true_eq] at hD
  obtain ⟨hd, hE⟩ := hD
  unfold nx at h
  split at h
  case h_64 =>
    unfold zireturn at h
    rcases st with _ | ⟨⟨t, a⟩, _ | ⟨u, st⟩⟩
    · cases h
    · dsimp only at h
      by_cases h1 : t = 0 ∧ (x = 0 ∨ a = 0 ∨ a = 1)
      · rw [if_pos h1] at h
        cases h
        refine ⟨rfl, rfl, Or.inl ⟨h1.1, ?_⟩⟩
        simp only [zokE, Bool.and_eq_true, beq_iff_eq] at hE
        obtain ⟨rfl, hE⟩ := hE
        refine ⟨hd, ?_⟩
        split at hE
        · rename_i e1; exact Or.inl e1
        · rename_i e1
          right
          refine ⟨e1, ?_⟩
          have : x = 1 := by simpa using hE
          rcases h1.2 with h2 | h2
          · omega
          · exact h2
        · cases hE
      · rw [if_neg h1] at h; cases h
    · cases h
  case h_65 =>
    unfold zlreturn at h
    rcases st with _ | ⟨⟨t, a⟩, _ | ⟨u, st⟩⟩
    · cases h
    · dsimp only at h
      by_cases h1 : t = 1
      · rw [if_pos h1] at h
        cases h
        simp only [zokE, Bool.and_eq_true, beq_iff_eq, decide_eq_true_eq] at hE
        obtain ⟨rfl, hE⟩ := hE
        exact ⟨rfl, rfl, Or.inr ⟨h1, hd, hE⟩⟩
      · rw [if_neg h1] at h; cases h
    · cases h
  case h_66 =>
    unfold zvreturn at h
    rcases st with _ | ⟨u, st⟩
    · cases h
      simp only [zokE, Bool.and_eq_true, beq_iff_eq, decide_eq_true_eq] at hE
      obtain ⟨rfl, hE⟩ := hE
      exact ⟨rfl, rfl, hd, hE⟩
    · cases h
  all_goals try simp only [zld, zst, ziinc, zdup, zdup2, zbin, zun, zif, zicmp, ztab, zlook, zgf, zpf, zast, zcpy, zald, zaln, zinv, zstuck, zgo] at h
  all_goals (repeat' (split at h))
  all_goals (cases h; done)
/-- THE MACHINE DOES WHAT ex SAYS -/
theorem z_sound (ad : Nat → Nat) (D : va_G) (ca : Nat → ClassId) (l : Launch) (hinj : ∀ i j, i < 72 → j < 72 → ad i = ad j → i = j) : ∀ f, zSound ad D ca l f := by
  intro f
  induction f with
  | zero =>
    intro k code ls st σ r σ' hO hlen h
    cases h
  | succ f ih =>
    intro k code ls st σ r σ' hO hlen h A xr p e R s m args below meth c cells slots Q C hcs hend
    rcases code with _ | ⟨⟨pc, len, x, ins⟩, is⟩
    · cases h
    · obtain ⟨hD, hch⟩ := zok_at hO
      show zWp ad D ca A xr p l e R s m args below meth c cells slots Q k pc ls st σ
      unfold ex at h
      split at h
      · rename_i r0 hn
        subst h
        obtain ⟨h1, h2, h3⟩ := z_stop hD hn
        subst h1; subst h2
        intro H locs M hxx hP hS hl
        cases r <;> exact hend H locs M pc hP hS h3
      · rename_i is' ls' st' σ1 hn
        obtain ⟨i1, i2, i3⟩ := nx_inv hn
        have hne : is' ≠ [] := by
          intro z
          rw [z] at h
          cases f <;> cases h
        have hO' : zOK k is' := by
          rcases i3 with rfl | ⟨y, rfl⟩
          · exact zOK_tail hO
          · exact zjump_ok k y
        refine z_step C hD hch hlen hne hn ?_
        exact ih k is' ls' st' σ1 r σ' hO' (i1.trans hlen) h C hcs hend
      · rename_i k1 args1 st1 hn
        split at h
        · cases h
        · rename_i r1 σ1 h1
          have hne : is ≠ [] := by
            intro z
            rw [z] at h
            cases f <;> cases h
          have hinv : ∃ i, (ins = .invokevirtual i ∨ ins = .invokestatic i ∧ x ≠ 9999) ∧ zinv x ls st σ = .inr (.inr (k1, args1, st1)) := by
            unfold nx at hn
            split at hn
            case h_62 => exact ⟨_, Or.inl rfl, hn⟩
            case h_63 =>
              split at hn
              · unfold zcpy at hn
                simp only [zstuck, zgo] at hn
                repeat' (split at hn)
                all_goals (cases hn)
              · rename_i h9
                exact ⟨_, Or.inr ⟨rfl, h9⟩, hn⟩
            all_goals try simp only [zld, zst, ziinc, zdup, zdup2, zbin, zun, zif, zicmp, ztab, zlook, zgf, zpf, zast, zald, zaln, zireturn, zlreturn, zvreturn, zstuck, zgo] at hn
            all_goals (repeat' (split at hn))
            all_goals (cases hn; done)
          obtain ⟨i, hins, hz⟩ := hinv
          unfold zinv at hz
          split at hz
          · rename_i hc
            obtain ⟨c1, c2, c3, c4, c5⟩ := hc
            cases hz
            have htag : ∀ v ∈ st, v.1 ≤ 2 := fun v hv => of_decide_eq_true (List.all_eq_true.mp c3 v hv)
            have hD0 := hD
            unfold zokD at hD
            simp only [Bool.and_eq_true, decide_eq_true_eq] at hD
            obtain ⟨hd, hE⟩ := hD
            have hlen3 : len = 3 ∧ zlvl x.toNat < zlvl k ∧ ∃ q ∈ zCALL, q.1 = zown k ∧ q.2.1 = i ∧ (if ins = .invokevirtual i then q.2.2.1 = 0 else q.2.2.1 = 1 ∨ q.2.2.1 = 2) ∧ q.2.2.2.1 = x.toNat := by
              rcases hins with rfl | ⟨rfl, h9⟩
              · simp only [zokE, Bool.and_eq_true, beq_iff_eq, decide_eq_true_eq] at hE
                obtain ⟨⟨⟨e1, e2⟩, e3⟩, e4⟩ := hE
                obtain ⟨q, hq, e5⟩ := List.any_eq_true.mp e4
                simp only [Bool.and_eq_true, beq_iff_eq] at e5
                exact ⟨e1, e3, q, hq, e5.1.1.1, e5.1.1.2, by rw [if_pos rfl]; exact e5.1.2, e5.2⟩
              · simp only [zokE, Bool.and_eq_true, beq_iff_eq, decide_eq_true_eq] at hE
                obtain ⟨⟨e1, e2⟩, e3⟩ := hE
                rw [if_neg h9] at e3
                simp only [Bool.and_eq_true, decide_eq_true_eq] at e3
                obtain ⟨q, hq, e5⟩ := List.any_eq_true.mp e3.2
                simp only [Bool.and_eq_true, Bool.or_eq_true, beq_iff_eq] at e5
                exact ⟨e1, e3.1, q, hq, e5.1.1.1, e5.1.1.2, by rw [if_neg (by intro z; cases z)]; exact e5.1.2, e5.2⟩
            obtain ⟨rfl, hlv, hq⟩ := hlen3
            refine z_call ih (ins := ins) (i := i) C hcs (hins.elim Or.inl (fun z => Or.inr z.1)) hd hlv hq c1 c2 htag c4 c5 h1 (fun hxx => ?_)
            have K := ih k is ls (r1.toList ++ st.drop (znar x.toNat)) σ1 r σ' (zOK_tail hO) hlen h (xr := xr) C hcs hend
            rcases hch with z | z
            · exact absurd z hne
            · rw [z] at K; exact K
          · cases hz
end
