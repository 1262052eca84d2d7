section
-- ===== PART A: goes FIRST, ahead of the names: the tables' words, and 'selects' of the private methods out of them =====
/-- a private method of a class that the tables say can be made, by its rows of tables_1 -/
def lw_okq (q : MethodName × Nat) : Prop := (q.1.cls ≠ "java/lang/invoke/MethodHandle" ∧ q.1.cls ≠ "java/lang/invoke/VarHandle") ∧ Cond.instantiable q.1.cls q.2 ∈ tables_1 ∧ Cond.privateMethod q.1 ∈ tables_1 ∧ Cond.instanceMethod q.1 ∈ tables_1
theorem lw_p0 : lw_okq (⟨"SpanBench", "canBe", "(III)Z"⟩, 11) := ⟨⟨by decide +kernel, by decide +kernel⟩, List.mem_of_getElem? (i := 13) (by decide +kernel), List.mem_of_getElem? (i := 270) (by decide +kernel), List.mem_of_getElem? (i := 271) (by decide +kernel)⟩
theorem lw_p1 : lw_okq (⟨"SpanBench", "drawWays", "()V"⟩, 11) := ⟨⟨by decide +kernel, by decide +kernel⟩, List.mem_of_getElem? (i := 13) (by decide +kernel), List.mem_of_getElem? (i := 303) (by decide +kernel), List.mem_of_getElem? (i := 304) (by decide +kernel)⟩
theorem lw_p2 : lw_okq (⟨"SpanBench$Way", "isLeftOf", "(JJI)Z"⟩, 7) := ⟨⟨by decide +kernel, by decide +kernel⟩, List.mem_of_getElem? (i := 101) (by decide +kernel), List.mem_of_getElem? (i := 337) (by decide +kernel), List.mem_of_getElem? (i := 338) (by decide +kernel)⟩
theorem lw_p3 : lw_okq (⟨"SpanBench$Mover", "isSpentBy", "(II)Z"⟩, 9) := ⟨⟨by decide +kernel, by decide +kernel⟩, List.mem_of_getElem? (i := 48) (by decide +kernel), List.mem_of_getElem? (i := 387) (by decide +kernel), List.mem_of_getElem? (i := 388) (by decide +kernel)⟩
theorem lw_p4 : lw_okq (⟨"SpanBench$Mover", "shorten", "(II)V"⟩, 9) := ⟨⟨by decide +kernel, by decide +kernel⟩, List.mem_of_getElem? (i := 48) (by decide +kernel), List.mem_of_getElem? (i := 393) (by decide +kernel), List.mem_of_getElem? (i := 394) (by decide +kernel)⟩
theorem lw_p5 : lw_okq (⟨"SpanBench$Mover", "bringLastBehind", "(I[I)V"⟩, 9) := ⟨⟨by decide +kernel, by decide +kernel⟩, List.mem_of_getElem? (i := 48) (by decide +kernel), List.mem_of_getElem? (i := 397) (by decide +kernel), List.mem_of_getElem? (i := 398) (by decide +kernel)⟩
theorem lw_p6 : lw_okq (⟨"SpanBench", "followMover", "()V"⟩, 11) := ⟨⟨by decide +kernel, by decide +kernel⟩, List.mem_of_getElem? (i := 13) (by decide +kernel), List.mem_of_getElem? (i := 401) (by decide +kernel), List.mem_of_getElem? (i := 402) (by decide +kernel)⟩
theorem lw_p7 : lw_okq (⟨"SpanBench$Mover", "productA", "(ILSpanBench$Mover;)J"⟩, 9) := ⟨⟨by decide +kernel, by decide +kernel⟩, List.mem_of_getElem? (i := 48) (by decide +kernel), List.mem_of_getElem? (i := 433) (by decide +kernel), List.mem_of_getElem? (i := 434) (by decide +kernel)⟩
theorem lw_p8 : lw_okq (⟨"SpanBench$Mover", "productB", "(ILSpanBench$Mover;)J"⟩, 9) := ⟨⟨by decide +kernel, by decide +kernel⟩, List.mem_of_getElem? (i := 48) (by decide +kernel), List.mem_of_getElem? (i := 437) (by decide +kernel), List.mem_of_getElem? (i := 438) (by decide +kernel)⟩
theorem lw_p9 : lw_okq (⟨"SpanBench$Heaps", "drawPieces", "(LSpanBench$Way;)V"⟩, 6) := ⟨⟨by decide +kernel, by decide +kernel⟩, List.mem_of_getElem? (i := 156) (by decide +kernel), List.mem_of_getElem? (i := 450) (by decide +kernel), List.mem_of_getElem? (i := 451) (by decide +kernel)⟩
theorem lw_p10 : lw_okq (⟨"SpanBench$Heaps", "measure", "(II)V"⟩, 6) := ⟨⟨by decide +kernel, by decide +kernel⟩, List.mem_of_getElem? (i := 156) (by decide +kernel), List.mem_of_getElem? (i := 454) (by decide +kernel), List.mem_of_getElem? (i := 455) (by decide +kernel)⟩
theorem lw_p11 : lw_okq (⟨"SpanBench$Heaps", "takeOut", "()V"⟩, 6) := ⟨⟨by decide +kernel, by decide +kernel⟩, List.mem_of_getElem? (i := 156) (by decide +kernel), List.mem_of_getElem? (i := 461) (by decide +kernel), List.mem_of_getElem? (i := 462) (by decide +kernel)⟩
theorem lw_p12 : lw_okq (⟨"SpanBench", "beginningsBehind", "(II)I"⟩, 11) := ⟨⟨by decide +kernel, by decide +kernel⟩, List.mem_of_getElem? (i := 13) (by decide +kernel), List.mem_of_getElem? (i := 473) (by decide +kernel), List.mem_of_getElem? (i := 474) (by decide +kernel)⟩
theorem lw_p13 : lw_okq (⟨"SpanBench$Kin", "nameByPlaceAbove", "(LSpanBench$Mover;)V"⟩, 6) := ⟨⟨by decide +kernel, by decide +kernel⟩, List.mem_of_getElem? (i := 185) (by decide +kernel), List.mem_of_getElem? (i := 489) (by decide +kernel), List.mem_of_getElem? (i := 490) (by decide +kernel)⟩
theorem lw_p14 : lw_okq (⟨"SpanBench$Kin", "takeNext", "()V"⟩, 6) := ⟨⟨by decide +kernel, by decide +kernel⟩, List.mem_of_getElem? (i := 185) (by decide +kernel), List.mem_of_getElem? (i := 493) (by decide +kernel), List.mem_of_getElem? (i := 494) (by decide +kernel)⟩
theorem lw_p15 : lw_okq (⟨"SpanBench$Kin", "rankOfNext", "()I"⟩, 6) := ⟨⟨by decide +kernel, by decide +kernel⟩, List.mem_of_getElem? (i := 185) (by decide +kernel), List.mem_of_getElem? (i := 497) (by decide +kernel), List.mem_of_getElem? (i := 498) (by decide +kernel)⟩
def lw_privs_1 : List (MethodName × Nat) := [(⟨"SpanBench", "canBe", "(III)Z"⟩, 11), (⟨"SpanBench", "drawWays", "()V"⟩, 11), (⟨"SpanBench$Way", "isLeftOf", "(JJI)Z"⟩, 7), (⟨"SpanBench$Mover", "isSpentBy", "(II)Z"⟩, 9), (⟨"SpanBench$Mover", "shorten", "(II)V"⟩, 9), (⟨"SpanBench$Mover", "bringLastBehind", "(I[I)V"⟩, 9), (⟨"SpanBench", "followMover", "()V"⟩, 11), (⟨"SpanBench$Mover", "productA", "(ILSpanBench$Mover;)J"⟩, 9), (⟨"SpanBench$Mover", "productB", "(ILSpanBench$Mover;)J"⟩, 9), (⟨"SpanBench$Heaps", "drawPieces", "(LSpanBench$Way;)V"⟩, 6), (⟨"SpanBench$Heaps", "measure", "(II)V"⟩, 6), (⟨"SpanBench$Heaps", "takeOut", "()V"⟩, 6), (⟨"SpanBench", "beginningsBehind", "(II)I"⟩, 11), (⟨"SpanBench$Kin", "nameByPlaceAbove", "(LSpanBench$Mover;)V"⟩, 6), (⟨"SpanBench$Kin", "takeNext", "()V"⟩, 6), (⟨"SpanBench$Kin", "rankOfNext", "()I"⟩, 6)]
theorem lw_r1 : ∀ q ∈ lw_privs_1, lw_okq q := List.forall_mem_cons.mpr ⟨lw_p0, List.forall_mem_cons.mpr ⟨lw_p1, List.forall_mem_cons.mpr ⟨lw_p2, List.forall_mem_cons.mpr ⟨lw_p3, List.forall_mem_cons.mpr ⟨lw_p4, List.forall_mem_cons.mpr ⟨lw_p5, List.forall_mem_cons.mpr ⟨lw_p6, List.forall_mem_cons.mpr ⟨lw_p7, List.forall_mem_cons.mpr ⟨lw_p8, List.forall_mem_cons.mpr ⟨lw_p9, List.forall_mem_cons.mpr ⟨lw_p10, List.forall_mem_cons.mpr ⟨lw_p11, List.forall_mem_cons.mpr ⟨lw_p12, List.forall_mem_cons.mpr ⟨lw_p13, List.forall_mem_cons.mpr ⟨lw_p14, List.forall_mem_cons.mpr ⟨lw_p15, fun _ h => absurd h List.not_mem_nil⟩⟩⟩⟩⟩⟩⟩⟩⟩⟩⟩⟩⟩⟩⟩⟩
theorem lw_p16 : lw_okq (⟨"SpanBench$Kin", "packNext", "()I"⟩, 6) := ⟨⟨by decide +kernel, by decide +kernel⟩, List.mem_of_getElem? (i := 185) (by decide +kernel), List.mem_of_getElem? (i := 501) (by decide +kernel), List.mem_of_getElem? (i := 502) (by decide +kernel)⟩
theorem lw_p17 : lw_okq (⟨"SpanBench$Kin", "unpack", "(I)V"⟩, 6) := ⟨⟨by decide +kernel, by decide +kernel⟩, List.mem_of_getElem? (i := 185) (by decide +kernel), List.mem_of_getElem? (i := 505) (by decide +kernel), List.mem_of_getElem? (i := 506) (by decide +kernel)⟩
theorem lw_p18 : lw_okq (⟨"SpanBench$Kin", "letUWin", "()V"⟩, 6) := ⟨⟨by decide +kernel, by decide +kernel⟩, List.mem_of_getElem? (i := 185) (by decide +kernel), List.mem_of_getElem? (i := 509) (by decide +kernel), List.mem_of_getElem? (i := 510) (by decide +kernel)⟩
theorem lw_p19 : lw_okq (⟨"SpanBench$Kin", "letVWin", "()V"⟩, 6) := ⟨⟨by decide +kernel, by decide +kernel⟩, List.mem_of_getElem? (i := 185) (by decide +kernel), List.mem_of_getElem? (i := 513) (by decide +kernel), List.mem_of_getElem? (i := 514) (by decide +kernel)⟩
theorem lw_p20 : lw_okq (⟨"SpanBench$Figure", "cornerBelow", "(I)I"⟩, 2) := ⟨⟨by decide +kernel, by decide +kernel⟩, List.mem_of_getElem? (i := 211) (by decide +kernel), List.mem_of_getElem? (i := 525) (by decide +kernel), List.mem_of_getElem? (i := 526) (by decide +kernel)⟩
theorem lw_p21 : lw_okq (⟨"SpanBench$Figure", "join", "(II)V"⟩, 2) := ⟨⟨by decide +kernel, by decide +kernel⟩, List.mem_of_getElem? (i := 211) (by decide +kernel), List.mem_of_getElem? (i := 529) (by decide +kernel), List.mem_of_getElem? (i := 530) (by decide +kernel)⟩
theorem lw_p22 : lw_okq (⟨"SpanBench$Figure", "turnsAt", "(I)I"⟩, 2) := ⟨⟨by decide +kernel, by decide +kernel⟩, List.mem_of_getElem? (i := 211) (by decide +kernel), List.mem_of_getElem? (i := 541) (by decide +kernel), List.mem_of_getElem? (i := 542) (by decide +kernel)⟩
theorem lw_p23 : lw_okq (⟨"SpanBenchModel", "forgets", "()V"⟩, 39) := ⟨⟨by decide +kernel, by decide +kernel⟩, List.mem_of_getElem? (i := 552) (by decide +kernel), List.mem_of_getElem? (i := 680) (by decide +kernel), List.mem_of_getElem? (i := 681) (by decide +kernel)⟩
theorem lw_p24 : lw_okq (⟨"SpanBenchModel", "signOf", "(JJ)I"⟩, 39) := ⟨⟨by decide +kernel, by decide +kernel⟩, List.mem_of_getElem? (i := 552) (by decide +kernel), List.mem_of_getElem? (i := 692) (by decide +kernel), List.mem_of_getElem? (i := 693) (by decide +kernel)⟩
theorem lw_p25 : lw_okq (⟨"SpanBenchModel", "parted", "()I"⟩, 39) := ⟨⟨by decide +kernel, by decide +kernel⟩, List.mem_of_getElem? (i := 552) (by decide +kernel), List.mem_of_getElem? (i := 708) (by decide +kernel), List.mem_of_getElem? (i := 709) (by decide +kernel)⟩
theorem lw_p26 : lw_okq (⟨"SpanBenchModel", "total", "(I)J"⟩, 39) := ⟨⟨by decide +kernel, by decide +kernel⟩, List.mem_of_getElem? (i := 552) (by decide +kernel), List.mem_of_getElem? (i := 716) (by decide +kernel), List.mem_of_getElem? (i := 717) (by decide +kernel)⟩
theorem lw_p27 : lw_okq (⟨"SpanBenchModel", "isOnLine", "(JJ)Z"⟩, 39) := ⟨⟨by decide +kernel, by decide +kernel⟩, List.mem_of_getElem? (i := 552) (by decide +kernel), List.mem_of_getElem? (i := 732) (by decide +kernel), List.mem_of_getElem? (i := 733) (by decide +kernel)⟩
theorem lw_p28 : lw_okq (⟨"SpanBenchModel", "spanAt", "([IJJ)I"⟩, 39) := ⟨⟨by decide +kernel, by decide +kernel⟩, List.mem_of_getElem? (i := 552) (by decide +kernel), List.mem_of_getElem? (i := 736) (by decide +kernel), List.mem_of_getElem? (i := 737) (by decide +kernel)⟩
theorem lw_p29 : lw_okq (⟨"SpanBenchModel", "goes", "(JJZ)V"⟩, 39) := ⟨⟨by decide +kernel, by decide +kernel⟩, List.mem_of_getElem? (i := 552) (by decide +kernel), List.mem_of_getElem? (i := 744) (by decide +kernel), List.mem_of_getElem? (i := 745) (by decide +kernel)⟩
theorem lw_p30 : lw_okq (⟨"SpanBenchModel", "begins", "([II)V"⟩, 39) := ⟨⟨by decide +kernel, by decide +kernel⟩, List.mem_of_getElem? (i := 552) (by decide +kernel), List.mem_of_getElem? (i := 748) (by decide +kernel), List.mem_of_getElem? (i := 749) (by decide +kernel)⟩
theorem lw_p31 : lw_okq (⟨"SpanBenchModel", "brings", "([III)V"⟩, 39) := ⟨⟨by decide +kernel, by decide +kernel⟩, List.mem_of_getElem? (i := 552) (by decide +kernel), List.mem_of_getElem? (i := 770) (by decide +kernel), List.mem_of_getElem? (i := 771) (by decide +kernel)⟩
def lw_privs_2 : List (MethodName × Nat) := [(⟨"SpanBench$Kin", "packNext", "()I"⟩, 6), (⟨"SpanBench$Kin", "unpack", "(I)V"⟩, 6), (⟨"SpanBench$Kin", "letUWin", "()V"⟩, 6), (⟨"SpanBench$Kin", "letVWin", "()V"⟩, 6), (⟨"SpanBench$Figure", "cornerBelow", "(I)I"⟩, 2), (⟨"SpanBench$Figure", "join", "(II)V"⟩, 2), (⟨"SpanBench$Figure", "turnsAt", "(I)I"⟩, 2), (⟨"SpanBenchModel", "forgets", "()V"⟩, 39), (⟨"SpanBenchModel", "signOf", "(JJ)I"⟩, 39), (⟨"SpanBenchModel", "parted", "()I"⟩, 39), (⟨"SpanBenchModel", "total", "(I)J"⟩, 39), (⟨"SpanBenchModel", "isOnLine", "(JJ)Z"⟩, 39), (⟨"SpanBenchModel", "spanAt", "([IJJ)I"⟩, 39), (⟨"SpanBenchModel", "goes", "(JJZ)V"⟩, 39), (⟨"SpanBenchModel", "begins", "([II)V"⟩, 39), (⟨"SpanBenchModel", "brings", "([III)V"⟩, 39)]
theorem lw_r2 : ∀ q ∈ lw_privs_2, lw_okq q := List.forall_mem_cons.mpr ⟨lw_p16, List.forall_mem_cons.mpr ⟨lw_p17, List.forall_mem_cons.mpr ⟨lw_p18, List.forall_mem_cons.mpr ⟨lw_p19, List.forall_mem_cons.mpr ⟨lw_p20, List.forall_mem_cons.mpr ⟨lw_p21, List.forall_mem_cons.mpr ⟨lw_p22, List.forall_mem_cons.mpr ⟨lw_p23, List.forall_mem_cons.mpr ⟨lw_p24, List.forall_mem_cons.mpr ⟨lw_p25, List.forall_mem_cons.mpr ⟨lw_p26, List.forall_mem_cons.mpr ⟨lw_p27, List.forall_mem_cons.mpr ⟨lw_p28, List.forall_mem_cons.mpr ⟨lw_p29, List.forall_mem_cons.mpr ⟨lw_p30, List.forall_mem_cons.mpr ⟨lw_p31, fun _ h => absurd h List.not_mem_nil⟩⟩⟩⟩⟩⟩⟩⟩⟩⟩⟩⟩⟩⟩⟩⟩
theorem lw_p32 : lw_okq (⟨"SpanBenchModel", "isLoop", "()Z"⟩, 39) := ⟨⟨by decide +kernel, by decide +kernel⟩, List.mem_of_getElem? (i := 552) (by decide +kernel), List.mem_of_getElem? (i := 788) (by decide +kernel), List.mem_of_getElem? (i := 789) (by decide +kernel)⟩
theorem lw_p33 : lw_okq (⟨"SpanBenchModel", "isShare", "(I)Z"⟩, 39) := ⟨⟨by decide +kernel, by decide +kernel⟩, List.mem_of_getElem? (i := 552) (by decide +kernel), List.mem_of_getElem? (i := 792) (by decide +kernel), List.mem_of_getElem? (i := 793) (by decide +kernel)⟩
theorem lw_p34 : lw_okq (⟨"SpanBenchModel", "pieces", "()I"⟩, 39) := ⟨⟨by decide +kernel, by decide +kernel⟩, List.mem_of_getElem? (i := 552) (by decide +kernel), List.mem_of_getElem? (i := 801) (by decide +kernel), List.mem_of_getElem? (i := 802) (by decide +kernel)⟩
theorem lw_p35 : lw_okq (⟨"SpanBenchModel", "isJoined", "(II)Z"⟩, 39) := ⟨⟨by decide +kernel, by decide +kernel⟩, List.mem_of_getElem? (i := 552) (by decide +kernel), List.mem_of_getElem? (i := 805) (by decide +kernel), List.mem_of_getElem? (i := 806) (by decide +kernel)⟩
theorem lw_p36 : lw_okq (⟨"SpanBenchModel", "numbered", "()I"⟩, 39) := ⟨⟨by decide +kernel, by decide +kernel⟩, List.mem_of_getElem? (i := 552) (by decide +kernel), List.mem_of_getElem? (i := 821) (by decide +kernel), List.mem_of_getElem? (i := 822) (by decide +kernel)⟩
theorem lw_p37 : lw_okq (⟨"SpanBenchModel", "notes", "(I)V"⟩, 39) := ⟨⟨by decide +kernel, by decide +kernel⟩, List.mem_of_getElem? (i := 552) (by decide +kernel), List.mem_of_getElem? (i := 825) (by decide +kernel), List.mem_of_getElem? (i := 826) (by decide +kernel)⟩
theorem lw_p38 : lw_okq (⟨"SpanBenchModel", "takes", "(I)V"⟩, 39) := ⟨⟨by decide +kernel, by decide +kernel⟩, List.mem_of_getElem? (i := 552) (by decide +kernel), List.mem_of_getElem? (i := 829) (by decide +kernel), List.mem_of_getElem? (i := 830) (by decide +kernel)⟩
theorem lw_p39 : lw_okq (⟨"SpanBenchModel", "placeOf", "([II)I"⟩, 39) := ⟨⟨by decide +kernel, by decide +kernel⟩, List.mem_of_getElem? (i := 552) (by decide +kernel), List.mem_of_getElem? (i := 837) (by decide +kernel), List.mem_of_getElem? (i := 838) (by decide +kernel)⟩
theorem lw_p40 : lw_okq (⟨"SpanBenchModel", "cornerOf", "(II)I"⟩, 39) := ⟨⟨by decide +kernel, by decide +kernel⟩, List.mem_of_getElem? (i := 552) (by decide +kernel), List.mem_of_getElem? (i := 841) (by decide +kernel), List.mem_of_getElem? (i := 842) (by decide +kernel)⟩
theorem lw_p41 : lw_okq (⟨"SpanBenchModel", "glues", "(II)V"⟩, 39) := ⟨⟨by decide +kernel, by decide +kernel⟩, List.mem_of_getElem? (i := 552) (by decide +kernel), List.mem_of_getElem? (i := 845) (by decide +kernel), List.mem_of_getElem? (i := 846) (by decide +kernel)⟩
def lw_privs_3 : List (MethodName × Nat) := [(⟨"SpanBenchModel", "isLoop", "()Z"⟩, 39), (⟨"SpanBenchModel", "isShare", "(I)Z"⟩, 39), (⟨"SpanBenchModel", "pieces", "()I"⟩, 39), (⟨"SpanBenchModel", "isJoined", "(II)Z"⟩, 39), (⟨"SpanBenchModel", "numbered", "()I"⟩, 39), (⟨"SpanBenchModel", "notes", "(I)V"⟩, 39), (⟨"SpanBenchModel", "takes", "(I)V"⟩, 39), (⟨"SpanBenchModel", "placeOf", "([II)I"⟩, 39), (⟨"SpanBenchModel", "cornerOf", "(II)I"⟩, 39), (⟨"SpanBenchModel", "glues", "(II)V"⟩, 39)]
theorem lw_r3 : ∀ q ∈ lw_privs_3, lw_okq q := List.forall_mem_cons.mpr ⟨lw_p32, List.forall_mem_cons.mpr ⟨lw_p33, List.forall_mem_cons.mpr ⟨lw_p34, List.forall_mem_cons.mpr ⟨lw_p35, List.forall_mem_cons.mpr ⟨lw_p36, List.forall_mem_cons.mpr ⟨lw_p37, List.forall_mem_cons.mpr ⟨lw_p38, List.forall_mem_cons.mpr ⟨lw_p39, List.forall_mem_cons.mpr ⟨lw_p40, List.forall_mem_cons.mpr ⟨lw_p41, fun _ h => absurd h List.not_mem_nil⟩⟩⟩⟩⟩⟩⟩⟩⟩⟩
def lw_privs : List (MethodName × Nat) := lw_privs_1 ++ (lw_privs_2 ++ (lw_privs_3))
def lw_tbl : List Cond := k2_sels lw_privs ++ tables_1
theorem lw_privs_ok : ∀ q ∈ lw_privs, lw_okq q := by
  show ∀ q ∈ lw_privs_1 ++ (lw_privs_2 ++ (lw_privs_3)), lw_okq q
  exact List.forall_mem_append.mpr ⟨lw_r1, List.forall_mem_append.mpr ⟨lw_r2, lw_r3⟩⟩

def RX0 : String := "SpanBench$Figure"
def TX0 : u_T := fun k => match k with
  | 0 => ("SpanBench$Figure", "count", "I", false)
  | _ => ("SpanBench$Figure", "name", "[I", true)
def tyX0 : Nat → FieldType := fun k => match k with
  | 0 => .int
  | _ => .array .int
abbrev wsX00 : List Cond := u_ws RX0 TX0 2
theorem nmX0 : ∀ a, a < 2 → ∀ b, b < 2 → a ≠ b → (TX0 a).2.1 ≠ (TX0 b).2.1 := by decide +kernel
theorem tyX0_ok : ∀ k, k < 2 → parseFieldDescriptor (TX0 k).2.2.1 = some (tyX0 k) := by decide +kernel
abbrev cX0_init : ByteArray := prog_2_method_1_code
def yX0_init : MethodName := ⟨RX0, "<init>", "()V"⟩
abbrev cX0_glue : ByteArray := prog_2_method_2_code
def yX0_glue : MethodName := ⟨RX0, "glue", "(LSpanBench$Mover;)V"⟩
abbrev cX0_points : ByteArray := prog_2_method_3_code
def yX0_points : MethodName := ⟨RX0, "points", "()I"⟩
abbrev cX0_mostTurns : ByteArray := prog_2_method_4_code
def yX0_mostTurns : MethodName := ⟨RX0, "mostTurns", "()I"⟩
abbrev cX0_pointsWithOneTurn : ByteArray := prog_2_method_5_code
def yX0_pointsWithOneTurn : MethodName := ⟨RX0, "pointsWithOneTurn", "()I"⟩
abbrev cX0_turnsAt : ByteArray := prog_2_method_6_code
def yX0_turnsAt : MethodName := ⟨RX0, "turnsAt", "(I)I"⟩
abbrev cX0_cornerBelow : ByteArray := prog_2_method_7_code
def yX0_cornerBelow : MethodName := ⟨RX0, "cornerBelow", "(I)I"⟩
abbrev cX0_join : ByteArray := prog_2_method_8_code
def yX0_join : MethodName := ⟨RX0, "join", "(II)V"⟩
def RX1 : String := "SpanBench$Heaps"
def TX1 : u_T := fun k => match k with
  | 0 => ("SpanBench$Heaps", "count", "I", false)
  | 1 => ("SpanBench$Heaps", "width", "[I", true)
  | 2 => ("SpanBench$Heaps", "times", "[I", true)
  | 3 => ("SpanBench$Heaps", "least", "[I", true)
  | 4 => ("SpanBench$Heaps", "to", "[I", true)
  | _ => ("SpanBench$Heaps", "room", "[I", true)
def tyX1 : Nat → FieldType := fun k => match k with
  | 0 => .int
  | 1 => .array .int
  | 2 => .array .int
  | 3 => .array .int
  | 4 => .array .int
  | _ => .array .int
abbrev wsX10 : List Cond := u_ws RX1 TX1 6
theorem nmX1 : ∀ a, a < 6 → ∀ b, b < 6 → a ≠ b → (TX1 a).2.1 ≠ (TX1 b).2.1 := by decide +kernel
theorem tyX1_ok : ∀ k, k < 6 → parseFieldDescriptor (TX1 k).2.2.1 = some (tyX1 k) := by decide +kernel
abbrev cX1_init : ByteArray := prog_3_method_1_code
def yX1_init : MethodName := ⟨RX1, "<init>", "()V"⟩
abbrev cX1_tell : ByteArray := prog_3_method_2_code
def yX1_tell : MethodName := ⟨RX1, "tell", "(LSpanBench$Way;I)V"⟩
abbrev cX1_drawPieces : ByteArray := prog_3_method_3_code
def yX1_drawPieces : MethodName := ⟨RX1, "drawPieces", "(LSpanBench$Way;)V"⟩
abbrev cX1_measure : ByteArray := prog_3_method_4_code
def yX1_measure : MethodName := ⟨RX1, "measure", "(II)V"⟩
abbrev cX1_takeOut : ByteArray := prog_3_method_5_code
def yX1_takeOut : MethodName := ⟨RX1, "takeOut", "()V"⟩
def RX2 : String := "SpanBench$Kin"
def TX2 : u_T := fun k => match k with
  | 0 => ("SpanBench$Kin", "count", "I", false)
  | 1 => ("SpanBench$Kin", "found", "I", false)
  | 2 => ("SpanBench$Kin", "met", "[Z", true)
  | 3 => ("SpanBench$Kin", "packed", "[I", true)
  | 4 => ("SpanBench$Kin", "line", "[I", true)
  | _ => ("SpanBench$Kin", "next", "[I", true)
def tyX2 : Nat → FieldType := fun k => match k with
  | 0 => .int
  | 1 => .int
  | 2 => .array .boolean
  | 3 => .array .int
  | 4 => .array .int
  | _ => .array .int
abbrev wsX20 : List Cond := u_ws RX2 TX2 6
theorem nmX2 : ∀ a, a < 6 → ∀ b, b < 6 → a ≠ b → (TX2 a).2.1 ≠ (TX2 b).2.1 := by decide +kernel
theorem tyX2_ok : ∀ k, k < 6 → parseFieldDescriptor (TX2 k).2.2.1 = some (tyX2 k) := by decide +kernel
abbrev cX2_init : ByteArray := prog_4_method_1_code
def yX2_init : MethodName := ⟨RX2, "<init>", "()V"⟩
abbrev cX2_countFrom : ByteArray := prog_4_method_2_code
def yX2_countFrom : MethodName := ⟨RX2, "countFrom", "(LSpanBench$Mover;)I"⟩
abbrev cX2_nameByPlaceAbove : ByteArray := prog_4_method_3_code
def yX2_nameByPlaceAbove : MethodName := ⟨RX2, "nameByPlaceAbove", "(LSpanBench$Mover;)V"⟩
abbrev cX2_letUWin : ByteArray := prog_4_method_4_code
def yX2_letUWin : MethodName := ⟨RX2, "letUWin", "()V"⟩
abbrev cX2_letVWin : ByteArray := prog_4_method_5_code
def yX2_letVWin : MethodName := ⟨RX2, "letVWin", "()V"⟩
abbrev cX2_takeNext : ByteArray := prog_4_method_6_code
def yX2_takeNext : MethodName := ⟨RX2, "takeNext", "()V"⟩
abbrev cX2_rankOfNext : ByteArray := prog_4_method_7_code
def yX2_rankOfNext : MethodName := ⟨RX2, "rankOfNext", "()I"⟩
abbrev cX2_packNext : ByteArray := prog_4_method_8_code
def yX2_packNext : MethodName := ⟨RX2, "packNext", "()I"⟩
abbrev cX2_unpack : ByteArray := prog_4_method_9_code
def yX2_unpack : MethodName := ⟨RX2, "unpack", "(I)V"⟩
def RX3 : String := "SpanBench$Mover"
def TX3 : u_T := fun k => match k with
  | 0 => ("SpanBench$Mover", "count", "I", false)
  | 1 => ("SpanBench$Mover", "root", "I", false)
  | 2 => ("SpanBench$Mover", "stepsDone", "I", false)
  | 3 => ("SpanBench$Mover", "stepsOfU", "I", false)
  | 4 => ("SpanBench$Mover", "partA", "[I", true)
  | 5 => ("SpanBench$Mover", "partB", "[I", true)
  | 6 => ("SpanBench$Mover", "above", "[I", true)
  | 7 => ("SpanBench$Mover", "under", "[I", true)
  | _ => ("SpanBench$Mover", "sums", "[J", true)
def tyX3 : Nat → FieldType := fun k => match k with
  | 0 => .int
  | 1 => .int
  | 2 => .int
  | 3 => .int
  | 4 => .array .int
  | 5 => .array .int
  | 6 => .array .int
  | 7 => .array .int
  | _ => .array .long
abbrev wsX30 : List Cond := u_ws RX3 TX3 9
theorem nmX3 : ∀ a, a < 9 → ∀ b, b < 9 → a ≠ b → (TX3 a).2.1 ≠ (TX3 b).2.1 := by decide +kernel
theorem tyX3_ok : ∀ k, k < 9 → parseFieldDescriptor (TX3 k).2.2.1 = some (tyX3 k) := by decide +kernel
abbrev cX3_init : ByteArray := prog_5_method_1_code
def yX3_init : MethodName := ⟨RX3, "<init>", "()V"⟩
abbrev cX3_layFrom : ByteArray := prog_5_method_2_code
def yX3_layFrom : MethodName := ⟨RX3, "layFrom", "(LSpanBench$Sheet;I)V"⟩
abbrev cX3_copyFrom : ByteArray := prog_5_method_3_code
def yX3_copyFrom : MethodName := ⟨RX3, "copyFrom", "(LSpanBench$Mover;)V"⟩
abbrev cX3_partedAt : ByteArray := prog_5_method_4_code
def yX3_partedAt : MethodName := ⟨RX3, "partedAt", "()I"⟩
abbrev cX3_advance : ByteArray := prog_5_method_5_code
def yX3_advance : MethodName := ⟨RX3, "advance", "()I"⟩
abbrev cX3_hasOrdersOf : ByteArray := prog_5_method_6_code
def yX3_hasOrdersOf : MethodName := ⟨RX3, "hasOrdersOf", "(LSpanBench$Mover;)Z"⟩
abbrev cX3_hasSharesOf : ByteArray := prog_5_method_7_code
def yX3_hasSharesOf : MethodName := ⟨RX3, "hasSharesOf", "(LSpanBench$Mover;)Z"⟩
abbrev cX3_productA : ByteArray := prog_5_method_8_code
def yX3_productA : MethodName := ⟨RX3, "productA", "(ILSpanBench$Mover;)J"⟩
abbrev cX3_productB : ByteArray := prog_5_method_9_code
def yX3_productB : MethodName := ⟨RX3, "productB", "(ILSpanBench$Mover;)J"⟩
abbrev cX3_isSpentBy : ByteArray := prog_5_method_10_code
def yX3_isSpentBy : MethodName := ⟨RX3, "isSpentBy", "(II)Z"⟩
abbrev cX3_shorten : ByteArray := prog_5_method_11_code
def yX3_shorten : MethodName := ⟨RX3, "shorten", "(II)V"⟩
abbrev cX3_bringLastBehind : ByteArray := prog_5_method_12_code
def yX3_bringLastBehind : MethodName := ⟨RX3, "bringLastBehind", "(I[I)V"⟩
def RX4 : String := "SpanBench$Sheet"
def TX4 : u_T := fun k => match k with
  | 0 => ("SpanBench$Sheet", "count", "I", false)
  | 1 => ("SpanBench$Sheet", "partA", "[I", true)
  | 2 => ("SpanBench$Sheet", "partB", "[I", true)
  | _ => ("SpanBench$Sheet", "under", "[I", true)
def tyX4 : Nat → FieldType := fun k => match k with
  | 0 => .int
  | 1 => .array .int
  | 2 => .array .int
  | _ => .array .int
abbrev wsX40 : List Cond := u_ws RX4 TX4 4
theorem nmX4 : ∀ a, a < 4 → ∀ b, b < 4 → a ≠ b → (TX4 a).2.1 ≠ (TX4 b).2.1 := by decide +kernel
theorem tyX4_ok : ∀ k, k < 4 → parseFieldDescriptor (TX4 k).2.2.1 = some (tyX4 k) := by decide +kernel
abbrev cX4_init : ByteArray := prog_6_method_1_code
def yX4_init : MethodName := ⟨RX4, "<init>", "()V"⟩
abbrev cX4_clear : ByteArray := prog_6_method_2_code
def yX4_clear : MethodName := ⟨RX4, "clear", "()V"⟩
abbrev cX4_takeOrder : ByteArray := prog_6_method_3_code
def yX4_takeOrder : MethodName := ⟨RX4, "takeOrder", "(II)Z"⟩
abbrev cX4_hasAllLengths : ByteArray := prog_6_method_4_code
def yX4_hasAllLengths : MethodName := ⟨RX4, "hasAllLengths", "()Z"⟩
abbrev cX4_nibble : ByteArray := prog_6_method_5_code
def yX4_nibble : MethodName := ⟨RX4, "nibble", "(II)I"⟩
def RX5 : String := "SpanBench$Spot"
def TX5 : u_T := fun k => match k with
  | 0 => ("SpanBench$Spot", "there", "Z", false)
  | 1 => ("SpanBench$Spot", "a", "J", false)
  | _ => ("SpanBench$Spot", "b", "J", false)
def tyX5 : Nat → FieldType := fun k => match k with
  | 0 => .boolean
  | 1 => .long
  | _ => .long
abbrev wsX50 : List Cond := u_ws RX5 TX5 3
theorem nmX5 : ∀ a, a < 3 → ∀ b, b < 3 → a ≠ b → (TX5 a).2.1 ≠ (TX5 b).2.1 := by decide +kernel
theorem tyX5_ok : ∀ k, k < 3 → parseFieldDescriptor (TX5 k).2.2.1 = some (tyX5 k) := by decide +kernel
abbrev cX5_init : ByteArray := prog_7_method_1_code
def yX5_init : MethodName := ⟨RX5, "<init>", "()V"⟩
abbrev cX5_put : ByteArray := prog_7_method_2_code
def yX5_put : MethodName := ⟨RX5, "put", "(JJ)V"⟩
def RX6 : String := "SpanBench$Way"
def TX6 : u_T := fun k => match k with
  | 0 => ("SpanBench$Way", "count", "I", false)
  | 1 => ("SpanBench$Way", "root", "I", false)
  | 2 => ("SpanBench$Way", "span", "[I", true)
  | 3 => ("SpanBench$Way", "edgeA", "[J", true)
  | 4 => ("SpanBench$Way", "edgeB", "[J", true)
  | 5 => ("SpanBench$Way", "shiftA", "[J", true)
  | _ => ("SpanBench$Way", "shiftB", "[J", true)
def tyX6 : Nat → FieldType := fun k => match k with
  | 0 => .int
  | 1 => .int
  | 2 => .array .int
  | 3 => .array .long
  | 4 => .array .long
  | 5 => .array .long
  | _ => .array .long
abbrev wsX60 : List Cond := u_ws RX6 TX6 7
theorem nmX6 : ∀ a, a < 7 → ∀ b, b < 7 → a ≠ b → (TX6 a).2.1 ≠ (TX6 b).2.1 := by decide +kernel
theorem tyX6_ok : ∀ k, k < 7 → parseFieldDescriptor (TX6 k).2.2.1 = some (tyX6 k) := by decide +kernel
abbrev cX6_init : ByteArray := prog_8_method_1_code
def yX6_init : MethodName := ⟨RX6, "<init>", "()V"⟩
abbrev cX6_draw : ByteArray := prog_8_method_2_code
def yX6_draw : MethodName := ⟨RX6, "draw", "(LSpanBench$Mover;[I[I)V"⟩
abbrev cX6_covers : ByteArray := prog_8_method_3_code
def yX6_covers : MethodName := ⟨RX6, "covers", "(JJ)Z"⟩
abbrev cX6_spanAt : ByteArray := prog_8_method_4_code
def yX6_spanAt : MethodName := ⟨RX6, "spanAt", "(LSpanBench$Spot;)I"⟩
abbrev cX6_carry : ByteArray := prog_8_method_5_code
def yX6_carry : MethodName := ⟨RX6, "carry", "(LSpanBench$Spot;)Z"⟩
abbrev cX6_shift : ByteArray := prog_8_method_6_code
def yX6_shift : MethodName := ⟨RX6, "shift", "(LSpanBench$Spot;I)Z"⟩
abbrev cX6_isLeftEnd : ByteArray := prog_8_method_7_code
def yX6_isLeftEnd : MethodName := ⟨RX6, "isLeftEnd", "(LSpanBench$Spot;)Z"⟩
abbrev cX6_isLeftOf : ByteArray := prog_8_method_8_code
def yX6_isLeftOf : MethodName := ⟨RX6, "isLeftOf", "(JJI)Z"⟩
def RX7 : String := "SpanBench"
def TX7 : u_T := fun k => match k with
  | 0 => ("SpanBench", "rootNow", "I", false)
  | 1 => ("SpanBench", "sheet", "LSpanBench$Sheet;", true)
  | 2 => ("SpanBench", "mover", "LSpanBench$Mover;", true)
  | 3 => ("SpanBench", "trial", "LSpanBench$Mover;", true)
  | 4 => ("SpanBench", "forwards", "LSpanBench$Way;", true)
  | 5 => ("SpanBench", "backwards", "LSpanBench$Way;", true)
  | 6 => ("SpanBench", "spot", "LSpanBench$Spot;", true)
  | 7 => ("SpanBench", "walker", "LSpanBench$Spot;", true)
  | 8 => ("SpanBench", "heaps", "LSpanBench$Heaps;", true)
  | 9 => ("SpanBench", "kin", "LSpanBench$Kin;", true)
  | _ => ("SpanBench", "figure", "LSpanBench$Figure;", true)
def tyX7 : Nat → FieldType := fun k => match k with
  | 0 => .int
  | 1 => .object "SpanBench$Sheet"
  | 2 => .object "SpanBench$Mover"
  | 3 => .object "SpanBench$Mover"
  | 4 => .object "SpanBench$Way"
  | 5 => .object "SpanBench$Way"
  | 6 => .object "SpanBench$Spot"
  | 7 => .object "SpanBench$Spot"
  | 8 => .object "SpanBench$Heaps"
  | 9 => .object "SpanBench$Kin"
  | _ => .object "SpanBench$Figure"
abbrev wsX70 : List Cond := u_ws RX7 TX7 11
theorem nmX7 : ∀ a, a < 11 → ∀ b, b < 11 → a ≠ b → (TX7 a).2.1 ≠ (TX7 b).2.1 := by decide +kernel
theorem tyX7_ok : ∀ k, k < 11 → parseFieldDescriptor (TX7 k).2.2.1 = some (tyX7 k) := by decide +kernel
abbrev cX7_init : ByteArray := prog_1_method_1_code
def yX7_init : MethodName := ⟨RX7, "<init>", "()V"⟩
abbrev cX7_root : ByteArray := prog_1_method_2_code
def yX7_root : MethodName := ⟨RX7, "root", "(I)Z"⟩
abbrev cX7_length : ByteArray := prog_1_method_3_code
def yX7_length : MethodName := ⟨RX7, "length", "(III)Z"⟩
abbrev cX7_below : ByteArray := prog_1_method_4_code
def yX7_below : MethodName := ⟨RX7, "below", "(II)Z"⟩
abbrev cX7_lay : ByteArray := prog_1_method_5_code
def yX7_lay : MethodName := ⟨RX7, "lay", "()I"⟩
abbrev cX7_of : ByteArray := prog_1_method_6_code
def yX7_of : MethodName := ⟨RX7, "of", "(I)I"⟩
abbrev cX7_spans : ByteArray := prog_1_method_7_code
def yX7_spans : MethodName := ⟨RX7, "spans", "(II)J"⟩
abbrev cX7_order : ByteArray := prog_1_method_8_code
def yX7_order : MethodName := ⟨RX7, "order", "(II)I"⟩
abbrev cX7_point : ByteArray := prog_1_method_9_code
def yX7_point : MethodName := ⟨RX7, "point", "(II)I"⟩
abbrev cX7_move : ByteArray := prog_1_method_10_code
def yX7_move : MethodName := ⟨RX7, "move", "(I)I"⟩
abbrev cX7_where : ByteArray := prog_1_method_11_code
def yX7_where : MethodName := ⟨RX7, "where", "(I)J"⟩
abbrev cX7_back : ByteArray := prog_1_method_12_code
def yX7_back : MethodName := ⟨RX7, "back", "(II)I"⟩
abbrev cX7_visits : ByteArray := prog_1_method_13_code
def yX7_visits : MethodName := ⟨RX7, "visits", "(II)I"⟩
abbrev cX7_step : ByteArray := prog_1_method_14_code
def yX7_step : MethodName := ⟨RX7, "step", "()I"⟩
abbrev cX7_steps : ByteArray := prog_1_method_15_code
def yX7_steps : MethodName := ⟨RX7, "steps", "(I)I"⟩
abbrev cX7_table : ByteArray := prog_1_method_16_code
def yX7_table : MethodName := ⟨RX7, "table", "(II)J"⟩
abbrev cX7_loop : ByteArray := prog_1_method_17_code
def yX7_loop : MethodName := ⟨RX7, "loop", "()I"⟩
abbrev cX7_rounds : ByteArray := prog_1_method_18_code
def yX7_rounds : MethodName := ⟨RX7, "rounds", "()I"⟩
abbrev cX7_round : ByteArray := prog_1_method_19_code
def yX7_round : MethodName := ⟨RX7, "round", "(II)I"⟩
abbrev cX7_words : ByteArray := prog_1_method_20_code
def yX7_words : MethodName := ⟨RX7, "words", "(I)I"⟩
abbrev cX7_classes : ByteArray := prog_1_method_21_code
def yX7_classes : MethodName := ⟨RX7, "classes", "()I"⟩
abbrev cX7_ground : ByteArray := prog_1_method_22_code
def yX7_ground : MethodName := ⟨RX7, "ground", "(I)I"⟩
abbrev cX7_canBe : ByteArray := prog_1_method_23_code
def yX7_canBe : MethodName := ⟨RX7, "canBe", "(III)Z"⟩
abbrev cX7_drawWays : ByteArray := prog_1_method_24_code
def yX7_drawWays : MethodName := ⟨RX7, "drawWays", "()V"⟩
abbrev cX7_followMover : ByteArray := prog_1_method_25_code
def yX7_followMover : MethodName := ⟨RX7, "followMover", "()V"⟩
abbrev cX7_beginningsBehind : ByteArray := prog_1_method_26_code
def yX7_beginningsBehind : MethodName := ⟨RX7, "beginningsBehind", "(II)I"⟩
abbrev cX7_isWithin : ByteArray := prog_1_method_27_code
def yX7_isWithin : MethodName := ⟨RX7, "isWithin", "(JI)Z"⟩
abbrev cX7_signOf : ByteArray := prog_1_method_28_code
def yX7_signOf : MethodName := ⟨RX7, "signOf", "(JJI)I"⟩
def RX8 : String := "SpanBenchModel"
def TX8 : u_T := fun k => match k with
  | 0 => ("SpanBenchModel", "root", "I", false)
  | 1 => ("SpanBenchModel", "sheetA", "[I", true)
  | 2 => ("SpanBenchModel", "sheetB", "[I", true)
  | 3 => ("SpanBenchModel", "sheetMany", "I", false)
  | 4 => ("SpanBenchModel", "sheetBelow", "[I", true)
  | 5 => ("SpanBenchModel", "n", "I", false)
  | 6 => ("SpanBenchModel", "longA", "[J", true)
  | 7 => ("SpanBenchModel", "longB", "[J", true)
  | 8 => ("SpanBenchModel", "above", "[I", true)
  | 9 => ("SpanBenchModel", "below", "[I", true)
  | 10 => ("SpanBenchModel", "told", "[J", true)
  | 11 => ("SpanBenchModel", "steps", "I", false)
  | 12 => ("SpanBenchModel", "wins", "I", false)
  | 13 => ("SpanBenchModel", "hasPoint", "Z", false)
  | 14 => ("SpanBenchModel", "pointA", "J", false)
  | 15 => ("SpanBenchModel", "pointB", "J", false)
  | 16 => ("SpanBenchModel", "leftA", "J", false)
  | 17 => ("SpanBenchModel", "leftB", "J", false)
  | 18 => ("SpanBenchModel", "nextA", "J", false)
  | 19 => ("SpanBenchModel", "nextB", "J", false)
  | 20 => ("SpanBenchModel", "wasA", "[J", true)
  | 21 => ("SpanBenchModel", "wasB", "[J", true)
  | 22 => ("SpanBenchModel", "wasAbove", "[I", true)
  | 23 => ("SpanBenchModel", "wasBelow", "[I", true)
  | 24 => ("SpanBenchModel", "wasTold", "[J", true)
  | 25 => ("SpanBenchModel", "rounds", "I", false)
  | 26 => ("SpanBenchModel", "roundWide", "[I", true)
  | 27 => ("SpanBenchModel", "roundTimes", "[I", true)
  | 28 => ("SpanBenchModel", "roundLeast", "[I", true)
  | 29 => ("SpanBenchModel", "to", "[I", true)
  | 30 => ("SpanBenchModel", "in", "[I", true)
  | 31 => ("SpanBenchModel", "seen", "[Z", true)
  | 32 => ("SpanBenchModel", "cutA", "[J", true)
  | 33 => ("SpanBenchModel", "cutB", "[J", true)
  | 34 => ("SpanBenchModel", "noted", "[I", true)
  | 35 => ("SpanBenchModel", "notes", "I", false)
  | 36 => ("SpanBenchModel", "upper", "[I", true)
  | 37 => ("SpanBenchModel", "lower", "[I", true)
  | _ => ("SpanBenchModel", "corner", "[I", true)
def tyX8 : Nat → FieldType := fun k => match k with
  | 0 => .int
  | 1 => .array .int
  | 2 => .array .int
  | 3 => .int
  | 4 => .array .int
  | 5 => .int
  | 6 => .array .long
  | 7 => .array .long
  | 8 => .array .int
  | 9 => .array .int
  | 10 => .array .long
  | 11 => .int
  | 12 => .int
  | 13 => .boolean
  | 14 => .long
  | 15 => .long
  | 16 => .long
  | 17 => .long
  | 18 => .long
  | 19 => .long
  | 20 => .array .long
  | 21 => .array .long
  | 22 => .array .int
  | 23 => .array .int
  | 24 => .array .long
  | 25 => .int
  | 26 => .array .int
  | 27 => .array .int
  | 28 => .array .int
  | 29 => .array .int
  | 30 => .array .int
  | 31 => .array .boolean
  | 32 => .array .long
  | 33 => .array .long
  | 34 => .array .int
  | 35 => .int
  | 36 => .array .int
  | 37 => .array .int
  | _ => .array .int
abbrev wsX80 : List Cond := u_ws RX8 TX8 39
theorem nmX8 : ∀ a, a < 39 → ∀ b, b < 39 → a ≠ b → (TX8 a).2.1 ≠ (TX8 b).2.1 := by decide +kernel
theorem tyX8_ok : ∀ k, k < 39 → parseFieldDescriptor (TX8 k).2.2.1 = some (tyX8 k) := by decide +kernel
abbrev cX8_init : ByteArray := prog_10_method_1_code
def yX8_init : MethodName := ⟨RX8, "<init>", "()V"⟩
abbrev cX8_signOf : ByteArray := prog_10_method_2_code
def yX8_signOf : MethodName := ⟨RX8, "signOf", "(JJ)I"⟩
abbrev cX8_forgets : ByteArray := prog_10_method_3_code
def yX8_forgets : MethodName := ⟨RX8, "forgets", "()V"⟩
abbrev cX8_root : ByteArray := prog_10_method_4_code
def yX8_root : MethodName := ⟨RX8, "root", "(I)Z"⟩
abbrev cX8_isIn : ByteArray := prog_10_method_5_code
def yX8_isIn : MethodName := ⟨RX8, "isIn", "(JJ)Z"⟩
abbrev cX8_length : ByteArray := prog_10_method_6_code
def yX8_length : MethodName := ⟨RX8, "length", "(III)Z"⟩
abbrev cX8_below : ByteArray := prog_10_method_7_code
def yX8_below : MethodName := ⟨RX8, "below", "(II)Z"⟩
abbrev cX8_lay : ByteArray := prog_10_method_8_code
def yX8_lay : MethodName := ⟨RX8, "lay", "()I"⟩
abbrev cX8_parted : ByteArray := prog_10_method_9_code
def yX8_parted : MethodName := ⟨RX8, "parted", "()I"⟩
abbrev cX8_of : ByteArray := prog_10_method_10_code
def yX8_of : MethodName := ⟨RX8, "of", "(I)I"⟩
abbrev cX8_total : ByteArray := prog_10_method_11_code
def yX8_total : MethodName := ⟨RX8, "total", "(I)J"⟩
abbrev cX8_spans : ByteArray := prog_10_method_12_code
def yX8_spans : MethodName := ⟨RX8, "spans", "(II)J"⟩
abbrev cX8_order : ByteArray := prog_10_method_13_code
def yX8_order : MethodName := ⟨RX8, "order", "(II)I"⟩
abbrev cX8_spanAt : ByteArray := prog_10_method_14_code
def yX8_spanAt : MethodName := ⟨RX8, "spanAt", "([IJJ)I"⟩
abbrev cX8_begins : ByteArray := prog_10_method_15_code
def yX8_begins : MethodName := ⟨RX8, "begins", "([II)V"⟩
abbrev cX8_isOnLine : ByteArray := prog_10_method_16_code
def yX8_isOnLine : MethodName := ⟨RX8, "isOnLine", "(JJ)Z"⟩
abbrev cX8_goes : ByteArray := prog_10_method_17_code
def yX8_goes : MethodName := ⟨RX8, "goes", "(JJZ)V"⟩
abbrev cX8_isPoint : ByteArray := prog_10_method_18_code
def yX8_isPoint : MethodName := ⟨RX8, "isPoint", "(JJ)Z"⟩
abbrev cX8_point : ByteArray := prog_10_method_19_code
def yX8_point : MethodName := ⟨RX8, "point", "(II)I"⟩
abbrev cX8_move : ByteArray := prog_10_method_20_code
def yX8_move : MethodName := ⟨RX8, "move", "(I)I"⟩
abbrev cX8_where : ByteArray := prog_10_method_21_code
def yX8_where : MethodName := ⟨RX8, "where", "(I)J"⟩
abbrev cX8_back : ByteArray := prog_10_method_22_code
def yX8_back : MethodName := ⟨RX8, "back", "(II)I"⟩
abbrev cX8_visits : ByteArray := prog_10_method_23_code
def yX8_visits : MethodName := ⟨RX8, "visits", "(II)I"⟩
abbrev cX8_brings : ByteArray := prog_10_method_24_code
def yX8_brings : MethodName := ⟨RX8, "brings", "([III)V"⟩
abbrev cX8_step : ByteArray := prog_10_method_25_code
def yX8_step : MethodName := ⟨RX8, "step", "()I"⟩
abbrev cX8_steps : ByteArray := prog_10_method_26_code
def yX8_steps : MethodName := ⟨RX8, "steps", "(I)I"⟩
abbrev cX8_table : ByteArray := prog_10_method_27_code
def yX8_table : MethodName := ⟨RX8, "table", "(II)J"⟩
abbrev cX8_isShare : ByteArray := prog_10_method_28_code
def yX8_isShare : MethodName := ⟨RX8, "isShare", "(I)Z"⟩
abbrev cX8_isLoop : ByteArray := prog_10_method_29_code
def yX8_isLoop : MethodName := ⟨RX8, "isLoop", "()Z"⟩
abbrev cX8_loop : ByteArray := prog_10_method_30_code
def yX8_loop : MethodName := ⟨RX8, "loop", "()I"⟩
abbrev cX8_pieces : ByteArray := prog_10_method_31_code
def yX8_pieces : MethodName := ⟨RX8, "pieces", "()I"⟩
abbrev cX8_isJoined : ByteArray := prog_10_method_32_code
def yX8_isJoined : MethodName := ⟨RX8, "isJoined", "(II)Z"⟩
abbrev cX8_rounds : ByteArray := prog_10_method_33_code
def yX8_rounds : MethodName := ⟨RX8, "rounds", "()I"⟩
abbrev cX8_round : ByteArray := prog_10_method_34_code
def yX8_round : MethodName := ⟨RX8, "round", "(II)I"⟩
abbrev cX8_words : ByteArray := prog_10_method_35_code
def yX8_words : MethodName := ⟨RX8, "words", "(I)I"⟩
abbrev cX8_numbered : ByteArray := prog_10_method_36_code
def yX8_numbered : MethodName := ⟨RX8, "numbered", "()I"⟩
abbrev cX8_notes : ByteArray := prog_10_method_37_code
def yX8_notes : MethodName := ⟨RX8, "notes", "(I)V"⟩
abbrev cX8_takes : ByteArray := prog_10_method_38_code
def yX8_takes : MethodName := ⟨RX8, "takes", "(I)V"⟩
abbrev cX8_classes : ByteArray := prog_10_method_39_code
def yX8_classes : MethodName := ⟨RX8, "classes", "()I"⟩
abbrev cX8_cornerOf : ByteArray := prog_10_method_40_code
def yX8_cornerOf : MethodName := ⟨RX8, "cornerOf", "(II)I"⟩
abbrev cX8_glues : ByteArray := prog_10_method_41_code
def yX8_glues : MethodName := ⟨RX8, "glues", "(II)V"⟩
abbrev cX8_placeOf : ByteArray := prog_10_method_42_code
def yX8_placeOf : MethodName := ⟨RX8, "placeOf", "([II)I"⟩
abbrev cX8_ground : ByteArray := prog_10_method_43_code
def yX8_ground : MethodName := ⟨RX8, "ground", "(I)I"⟩
def RJ9 : String := "java/lang/Math"
def TJ9 : u_T := fun k => match k with
  | _ => ("", "", "", false)
def tyJ9 : Nat → FieldType := fun k => match k with
  | _ => .int
abbrev wsJ90 : List Cond := u_ws RJ9 TJ9 0
theorem nmJ9 : ∀ a, a < 0 → ∀ b, b < 0 → a ≠ b → (TJ9 a).2.1 ≠ (TJ9 b).2.1 := by decide +kernel
theorem tyJ9_ok : ∀ k, k < 0 → parseFieldDescriptor (TJ9 k).2.2.1 = some (tyJ9 k) := by decide +kernel
abbrev cJ9_max_7cf53 : ByteArray := prog_11_method_65_code
def yJ9_max_7cf53 : MethodName := ⟨RJ9, "max", "(II)I"⟩
abbrev cJ9_min_7cf53 : ByteArray := prog_11_method_69_code
def yJ9_min_7cf53 : MethodName := ⟨RJ9, "min", "(II)I"⟩
def RJ10 : String := "java/lang/System"
def TJ10 : u_T := fun k => match k with
  | _ => ("", "", "", false)
def tyJ10 : Nat → FieldType := fun k => match k with
  | _ => .int
abbrev wsJ100 : List Cond := u_ws RJ10 TJ10 0
theorem nmJ10 : ∀ a, a < 0 → ∀ b, b < 0 → a ≠ b → (TJ10 a).2.1 ≠ (TJ10 b).2.1 := by decide +kernel
theorem tyJ10_ok : ∀ k, k < 0 → parseFieldDescriptor (TJ10 k).2.2.1 = some (tyJ10 k) := by decide +kernel
def RL : String := "SpanBenchLaw"
abbrev cL_law : ByteArray := code
def yL_law : MethodName := ⟨RL, "law", "([I)Z"⟩
abbrev vwCl : List vw_C := [(RX0, TX0, 2), (RX1, TX1, 6), (RX2, TX2, 6), (RX3, TX3, 9), (RX4, TX4, 4), (RX5, TX5, 3), (RX6, TX6, 7), (RX7, TX7, 11), (RX8, TX8, 39)]
/-- the words that a callee may be given: those of the tables that keep -/
def TB : List Cond := lw_tbl.filter goodWord
theorem TB_in : ∀ w ∈ TB, w ∈ lw_tbl := fun w h => (List.mem_filter.mp h).1
theorem TB_good : ∀ w ∈ TB, (w.onTables && w.keeps) = true ∨ ∃ ty, w = .arrayClass ty := fun w h => good_of_word (List.mem_filter.mp h).2
theorem TB_t {w : Cond} (h : w ∈ tables_1) (hg : goodWord w = true) : w ∈ TB := List.mem_filter.mpr ⟨List.mem_append_right _ h, hg⟩
theorem TB_p {w : Cond} (h : w ∈ k2_sels lw_privs) (hg : goodWord w = true) : w ∈ TB := List.mem_filter.mpr ⟨List.mem_append_left _ h, hg⟩
theorem TB_c1 {w : Cond} (h : w ∈ tables_1_1) (hg : goodWord w = true) : w ∈ TB := TB_t (List.mem_append_left _ h) hg
theorem TB_c2 {w : Cond} (h : w ∈ tables_1_2) (hg : goodWord w = true) : w ∈ TB := TB_t (List.mem_append_right _ (List.mem_append_left _ h)) hg
theorem TB_c3 {w : Cond} (h : w ∈ tables_1_3) (hg : goodWord w = true) : w ∈ TB := TB_t (List.mem_append_right _ (List.mem_append_right _ (List.mem_append_left _ h))) hg
theorem TB_c4 {w : Cond} (h : w ∈ tables_1_4) (hg : goodWord w = true) : w ∈ TB := TB_t (List.mem_append_right _ (List.mem_append_right _ (List.mem_append_right _ (h)))) hg
theorem in_RL : Cond.initialized RL ∈ TB := TB_c1 (List.mem_of_getElem? (i := 0) (by decide +kernel)) rfl
theorem in_RX7 : Cond.initialized RX7 ∈ TB := TB_c1 (List.mem_of_getElem? (i := 1) (by decide +kernel)) rfl
theorem in_RX4 : Cond.initialized RX4 ∈ TB := TB_c1 (List.mem_of_getElem? (i := 2) (by decide +kernel)) rfl
theorem in_RX3 : Cond.initialized RX3 ∈ TB := TB_c1 (List.mem_of_getElem? (i := 3) (by decide +kernel)) rfl
theorem in_RX6 : Cond.initialized RX6 ∈ TB := TB_c1 (List.mem_of_getElem? (i := 4) (by decide +kernel)) rfl
theorem in_RX5 : Cond.initialized RX5 ∈ TB := TB_c1 (List.mem_of_getElem? (i := 5) (by decide +kernel)) rfl
theorem in_RX1 : Cond.initialized RX1 ∈ TB := TB_c1 (List.mem_of_getElem? (i := 6) (by decide +kernel)) rfl
theorem in_RX2 : Cond.initialized RX2 ∈ TB := TB_c1 (List.mem_of_getElem? (i := 7) (by decide +kernel)) rfl
theorem in_RX0 : Cond.initialized RX0 ∈ TB := TB_c1 (List.mem_of_getElem? (i := 8) (by decide +kernel)) rfl
theorem in_RX8 : Cond.initialized RX8 ∈ TB := TB_c1 (List.mem_of_getElem? (i := 9) (by decide +kernel)) rfl
theorem in_java_lang_System : Cond.initialized "java/lang/System" ∈ TB := TB_c1 (List.mem_of_getElem? (i := 10) (by decide +kernel)) rfl
theorem in_java_lang_Math : Cond.initialized "java/lang/Math" ∈ TB := TB_c1 (List.mem_of_getElem? (i := 11) (by decide +kernel)) rfl
theorem cl_RL_7 : Cond.classLink RL 7 RX7 ∈ TB := TB_c1 (List.mem_of_getElem? (i := 12) (by decide +kernel)) rfl
theorem it_RX7 : Cond.instantiable RX7 11 ∈ TB := TB_c1 (List.mem_of_getElem? (i := 13) (by decide +kernel)) rfl
theorem ml_RL_9 : Cond.methodLink RL 9 yX7_init ∈ TB := TB_c1 (List.mem_of_getElem? (i := 14) (by decide +kernel)) rfl
theorem im_X7_init : Cond.instanceMethod yX7_init ∈ TB := TB_c1 (List.mem_of_getElem? (i := 15) (by decide +kernel)) rfl
theorem cd_X7_init : Cond.code yX7_init cX7_init 1 (none) ∈ TB := TB_c1 (List.mem_of_getElem? (i := 16) rfl) rfl
theorem ml_RX7_1 : Cond.methodLink RX7 1 objectInit ∈ TB := TB_c1 (List.mem_of_getElem? (i := 17) (by decide +kernel)) rfl
theorem im_obj : Cond.instanceMethod objectInit ∈ TB := TB_c1 (List.mem_of_getElem? (i := 18) (by decide +kernel)) rfl
theorem cd_obj : Cond.code objectInit ⟨#[0xb1]⟩ 1 none ∈ TB := TB_c1 (List.mem_of_getElem? (i := 19) rfl) rfl
theorem cl_RX7_13 : Cond.classLink RX7 13 RX4 ∈ TB := TB_c1 (List.mem_of_getElem? (i := 20) (by decide +kernel)) rfl
theorem it_RX4 : Cond.instantiable RX4 4 ∈ TB := TB_c1 (List.mem_of_getElem? (i := 21) (by decide +kernel)) rfl
theorem im_X4_init : Cond.instanceMethod yX4_init ∈ TB := TB_c1 (List.mem_of_getElem? (i := 23) (by decide +kernel)) rfl
theorem cd_X4_init : Cond.code yX4_init cX4_init 1 (none) ∈ TB := TB_c1 (List.mem_of_getElem? (i := 24) rfl) rfl
theorem ml_RX4_3 : Cond.methodLink RX4 3 objectInit ∈ TB := TB_c1 (List.mem_of_getElem? (i := 25) (by decide +kernel)) rfl
theorem fl_RX4_21 : Cond.fieldLink RX4 21 "SpanBench$Sheet" "count" "I" ∈ TB := TB_c1 (List.mem_of_getElem? (i := 26) (by decide +kernel)) rfl
theorem fl_RX3_28 : Cond.fieldLink RX3 28 "SpanBench$Sheet" "count" "I" ∈ TB := TB_c1 (List.mem_of_getElem? (i := 27) (by decide +kernel)) rfl
theorem fl_RX7_100 : Cond.fieldLink RX7 100 "SpanBench$Sheet" "count" "I" ∈ TB := TB_c1 (List.mem_of_getElem? (i := 28) (by decide +kernel)) rfl
theorem fl_RX4_9 : Cond.fieldLink RX4 9 "SpanBench$Sheet" "partA" "[I" ∈ TB := TB_c1 (List.mem_of_getElem? (i := 29) (by decide +kernel)) rfl
theorem fl_RX3_44 : Cond.fieldLink RX3 44 "SpanBench$Sheet" "partA" "[I" ∈ TB := TB_c1 (List.mem_of_getElem? (i := 30) (by decide +kernel)) rfl
theorem fl_RX7_89 : Cond.fieldLink RX7 89 "SpanBench$Sheet" "partA" "[I" ∈ TB := TB_c1 (List.mem_of_getElem? (i := 31) (by decide +kernel)) rfl
theorem fl_RX4_15 : Cond.fieldLink RX4 15 "SpanBench$Sheet" "partB" "[I" ∈ TB := TB_c1 (List.mem_of_getElem? (i := 32) (by decide +kernel)) rfl
theorem fl_RX3_45 : Cond.fieldLink RX3 45 "SpanBench$Sheet" "partB" "[I" ∈ TB := TB_c1 (List.mem_of_getElem? (i := 33) (by decide +kernel)) rfl
theorem fl_RX7_93 : Cond.fieldLink RX7 93 "SpanBench$Sheet" "partB" "[I" ∈ TB := TB_c1 (List.mem_of_getElem? (i := 34) (by decide +kernel)) rfl
theorem fl_RX4_18 : Cond.fieldLink RX4 18 "SpanBench$Sheet" "under" "[I" ∈ TB := TB_c1 (List.mem_of_getElem? (i := 35) (by decide +kernel)) rfl
theorem fl_RX3_46 : Cond.fieldLink RX3 46 "SpanBench$Sheet" "under" "[I" ∈ TB := TB_c1 (List.mem_of_getElem? (i := 36) (by decide +kernel)) rfl
theorem ac_int : Cond.arrayClass .int ∈ TB := TB_c1 (List.mem_of_getElem? (i := 46) (by decide +kernel)) rfl
theorem cl_RX7_20 : Cond.classLink RX7 20 RX3 ∈ TB := TB_c1 (List.mem_of_getElem? (i := 47) (by decide +kernel)) rfl
theorem it_RX3 : Cond.instantiable RX3 9 ∈ TB := TB_c1 (List.mem_of_getElem? (i := 48) (by decide +kernel)) rfl
theorem im_X3_init : Cond.instanceMethod yX3_init ∈ TB := TB_c1 (List.mem_of_getElem? (i := 50) (by decide +kernel)) rfl
theorem cd_X3_init : Cond.code yX3_init cX3_init 1 (none) ∈ TB := TB_c1 (List.mem_of_getElem? (i := 51) rfl) rfl
theorem ml_RX3_3 : Cond.methodLink RX3 3 objectInit ∈ TB := TB_c1 (List.mem_of_getElem? (i := 52) (by decide +kernel)) rfl
theorem fl_RX6_28 : Cond.fieldLink RX6 28 "SpanBench$Mover" "count" "I" ∈ TB := TB_c1 (List.mem_of_getElem? (i := 53) (by decide +kernel)) rfl
theorem fl_RX2_25 : Cond.fieldLink RX2 25 "SpanBench$Mover" "count" "I" ∈ TB := TB_c1 (List.mem_of_getElem? (i := 54) (by decide +kernel)) rfl
theorem fl_RX0_15 : Cond.fieldLink RX0 15 "SpanBench$Mover" "count" "I" ∈ TB := TB_c1 (List.mem_of_getElem? (i := 55) (by decide +kernel)) rfl
theorem fl_RX3_34 : Cond.fieldLink RX3 34 "SpanBench$Mover" "count" "I" ∈ TB := TB_c1 (List.mem_of_getElem? (i := 56) (by decide +kernel)) rfl
theorem fl_RX7_74 : Cond.fieldLink RX7 74 "SpanBench$Mover" "count" "I" ∈ TB := TB_c1 (List.mem_of_getElem? (i := 57) (by decide +kernel)) rfl
theorem fl_RX3_35 : Cond.fieldLink RX3 35 "SpanBench$Mover" "root" "I" ∈ TB := TB_c1 (List.mem_of_getElem? (i := 58) (by decide +kernel)) rfl
theorem fl_RX6_35 : Cond.fieldLink RX6 35 "SpanBench$Mover" "root" "I" ∈ TB := TB_c1 (List.mem_of_getElem? (i := 59) (by decide +kernel)) rfl
theorem fl_RX3_38 : Cond.fieldLink RX3 38 "SpanBench$Mover" "stepsDone" "I" ∈ TB := TB_c1 (List.mem_of_getElem? (i := 60) (by decide +kernel)) rfl
theorem fl_RX7_112 : Cond.fieldLink RX7 112 "SpanBench$Mover" "stepsDone" "I" ∈ TB := TB_c1 (List.mem_of_getElem? (i := 61) (by decide +kernel)) rfl
theorem fl_RX3_41 : Cond.fieldLink RX3 41 "SpanBench$Mover" "stepsOfU" "I" ∈ TB := TB_c1 (List.mem_of_getElem? (i := 62) (by decide +kernel)) rfl
theorem fl_RX7_119 : Cond.fieldLink RX7 119 "SpanBench$Mover" "stepsOfU" "I" ∈ TB := TB_c1 (List.mem_of_getElem? (i := 63) (by decide +kernel)) rfl
theorem fl_RX3_9 : Cond.fieldLink RX3 9 "SpanBench$Mover" "partA" "[I" ∈ TB := TB_c1 (List.mem_of_getElem? (i := 64) (by decide +kernel)) rfl
theorem fl_RX6_39 : Cond.fieldLink RX6 39 "SpanBench$Mover" "partA" "[I" ∈ TB := TB_c1 (List.mem_of_getElem? (i := 65) (by decide +kernel)) rfl
theorem fl_RX7_129 : Cond.fieldLink RX7 129 "SpanBench$Mover" "partA" "[I" ∈ TB := TB_c1 (List.mem_of_getElem? (i := 66) (by decide +kernel)) rfl
theorem fl_RX3_15 : Cond.fieldLink RX3 15 "SpanBench$Mover" "partB" "[I" ∈ TB := TB_c1 (List.mem_of_getElem? (i := 67) (by decide +kernel)) rfl
theorem fl_RX6_42 : Cond.fieldLink RX6 42 "SpanBench$Mover" "partB" "[I" ∈ TB := TB_c1 (List.mem_of_getElem? (i := 68) (by decide +kernel)) rfl
theorem fl_RX7_130 : Cond.fieldLink RX7 130 "SpanBench$Mover" "partB" "[I" ∈ TB := TB_c1 (List.mem_of_getElem? (i := 69) (by decide +kernel)) rfl
theorem fl_RX3_18 : Cond.fieldLink RX3 18 "SpanBench$Mover" "above" "[I" ∈ TB := TB_c1 (List.mem_of_getElem? (i := 70) (by decide +kernel)) rfl
theorem fl_RX0_22 : Cond.fieldLink RX0 22 "SpanBench$Mover" "above" "[I" ∈ TB := TB_c1 (List.mem_of_getElem? (i := 71) (by decide +kernel)) rfl
theorem fl_RX2_55 : Cond.fieldLink RX2 55 "SpanBench$Mover" "above" "[I" ∈ TB := TB_c1 (List.mem_of_getElem? (i := 72) (by decide +kernel)) rfl
theorem fl_RX7_131 : Cond.fieldLink RX7 131 "SpanBench$Mover" "above" "[I" ∈ TB := TB_c1 (List.mem_of_getElem? (i := 73) (by decide +kernel)) rfl
theorem fl_RX3_21 : Cond.fieldLink RX3 21 "SpanBench$Mover" "under" "[I" ∈ TB := TB_c1 (List.mem_of_getElem? (i := 74) (by decide +kernel)) rfl
theorem fl_RX0_25 : Cond.fieldLink RX0 25 "SpanBench$Mover" "under" "[I" ∈ TB := TB_c1 (List.mem_of_getElem? (i := 75) (by decide +kernel)) rfl
theorem fl_RX2_52 : Cond.fieldLink RX2 52 "SpanBench$Mover" "under" "[I" ∈ TB := TB_c1 (List.mem_of_getElem? (i := 76) (by decide +kernel)) rfl
theorem fl_RX7_134 : Cond.fieldLink RX7 134 "SpanBench$Mover" "under" "[I" ∈ TB := TB_c1 (List.mem_of_getElem? (i := 77) (by decide +kernel)) rfl
theorem fl_RX3_24 : Cond.fieldLink RX3 24 "SpanBench$Mover" "sums" "[J" ∈ TB := TB_c1 (List.mem_of_getElem? (i := 78) (by decide +kernel)) rfl
theorem fl_RX7_175 : Cond.fieldLink RX7 175 "SpanBench$Mover" "sums" "[J" ∈ TB := TB_c1 (List.mem_of_getElem? (i := 79) (by decide +kernel)) rfl
theorem ac_long : Cond.arrayClass .long ∈ TB := TB_c1 (List.mem_of_getElem? (i := 99) (by decide +kernel)) rfl
theorem cl_RX7_30 : Cond.classLink RX7 30 RX6 ∈ TB := TB_c1 (List.mem_of_getElem? (i := 100) (by decide +kernel)) rfl
theorem it_RX6 : Cond.instantiable RX6 7 ∈ TB := TB_c1 (List.mem_of_getElem? (i := 101) (by decide +kernel)) rfl
theorem im_X6_init : Cond.instanceMethod yX6_init ∈ TB := TB_c1 (List.mem_of_getElem? (i := 103) (by decide +kernel)) rfl
theorem cd_X6_init : Cond.code yX6_init cX6_init 1 (none) ∈ TB := TB_c1 (List.mem_of_getElem? (i := 104) rfl) rfl
theorem ml_RX6_3 : Cond.methodLink RX6 3 objectInit ∈ TB := TB_c1 (List.mem_of_getElem? (i := 105) (by decide +kernel)) rfl
theorem fl_RX6_34 : Cond.fieldLink RX6 34 "SpanBench$Way" "count" "I" ∈ TB := TB_c1 (List.mem_of_getElem? (i := 106) (by decide +kernel)) rfl
theorem fl_RX1_42 : Cond.fieldLink RX1 42 "SpanBench$Way" "count" "I" ∈ TB := TB_c1 (List.mem_of_getElem? (i := 107) (by decide +kernel)) rfl
theorem fl_RX6_38 : Cond.fieldLink RX6 38 "SpanBench$Way" "root" "I" ∈ TB := TB_c1 (List.mem_of_getElem? (i := 108) (by decide +kernel)) rfl
theorem fl_RX6_9 : Cond.fieldLink RX6 9 "SpanBench$Way" "span" "[I" ∈ TB := TB_c1 (List.mem_of_getElem? (i := 109) (by decide +kernel)) rfl
theorem fl_RX1_52 : Cond.fieldLink RX1 52 "SpanBench$Way" "span" "[I" ∈ TB := TB_c1 (List.mem_of_getElem? (i := 110) (by decide +kernel)) rfl
theorem fl_RX6_15 : Cond.fieldLink RX6 15 "SpanBench$Way" "edgeA" "[J" ∈ TB := TB_c1 (List.mem_of_getElem? (i := 111) (by decide +kernel)) rfl
theorem fl_RX1_45 : Cond.fieldLink RX1 45 "SpanBench$Way" "edgeA" "[J" ∈ TB := TB_c1 (List.mem_of_getElem? (i := 112) (by decide +kernel)) rfl
theorem fl_RX7_122 : Cond.fieldLink RX7 122 "SpanBench$Way" "edgeA" "[J" ∈ TB := TB_c1 (List.mem_of_getElem? (i := 113) (by decide +kernel)) rfl
theorem fl_RX6_19 : Cond.fieldLink RX6 19 "SpanBench$Way" "edgeB" "[J" ∈ TB := TB_c1 (List.mem_of_getElem? (i := 114) (by decide +kernel)) rfl
theorem fl_RX7_126 : Cond.fieldLink RX7 126 "SpanBench$Way" "edgeB" "[J" ∈ TB := TB_c1 (List.mem_of_getElem? (i := 115) (by decide +kernel)) rfl
theorem fl_RX6_22 : Cond.fieldLink RX6 22 "SpanBench$Way" "shiftA" "[J" ∈ TB := TB_c1 (List.mem_of_getElem? (i := 116) (by decide +kernel)) rfl
theorem fl_RX1_49 : Cond.fieldLink RX1 49 "SpanBench$Way" "shiftA" "[J" ∈ TB := TB_c1 (List.mem_of_getElem? (i := 117) (by decide +kernel)) rfl
theorem fl_RX6_25 : Cond.fieldLink RX6 25 "SpanBench$Way" "shiftB" "[J" ∈ TB := TB_c1 (List.mem_of_getElem? (i := 118) (by decide +kernel)) rfl
theorem cl_RX7_40 : Cond.classLink RX7 40 RX5 ∈ TB := TB_c1 (List.mem_of_getElem? (i := 134) (by decide +kernel)) rfl
theorem it_RX5 : Cond.instantiable RX5 3 ∈ TB := TB_c1 (List.mem_of_getElem? (i := 135) (by decide +kernel)) rfl
theorem im_X5_init : Cond.instanceMethod yX5_init ∈ TB := TB_c1 (List.mem_of_getElem? (i := 137) (by decide +kernel)) rfl
theorem cd_X5_init : Cond.code yX5_init cX5_init 1 (none) ∈ TB := TB_c1 (List.mem_of_getElem? (i := 138) rfl) rfl
theorem ml_RX5_1 : Cond.methodLink RX5 1 objectInit ∈ TB := TB_c1 (List.mem_of_getElem? (i := 139) (by decide +kernel)) rfl
theorem fl_RX5_7 : Cond.fieldLink RX5 7 "SpanBench$Spot" "there" "Z" ∈ TB := TB_c1 (List.mem_of_getElem? (i := 140) (by decide +kernel)) rfl
theorem fl_RX7_77 : Cond.fieldLink RX7 77 "SpanBench$Spot" "there" "Z" ∈ TB := TB_c1 (List.mem_of_getElem? (i := 141) (by decide +kernel)) rfl
theorem fl_RX5_13 : Cond.fieldLink RX5 13 "SpanBench$Spot" "a" "J" ∈ TB := TB_c1 (List.mem_of_getElem? (i := 142) (by decide +kernel)) rfl
theorem fl_RX6_53 : Cond.fieldLink RX6 53 "SpanBench$Spot" "a" "J" ∈ TB := TB_c1 (List.mem_of_getElem? (i := 143) (by decide +kernel)) rfl
theorem fl_RX7_150 : Cond.fieldLink RX7 150 "SpanBench$Spot" "a" "J" ∈ TB := TB_c1 (List.mem_of_getElem? (i := 144) (by decide +kernel)) rfl
theorem fl_RX5_17 : Cond.fieldLink RX5 17 "SpanBench$Spot" "b" "J" ∈ TB := TB_c1 (List.mem_of_getElem? (i := 145) (by decide +kernel)) rfl
theorem fl_RX6_59 : Cond.fieldLink RX6 59 "SpanBench$Spot" "b" "J" ∈ TB := TB_c1 (List.mem_of_getElem? (i := 146) (by decide +kernel)) rfl
theorem fl_RX7_154 : Cond.fieldLink RX7 154 "SpanBench$Spot" "b" "J" ∈ TB := TB_c1 (List.mem_of_getElem? (i := 147) (by decide +kernel)) rfl
theorem cl_RX7_50 : Cond.classLink RX7 50 RX1 ∈ TB := TB_c1 (List.mem_of_getElem? (i := 155) (by decide +kernel)) rfl
theorem it_RX1 : Cond.instantiable RX1 6 ∈ TB := TB_c1 (List.mem_of_getElem? (i := 156) (by decide +kernel)) rfl
theorem im_X1_init : Cond.instanceMethod yX1_init ∈ TB := TB_c1 (List.mem_of_getElem? (i := 158) (by decide +kernel)) rfl
theorem cd_X1_init : Cond.code yX1_init cX1_init 1 (none) ∈ TB := TB_c1 (List.mem_of_getElem? (i := 159) rfl) rfl
theorem ml_RX1_3 : Cond.methodLink RX1 3 objectInit ∈ TB := TB_c1 (List.mem_of_getElem? (i := 160) (by decide +kernel)) rfl
theorem fl_RX1_31 : Cond.fieldLink RX1 31 "SpanBench$Heaps" "count" "I" ∈ TB := TB_c1 (List.mem_of_getElem? (i := 161) (by decide +kernel)) rfl
theorem fl_RX7_195 : Cond.fieldLink RX7 195 "SpanBench$Heaps" "count" "I" ∈ TB := TB_c1 (List.mem_of_getElem? (i := 162) (by decide +kernel)) rfl
theorem fl_RX1_9 : Cond.fieldLink RX1 9 "SpanBench$Heaps" "width" "[I" ∈ TB := TB_c1 (List.mem_of_getElem? (i := 163) (by decide +kernel)) rfl
theorem fl_RX7_196 : Cond.fieldLink RX7 196 "SpanBench$Heaps" "width" "[I" ∈ TB := TB_c1 (List.mem_of_getElem? (i := 164) (by decide +kernel)) rfl
theorem fl_RX1_15 : Cond.fieldLink RX1 15 "SpanBench$Heaps" "times" "[I" ∈ TB := TB_c1 (List.mem_of_getElem? (i := 165) (by decide +kernel)) rfl
theorem fl_RX7_199 : Cond.fieldLink RX7 199 "SpanBench$Heaps" "times" "[I" ∈ TB := TB_c1 (List.mem_of_getElem? (i := 166) (by decide +kernel)) rfl
theorem fl_RX1_18 : Cond.fieldLink RX1 18 "SpanBench$Heaps" "least" "[I" ∈ TB := TB_c1 (List.mem_of_getElem? (i := 167) (by decide +kernel)) rfl
theorem fl_RX7_202 : Cond.fieldLink RX7 202 "SpanBench$Heaps" "least" "[I" ∈ TB := TB_c1 (List.mem_of_getElem? (i := 168) (by decide +kernel)) rfl
theorem fl_RX1_21 : Cond.fieldLink RX1 21 "SpanBench$Heaps" "to" "[I" ∈ TB := TB_c1 (List.mem_of_getElem? (i := 169) (by decide +kernel)) rfl
theorem fl_RX1_24 : Cond.fieldLink RX1 24 "SpanBench$Heaps" "room" "[I" ∈ TB := TB_c1 (List.mem_of_getElem? (i := 170) (by decide +kernel)) rfl
theorem cl_RX7_57 : Cond.classLink RX7 57 RX2 ∈ TB := TB_c1 (List.mem_of_getElem? (i := 184) (by decide +kernel)) rfl
theorem it_RX2 : Cond.instantiable RX2 6 ∈ TB := TB_c1 (List.mem_of_getElem? (i := 185) (by decide +kernel)) rfl
theorem im_X2_init : Cond.instanceMethod yX2_init ∈ TB := TB_c1 (List.mem_of_getElem? (i := 187) (by decide +kernel)) rfl
theorem cd_X2_init : Cond.code yX2_init cX2_init 1 (none) ∈ TB := TB_c1 (List.mem_of_getElem? (i := 188) rfl) rfl
theorem ml_RX2_3 : Cond.methodLink RX2 3 objectInit ∈ TB := TB_c1 (List.mem_of_getElem? (i := 189) (by decide +kernel)) rfl
theorem fl_RX2_31 : Cond.fieldLink RX2 31 "SpanBench$Kin" "count" "I" ∈ TB := TB_c1 (List.mem_of_getElem? (i := 190) (by decide +kernel)) rfl
theorem fl_RX2_32 : Cond.fieldLink RX2 32 "SpanBench$Kin" "found" "I" ∈ TB := TB_c1 (List.mem_of_getElem? (i := 191) (by decide +kernel)) rfl
theorem fl_RX2_9 : Cond.fieldLink RX2 9 "SpanBench$Kin" "met" "[Z" ∈ TB := TB_c1 (List.mem_of_getElem? (i := 192) (by decide +kernel)) rfl
theorem fl_RX2_15 : Cond.fieldLink RX2 15 "SpanBench$Kin" "packed" "[I" ∈ TB := TB_c1 (List.mem_of_getElem? (i := 193) (by decide +kernel)) rfl
theorem fl_RX2_19 : Cond.fieldLink RX2 19 "SpanBench$Kin" "line" "[I" ∈ TB := TB_c1 (List.mem_of_getElem? (i := 194) (by decide +kernel)) rfl
theorem fl_RX2_22 : Cond.fieldLink RX2 22 "SpanBench$Kin" "next" "[I" ∈ TB := TB_c1 (List.mem_of_getElem? (i := 195) (by decide +kernel)) rfl
theorem ac_boolean : Cond.arrayClass .boolean ∈ TB := TB_c1 (List.mem_of_getElem? (i := 209) (by decide +kernel)) rfl
theorem cl_RX7_64 : Cond.classLink RX7 64 RX0 ∈ TB := TB_c1 (List.mem_of_getElem? (i := 210) (by decide +kernel)) rfl
theorem it_RX0 : Cond.instantiable RX0 2 ∈ TB := TB_c1 (List.mem_of_getElem? (i := 211) (by decide +kernel)) rfl
theorem im_X0_init : Cond.instanceMethod yX0_init ∈ TB := TB_c1 (List.mem_of_getElem? (i := 213) (by decide +kernel)) rfl
theorem cd_X0_init : Cond.code yX0_init cX0_init 1 (none) ∈ TB := TB_c1 (List.mem_of_getElem? (i := 214) rfl) rfl
theorem ml_RX0_3 : Cond.methodLink RX0 3 objectInit ∈ TB := TB_c1 (List.mem_of_getElem? (i := 215) (by decide +kernel)) rfl
theorem fl_RX0_21 : Cond.fieldLink RX0 21 "SpanBench$Figure" "count" "I" ∈ TB := TB_c1 (List.mem_of_getElem? (i := 216) (by decide +kernel)) rfl
theorem fl_RX0_9 : Cond.fieldLink RX0 9 "SpanBench$Figure" "name" "[I" ∈ TB := TB_c1 (List.mem_of_getElem? (i := 217) (by decide +kernel)) rfl
theorem fl_RX7_7 : Cond.fieldLink RX7 7 "SpanBench" "rootNow" "I" ∈ TB := TB_c1 (List.mem_of_getElem? (i := 223) (by decide +kernel)) rfl
theorem fl_RX7_16 : Cond.fieldLink RX7 16 "SpanBench" "sheet" "LSpanBench$Sheet;" ∈ TB := TB_c1 (List.mem_of_getElem? (i := 224) (by decide +kernel)) rfl
theorem fl_RX7_23 : Cond.fieldLink RX7 23 "SpanBench" "mover" "LSpanBench$Mover;" ∈ TB := TB_c1 (List.mem_of_getElem? (i := 225) (by decide +kernel)) rfl
theorem fl_RX7_27 : Cond.fieldLink RX7 27 "SpanBench" "trial" "LSpanBench$Mover;" ∈ TB := TB_c1 (List.mem_of_getElem? (i := 226) (by decide +kernel)) rfl
theorem fl_RX7_33 : Cond.fieldLink RX7 33 "SpanBench" "forwards" "LSpanBench$Way;" ∈ TB := TB_c1 (List.mem_of_getElem? (i := 227) (by decide +kernel)) rfl
theorem fl_RX7_37 : Cond.fieldLink RX7 37 "SpanBench" "backwards" "LSpanBench$Way;" ∈ TB := TB_c1 (List.mem_of_getElem? (i := 228) (by decide +kernel)) rfl
theorem fl_RX7_43 : Cond.fieldLink RX7 43 "SpanBench" "spot" "LSpanBench$Spot;" ∈ TB := TB_c1 (List.mem_of_getElem? (i := 229) (by decide +kernel)) rfl
theorem fl_RX7_47 : Cond.fieldLink RX7 47 "SpanBench" "walker" "LSpanBench$Spot;" ∈ TB := TB_c1 (List.mem_of_getElem? (i := 230) (by decide +kernel)) rfl
theorem fl_RX7_53 : Cond.fieldLink RX7 53 "SpanBench" "heaps" "LSpanBench$Heaps;" ∈ TB := TB_c1 (List.mem_of_getElem? (i := 231) (by decide +kernel)) rfl
theorem fl_RX7_60 : Cond.fieldLink RX7 60 "SpanBench" "kin" "LSpanBench$Kin;" ∈ TB := TB_c1 (List.mem_of_getElem? (i := 232) (by decide +kernel)) rfl
theorem fl_RX7_67 : Cond.fieldLink RX7 67 "SpanBench" "figure" "LSpanBench$Figure;" ∈ TB := TB_c1 (List.mem_of_getElem? (i := 233) (by decide +kernel)) rfl
theorem ml_RL_13 : Cond.methodLink RL 13 yX7_root ∈ TB := TB_c2 (List.mem_of_getElem? (i := 17) (by decide +kernel)) rfl
theorem im_X7_root : Cond.instanceMethod yX7_root ∈ TB := TB_c2 (List.mem_of_getElem? (i := 18) (by decide +kernel)) rfl
theorem se_X7_root : Cond.selects RX7 yX7_root yX7_root ∈ TB := TB_c2 (List.mem_of_getElem? (i := 19) (by decide +kernel)) rfl
theorem cd_X7_root : Cond.code yX7_root cX7_root 2 (some .boolean) ∈ TB := TB_c2 (List.mem_of_getElem? (i := 20) rfl) rfl
theorem ml_RX7_71 : Cond.methodLink RX7 71 yX4_clear ∈ TB := TB_c2 (List.mem_of_getElem? (i := 21) (by decide +kernel)) rfl
theorem im_X4_clear : Cond.instanceMethod yX4_clear ∈ TB := TB_c2 (List.mem_of_getElem? (i := 22) (by decide +kernel)) rfl
theorem se_X4_clear : Cond.selects RX4 yX4_clear yX4_clear ∈ TB := TB_c2 (List.mem_of_getElem? (i := 23) (by decide +kernel)) rfl
theorem cd_X4_clear : Cond.code yX4_clear cX4_clear 2 (none) ∈ TB := TB_c2 (List.mem_of_getElem? (i := 24) rfl) rfl
theorem ml_RL_18 : Cond.methodLink RL 18 yX7_length ∈ TB := TB_c2 (List.mem_of_getElem? (i := 25) (by decide +kernel)) rfl
theorem im_X7_length : Cond.instanceMethod yX7_length ∈ TB := TB_c2 (List.mem_of_getElem? (i := 26) (by decide +kernel)) rfl
theorem se_X7_length : Cond.selects RX7 yX7_length yX7_length ∈ TB := TB_c2 (List.mem_of_getElem? (i := 27) (by decide +kernel)) rfl
theorem cd_X7_length : Cond.code yX7_length cX7_length 4 (some .boolean) ∈ TB := TB_c2 (List.mem_of_getElem? (i := 28) rfl) rfl
theorem ml_RX7_81 : Cond.methodLink RX7 81 yX7_canBe ∈ TB := TB_c2 (List.mem_of_getElem? (i := 29) (by decide +kernel)) rfl
theorem im_X7_canBe : Cond.instanceMethod yX7_canBe ∈ TB := TB_c2 (List.mem_of_getElem? (i := 31) (by decide +kernel)) rfl
theorem cd_X7_canBe : Cond.code yX7_canBe cX7_canBe 4 (some .boolean) ∈ TB := TB_c2 (List.mem_of_getElem? (i := 32) rfl) rfl
theorem ml_RX7_225 : Cond.methodLink RX7 225 yX7_isWithin ∈ TB := TB_c2 (List.mem_of_getElem? (i := 33) (by decide +kernel)) rfl
theorem sm_X7_isWithin : Cond.static yX7_isWithin ∈ TB := TB_c2 (List.mem_of_getElem? (i := 34) (by decide +kernel)) rfl
theorem cd_X7_isWithin : Cond.code yX7_isWithin cX7_isWithin 3 (some .boolean) ∈ TB := TB_c2 (List.mem_of_getElem? (i := 35) rfl) rfl
theorem ml_RX7_85 : Cond.methodLink RX7 85 yX7_signOf ∈ TB := TB_c2 (List.mem_of_getElem? (i := 36) (by decide +kernel)) rfl
theorem sm_X7_signOf : Cond.static yX7_signOf ∈ TB := TB_c2 (List.mem_of_getElem? (i := 37) (by decide +kernel)) rfl
theorem cd_X7_signOf : Cond.code yX7_signOf cX7_signOf 7 (some .int) ∈ TB := TB_c2 (List.mem_of_getElem? (i := 38) rfl) rfl
theorem ml_RL_23 : Cond.methodLink RL 23 yX7_below ∈ TB := TB_c2 (List.mem_of_getElem? (i := 39) (by decide +kernel)) rfl
theorem im_X7_below : Cond.instanceMethod yX7_below ∈ TB := TB_c2 (List.mem_of_getElem? (i := 40) (by decide +kernel)) rfl
theorem se_X7_below : Cond.selects RX7 yX7_below yX7_below ∈ TB := TB_c2 (List.mem_of_getElem? (i := 41) (by decide +kernel)) rfl
theorem cd_X7_below : Cond.code yX7_below cX7_below 3 (some .boolean) ∈ TB := TB_c2 (List.mem_of_getElem? (i := 42) rfl) rfl
theorem ml_RX7_96 : Cond.methodLink RX7 96 yX4_takeOrder ∈ TB := TB_c2 (List.mem_of_getElem? (i := 43) (by decide +kernel)) rfl
theorem im_X4_takeOrder : Cond.instanceMethod yX4_takeOrder ∈ TB := TB_c2 (List.mem_of_getElem? (i := 44) (by decide +kernel)) rfl
theorem se_X4_takeOrder : Cond.selects RX4 yX4_takeOrder yX4_takeOrder ∈ TB := TB_c2 (List.mem_of_getElem? (i := 45) (by decide +kernel)) rfl
theorem cd_X4_takeOrder : Cond.code yX4_takeOrder cX4_takeOrder 5 (some .boolean) ∈ TB := TB_c2 (List.mem_of_getElem? (i := 46) rfl) rfl
theorem ml_RX4_25 : Cond.methodLink RX4 25 yX4_nibble ∈ TB := TB_c2 (List.mem_of_getElem? (i := 47) (by decide +kernel)) rfl
theorem sm_X4_nibble : Cond.static yX4_nibble ∈ TB := TB_c2 (List.mem_of_getElem? (i := 48) (by decide +kernel)) rfl
theorem cd_X4_nibble : Cond.code yX4_nibble cX4_nibble 2 (some .int) ∈ TB := TB_c2 (List.mem_of_getElem? (i := 49) rfl) rfl
theorem ml_RL_28 : Cond.methodLink RL 28 yX7_lay ∈ TB := TB_c2 (List.mem_of_getElem? (i := 50) (by decide +kernel)) rfl
theorem im_X7_lay : Cond.instanceMethod yX7_lay ∈ TB := TB_c2 (List.mem_of_getElem? (i := 51) (by decide +kernel)) rfl
theorem se_X7_lay : Cond.selects RX7 yX7_lay yX7_lay ∈ TB := TB_c2 (List.mem_of_getElem? (i := 52) (by decide +kernel)) rfl
theorem cd_X7_lay : Cond.code yX7_lay cX7_lay 1 (some .int) ∈ TB := TB_c2 (List.mem_of_getElem? (i := 53) rfl) rfl
theorem ml_RX7_101 : Cond.methodLink RX7 101 yX4_hasAllLengths ∈ TB := TB_c2 (List.mem_of_getElem? (i := 54) (by decide +kernel)) rfl
theorem im_X4_hasAllLengths : Cond.instanceMethod yX4_hasAllLengths ∈ TB := TB_c2 (List.mem_of_getElem? (i := 55) (by decide +kernel)) rfl
theorem se_X4_hasAllLengths : Cond.selects RX4 yX4_hasAllLengths yX4_hasAllLengths ∈ TB := TB_c2 (List.mem_of_getElem? (i := 56) (by decide +kernel)) rfl
theorem cd_X4_hasAllLengths : Cond.code yX4_hasAllLengths cX4_hasAllLengths 2 (some .boolean) ∈ TB := TB_c2 (List.mem_of_getElem? (i := 57) rfl) rfl
theorem ml_RX7_105 : Cond.methodLink RX7 105 yX3_layFrom ∈ TB := TB_c2 (List.mem_of_getElem? (i := 58) (by decide +kernel)) rfl
theorem im_X3_layFrom : Cond.instanceMethod yX3_layFrom ∈ TB := TB_c2 (List.mem_of_getElem? (i := 59) (by decide +kernel)) rfl
theorem se_X3_layFrom : Cond.selects RX3 yX3_layFrom yX3_layFrom ∈ TB := TB_c2 (List.mem_of_getElem? (i := 60) (by decide +kernel)) rfl
theorem cd_X3_layFrom : Cond.code yX3_layFrom cX3_layFrom 5 (none) ∈ TB := TB_c2 (List.mem_of_getElem? (i := 61) rfl) rfl
theorem ml_RX7_109 : Cond.methodLink RX7 109 yX7_drawWays ∈ TB := TB_c2 (List.mem_of_getElem? (i := 62) (by decide +kernel)) rfl
theorem im_X7_drawWays : Cond.instanceMethod yX7_drawWays ∈ TB := TB_c2 (List.mem_of_getElem? (i := 64) (by decide +kernel)) rfl
theorem cd_X7_drawWays : Cond.code yX7_drawWays cX7_drawWays 1 (none) ∈ TB := TB_c2 (List.mem_of_getElem? (i := 65) rfl) rfl
theorem ml_RX7_229 : Cond.methodLink RX7 229 yX6_draw ∈ TB := TB_c2 (List.mem_of_getElem? (i := 66) (by decide +kernel)) rfl
theorem im_X6_draw : Cond.instanceMethod yX6_draw ∈ TB := TB_c2 (List.mem_of_getElem? (i := 67) (by decide +kernel)) rfl
theorem se_X6_draw : Cond.selects RX6 yX6_draw yX6_draw ∈ TB := TB_c2 (List.mem_of_getElem? (i := 68) (by decide +kernel)) rfl
theorem cd_X6_draw : Cond.code yX6_draw cX6_draw 10 (none) ∈ TB := TB_c2 (List.mem_of_getElem? (i := 69) rfl) rfl
theorem ml_RL_33 : Cond.methodLink RL 33 yX7_of ∈ TB := TB_c2 (List.mem_of_getElem? (i := 70) (by decide +kernel)) rfl
theorem im_X7_of : Cond.instanceMethod yX7_of ∈ TB := TB_c2 (List.mem_of_getElem? (i := 71) (by decide +kernel)) rfl
theorem se_X7_of : Cond.selects RX7 yX7_of yX7_of ∈ TB := TB_c2 (List.mem_of_getElem? (i := 72) (by decide +kernel)) rfl
theorem cd_X7_of : Cond.code yX7_of cX7_of 2 (some .int) ∈ TB := TB_c2 (List.mem_of_getElem? (i := 73) rfl) rfl
theorem ml_RX7_115 : Cond.methodLink RX7 115 yX3_partedAt ∈ TB := TB_c2 (List.mem_of_getElem? (i := 74) (by decide +kernel)) rfl
theorem im_X3_partedAt : Cond.instanceMethod yX3_partedAt ∈ TB := TB_c2 (List.mem_of_getElem? (i := 75) (by decide +kernel)) rfl
theorem se_X3_partedAt : Cond.selects RX3 yX3_partedAt yX3_partedAt ∈ TB := TB_c2 (List.mem_of_getElem? (i := 76) (by decide +kernel)) rfl
theorem cd_X3_partedAt : Cond.code yX3_partedAt cX3_partedAt 4 (some .int) ∈ TB := TB_c2 (List.mem_of_getElem? (i := 77) rfl) rfl
theorem ml_RL_38 : Cond.methodLink RL 38 yX7_spans ∈ TB := TB_c2 (List.mem_of_getElem? (i := 78) (by decide +kernel)) rfl
theorem im_X7_spans : Cond.instanceMethod yX7_spans ∈ TB := TB_c2 (List.mem_of_getElem? (i := 79) (by decide +kernel)) rfl
theorem se_X7_spans : Cond.selects RX7 yX7_spans yX7_spans ∈ TB := TB_c2 (List.mem_of_getElem? (i := 80) (by decide +kernel)) rfl
theorem cd_X7_spans : Cond.code yX7_spans cX7_spans 3 (some .long) ∈ TB := TB_c2 (List.mem_of_getElem? (i := 81) rfl) rfl
theorem ml_RL_43 : Cond.methodLink RL 43 yX7_order ∈ TB := TB_c2 (List.mem_of_getElem? (i := 82) (by decide +kernel)) rfl
theorem im_X7_order : Cond.instanceMethod yX7_order ∈ TB := TB_c2 (List.mem_of_getElem? (i := 83) (by decide +kernel)) rfl
theorem se_X7_order : Cond.selects RX7 yX7_order yX7_order ∈ TB := TB_c2 (List.mem_of_getElem? (i := 84) (by decide +kernel)) rfl
theorem cd_X7_order : Cond.code yX7_order cX7_order 3 (some .int) ∈ TB := TB_c2 (List.mem_of_getElem? (i := 85) rfl) rfl
theorem ml_RL_48 : Cond.methodLink RL 48 yX7_point ∈ TB := TB_c2 (List.mem_of_getElem? (i := 86) (by decide +kernel)) rfl
theorem im_X7_point : Cond.instanceMethod yX7_point ∈ TB := TB_c2 (List.mem_of_getElem? (i := 87) (by decide +kernel)) rfl
theorem se_X7_point : Cond.selects RX7 yX7_point yX7_point ∈ TB := TB_c2 (List.mem_of_getElem? (i := 88) (by decide +kernel)) rfl
theorem cd_X7_point : Cond.code yX7_point cX7_point 3 (some .int) ∈ TB := TB_c2 (List.mem_of_getElem? (i := 89) rfl) rfl
theorem kc_RX7_137 : Cond.constant RX7 137 (536870912) ∈ TB := TB_c2 (List.mem_of_getElem? (i := 90) (by decide +kernel)) rfl
theorem ml_RX7_138 : Cond.methodLink RX7 138 yX6_covers ∈ TB := TB_c2 (List.mem_of_getElem? (i := 91) (by decide +kernel)) rfl
theorem im_X6_covers : Cond.instanceMethod yX6_covers ∈ TB := TB_c2 (List.mem_of_getElem? (i := 92) (by decide +kernel)) rfl
theorem se_X6_covers : Cond.selects RX6 yX6_covers yX6_covers ∈ TB := TB_c2 (List.mem_of_getElem? (i := 93) (by decide +kernel)) rfl
theorem cd_X6_covers : Cond.code yX6_covers cX6_covers 5 (some .boolean) ∈ TB := TB_c2 (List.mem_of_getElem? (i := 94) rfl) rfl
theorem ml_RX6_49 : Cond.methodLink RX6 49 yX6_isLeftOf ∈ TB := TB_c2 (List.mem_of_getElem? (i := 96) (by decide +kernel)) rfl
theorem im_X6_isLeftOf : Cond.instanceMethod yX6_isLeftOf ∈ TB := TB_c2 (List.mem_of_getElem? (i := 98) (by decide +kernel)) rfl
theorem cd_X6_isLeftOf : Cond.code yX6_isLeftOf cX6_isLeftOf 6 (some .boolean) ∈ TB := TB_c2 (List.mem_of_getElem? (i := 99) rfl) rfl
theorem ml_RX7_142 : Cond.methodLink RX7 142 yX5_put ∈ TB := TB_c2 (List.mem_of_getElem? (i := 100) (by decide +kernel)) rfl
theorem im_X5_put : Cond.instanceMethod yX5_put ∈ TB := TB_c2 (List.mem_of_getElem? (i := 101) (by decide +kernel)) rfl
theorem se_X5_put : Cond.selects RX5 yX5_put yX5_put ∈ TB := TB_c2 (List.mem_of_getElem? (i := 102) (by decide +kernel)) rfl
theorem cd_X5_put : Cond.code yX5_put cX5_put 5 (none) ∈ TB := TB_c2 (List.mem_of_getElem? (i := 103) rfl) rfl
theorem ml_RX7_146 : Cond.methodLink RX7 146 yX6_spanAt ∈ TB := TB_c2 (List.mem_of_getElem? (i := 104) (by decide +kernel)) rfl
theorem im_X6_spanAt : Cond.instanceMethod yX6_spanAt ∈ TB := TB_c2 (List.mem_of_getElem? (i := 105) (by decide +kernel)) rfl
theorem se_X6_spanAt : Cond.selects RX6 yX6_spanAt yX6_spanAt ∈ TB := TB_c2 (List.mem_of_getElem? (i := 106) (by decide +kernel)) rfl
theorem cd_X6_spanAt : Cond.code yX6_spanAt cX6_spanAt 3 (some .int) ∈ TB := TB_c2 (List.mem_of_getElem? (i := 107) rfl) rfl
theorem ml_RL_52 : Cond.methodLink RL 52 yX7_move ∈ TB := TB_c2 (List.mem_of_getElem? (i := 108) (by decide +kernel)) rfl
theorem im_X7_move : Cond.instanceMethod yX7_move ∈ TB := TB_c2 (List.mem_of_getElem? (i := 109) (by decide +kernel)) rfl
theorem se_X7_move : Cond.selects RX7 yX7_move yX7_move ∈ TB := TB_c2 (List.mem_of_getElem? (i := 110) (by decide +kernel)) rfl
theorem cd_X7_move : Cond.code yX7_move cX7_move 5 (some .int) ∈ TB := TB_c2 (List.mem_of_getElem? (i := 111) rfl) rfl
theorem ml_RX7_157 : Cond.methodLink RX7 157 yX6_carry ∈ TB := TB_c2 (List.mem_of_getElem? (i := 112) (by decide +kernel)) rfl
theorem im_X6_carry : Cond.instanceMethod yX6_carry ∈ TB := TB_c2 (List.mem_of_getElem? (i := 113) (by decide +kernel)) rfl
theorem se_X6_carry : Cond.selects RX6 yX6_carry yX6_carry ∈ TB := TB_c2 (List.mem_of_getElem? (i := 114) (by decide +kernel)) rfl
theorem cd_X6_carry : Cond.code yX6_carry cX6_carry 2 (some .boolean) ∈ TB := TB_c2 (List.mem_of_getElem? (i := 115) rfl) rfl
theorem ml_RX6_62 : Cond.methodLink RX6 62 yX6_spanAt ∈ TB := TB_c2 (List.mem_of_getElem? (i := 116) (by decide +kernel)) rfl
theorem ml_RX6_66 : Cond.methodLink RX6 66 yX6_shift ∈ TB := TB_c2 (List.mem_of_getElem? (i := 117) (by decide +kernel)) rfl
theorem im_X6_shift : Cond.instanceMethod yX6_shift ∈ TB := TB_c2 (List.mem_of_getElem? (i := 118) (by decide +kernel)) rfl
theorem se_X6_shift : Cond.selects RX6 yX6_shift yX6_shift ∈ TB := TB_c2 (List.mem_of_getElem? (i := 119) (by decide +kernel)) rfl
theorem cd_X6_shift : Cond.code yX6_shift cX6_shift 3 (some .boolean) ∈ TB := TB_c2 (List.mem_of_getElem? (i := 120) rfl) rfl
theorem kc_RX6_70 : Cond.constant RX6 70 (536870912) ∈ TB := TB_c2 (List.mem_of_getElem? (i := 121) (by decide +kernel)) rfl
theorem ml_RL_56 : Cond.methodLink RL 56 yX7_where ∈ TB := TB_c2 (List.mem_of_getElem? (i := 123) (by decide +kernel)) rfl
theorem im_X7_where : Cond.instanceMethod yX7_where ∈ TB := TB_c2 (List.mem_of_getElem? (i := 124) (by decide +kernel)) rfl
theorem se_X7_where : Cond.selects RX7 yX7_where yX7_where ∈ TB := TB_c2 (List.mem_of_getElem? (i := 125) (by decide +kernel)) rfl
theorem cd_X7_where : Cond.code yX7_where cX7_where 2 (some .long) ∈ TB := TB_c2 (List.mem_of_getElem? (i := 126) rfl) rfl
theorem kc_RX7_161 : Cond.constantLong RX7 161 (-9000000000000000000) ∈ TB := TB_c2 (List.mem_of_getElem? (i := 127) (by decide +kernel)) rfl
theorem ml_RL_61 : Cond.methodLink RL 61 yX7_back ∈ TB := TB_c2 (List.mem_of_getElem? (i := 128) (by decide +kernel)) rfl
theorem im_X7_back : Cond.instanceMethod yX7_back ∈ TB := TB_c2 (List.mem_of_getElem? (i := 129) (by decide +kernel)) rfl
theorem se_X7_back : Cond.selects RX7 yX7_back yX7_back ∈ TB := TB_c2 (List.mem_of_getElem? (i := 130) (by decide +kernel)) rfl
theorem cd_X7_back : Cond.code yX7_back cX7_back 4 (some .int) ∈ TB := TB_c2 (List.mem_of_getElem? (i := 131) rfl) rfl
theorem ml_RL_65 : Cond.methodLink RL 65 yX7_visits ∈ TB := TB_c2 (List.mem_of_getElem? (i := 132) (by decide +kernel)) rfl
theorem im_X7_visits : Cond.instanceMethod yX7_visits ∈ TB := TB_c2 (List.mem_of_getElem? (i := 133) (by decide +kernel)) rfl
theorem se_X7_visits : Cond.selects RX7 yX7_visits yX7_visits ∈ TB := TB_c2 (List.mem_of_getElem? (i := 134) (by decide +kernel)) rfl
theorem cd_X7_visits : Cond.code yX7_visits cX7_visits 6 (some .int) ∈ TB := TB_c2 (List.mem_of_getElem? (i := 135) rfl) rfl
theorem ml_RX7_163 : Cond.methodLink RX7 163 yX6_shift ∈ TB := TB_c2 (List.mem_of_getElem? (i := 136) (by decide +kernel)) rfl
theorem ml_RL_69 : Cond.methodLink RL 69 yX7_step ∈ TB := TB_c2 (List.mem_of_getElem? (i := 137) (by decide +kernel)) rfl
theorem im_X7_step : Cond.instanceMethod yX7_step ∈ TB := TB_c2 (List.mem_of_getElem? (i := 138) (by decide +kernel)) rfl
theorem se_X7_step : Cond.selects RX7 yX7_step yX7_step ∈ TB := TB_c2 (List.mem_of_getElem? (i := 139) (by decide +kernel)) rfl
theorem cd_X7_step : Cond.code yX7_step cX7_step 2 (some .int) ∈ TB := TB_c2 (List.mem_of_getElem? (i := 140) rfl) rfl
theorem ml_RX7_167 : Cond.methodLink RX7 167 yX3_advance ∈ TB := TB_c2 (List.mem_of_getElem? (i := 141) (by decide +kernel)) rfl
theorem im_X3_advance : Cond.instanceMethod yX3_advance ∈ TB := TB_c2 (List.mem_of_getElem? (i := 142) (by decide +kernel)) rfl
theorem se_X3_advance : Cond.selects RX3 yX3_advance yX3_advance ∈ TB := TB_c2 (List.mem_of_getElem? (i := 143) (by decide +kernel)) rfl
theorem cd_X3_advance : Cond.code yX3_advance cX3_advance 7 (some .int) ∈ TB := TB_c2 (List.mem_of_getElem? (i := 144) rfl) rfl
theorem ml_RX3_57 : Cond.methodLink RX3 57 yX3_isSpentBy ∈ TB := TB_c2 (List.mem_of_getElem? (i := 146) (by decide +kernel)) rfl
theorem im_X3_isSpentBy : Cond.instanceMethod yX3_isSpentBy ∈ TB := TB_c2 (List.mem_of_getElem? (i := 148) (by decide +kernel)) rfl
theorem cd_X3_isSpentBy : Cond.code yX3_isSpentBy cX3_isSpentBy 5 (some .boolean) ∈ TB := TB_c2 (List.mem_of_getElem? (i := 149) rfl) rfl
theorem kc_RX3_80 : Cond.constantLong RX3 80 (1099511627776) ∈ TB := TB_c2 (List.mem_of_getElem? (i := 151) (by decide +kernel)) rfl
theorem ml_RX3_61 : Cond.methodLink RX3 61 yX3_shorten ∈ TB := TB_c2 (List.mem_of_getElem? (i := 152) (by decide +kernel)) rfl
theorem im_X3_shorten : Cond.instanceMethod yX3_shorten ∈ TB := TB_c2 (List.mem_of_getElem? (i := 154) (by decide +kernel)) rfl
theorem cd_X3_shorten : Cond.code yX3_shorten cX3_shorten 5 (none) ∈ TB := TB_c2 (List.mem_of_getElem? (i := 155) rfl) rfl
theorem ml_RX3_65 : Cond.methodLink RX3 65 yX3_bringLastBehind ∈ TB := TB_c2 (List.mem_of_getElem? (i := 156) (by decide +kernel)) rfl
theorem im_X3_bringLastBehind : Cond.instanceMethod yX3_bringLastBehind ∈ TB := TB_c2 (List.mem_of_getElem? (i := 158) (by decide +kernel)) rfl
theorem cd_X3_bringLastBehind : Cond.code yX3_bringLastBehind cX3_bringLastBehind 5 (none) ∈ TB := TB_c2 (List.mem_of_getElem? (i := 159) rfl) rfl
theorem ml_RX7_170 : Cond.methodLink RX7 170 yX7_followMover ∈ TB := TB_c2 (List.mem_of_getElem? (i := 160) (by decide +kernel)) rfl
theorem im_X7_followMover : Cond.instanceMethod yX7_followMover ∈ TB := TB_c2 (List.mem_of_getElem? (i := 162) (by decide +kernel)) rfl
theorem cd_X7_followMover : Cond.code yX7_followMover cX7_followMover 1 (none) ∈ TB := TB_c2 (List.mem_of_getElem? (i := 163) rfl) rfl
theorem ml_RL_73 : Cond.methodLink RL 73 yX7_steps ∈ TB := TB_c2 (List.mem_of_getElem? (i := 164) (by decide +kernel)) rfl
theorem im_X7_steps : Cond.instanceMethod yX7_steps ∈ TB := TB_c2 (List.mem_of_getElem? (i := 165) (by decide +kernel)) rfl
theorem se_X7_steps : Cond.selects RX7 yX7_steps yX7_steps ∈ TB := TB_c2 (List.mem_of_getElem? (i := 166) (by decide +kernel)) rfl
theorem cd_X7_steps : Cond.code yX7_steps cX7_steps 3 (some .int) ∈ TB := TB_c2 (List.mem_of_getElem? (i := 167) rfl) rfl
theorem ml_RL_77 : Cond.methodLink RL 77 yX7_table ∈ TB := TB_c2 (List.mem_of_getElem? (i := 168) (by decide +kernel)) rfl
theorem im_X7_table : Cond.instanceMethod yX7_table ∈ TB := TB_c2 (List.mem_of_getElem? (i := 169) (by decide +kernel)) rfl
theorem se_X7_table : Cond.selects RX7 yX7_table yX7_table ∈ TB := TB_c2 (List.mem_of_getElem? (i := 170) (by decide +kernel)) rfl
theorem cd_X7_table : Cond.code yX7_table cX7_table 3 (some .long) ∈ TB := TB_c2 (List.mem_of_getElem? (i := 171) rfl) rfl
theorem kc_RX7_173 : Cond.constantLong RX7 173 (-1) ∈ TB := TB_c2 (List.mem_of_getElem? (i := 172) (by decide +kernel)) rfl
theorem ml_RL_81 : Cond.methodLink RL 81 yX7_loop ∈ TB := TB_c2 (List.mem_of_getElem? (i := 173) (by decide +kernel)) rfl
theorem im_X7_loop : Cond.instanceMethod yX7_loop ∈ TB := TB_c2 (List.mem_of_getElem? (i := 174) (by decide +kernel)) rfl
theorem se_X7_loop : Cond.selects RX7 yX7_loop yX7_loop ∈ TB := TB_c2 (List.mem_of_getElem? (i := 175) (by decide +kernel)) rfl
theorem cd_X7_loop : Cond.code yX7_loop cX7_loop 2 (some .int) ∈ TB := TB_c2 (List.mem_of_getElem? (i := 176) rfl) rfl
theorem ml_RX7_178 : Cond.methodLink RX7 178 yX3_copyFrom ∈ TB := TB_c2 (List.mem_of_getElem? (i := 177) (by decide +kernel)) rfl
theorem im_X3_copyFrom : Cond.instanceMethod yX3_copyFrom ∈ TB := TB_c2 (List.mem_of_getElem? (i := 178) (by decide +kernel)) rfl
theorem se_X3_copyFrom : Cond.selects RX3 yX3_copyFrom yX3_copyFrom ∈ TB := TB_c2 (List.mem_of_getElem? (i := 179) (by decide +kernel)) rfl
theorem cd_X3_copyFrom : Cond.code yX3_copyFrom cX3_copyFrom 2 (none) ∈ TB := TB_c2 (List.mem_of_getElem? (i := 180) rfl) rfl
theorem ml_RX3_47 : Cond.methodLink RX3 47 arraycopyName ∈ TB := TB_c2 (List.mem_of_getElem? (i := 181) (by decide +kernel)) rfl
theorem sm_arraycopy : Cond.static arraycopyName ∈ TB := TB_c2 (List.mem_of_getElem? (i := 182) (by decide +kernel)) rfl
theorem nm_arraycopy : Cond.native arraycopyName ∈ TB := TB_c2 (List.mem_of_getElem? (i := 183) (by decide +kernel)) rfl
theorem ml_RX7_182 : Cond.methodLink RX7 182 yX3_hasOrdersOf ∈ TB := TB_c2 (List.mem_of_getElem? (i := 184) (by decide +kernel)) rfl
theorem im_X3_hasOrdersOf : Cond.instanceMethod yX3_hasOrdersOf ∈ TB := TB_c2 (List.mem_of_getElem? (i := 185) (by decide +kernel)) rfl
theorem se_X3_hasOrdersOf : Cond.selects RX3 yX3_hasOrdersOf yX3_hasOrdersOf ∈ TB := TB_c2 (List.mem_of_getElem? (i := 186) (by decide +kernel)) rfl
theorem cd_X3_hasOrdersOf : Cond.code yX3_hasOrdersOf cX3_hasOrdersOf 3 (some .boolean) ∈ TB := TB_c2 (List.mem_of_getElem? (i := 187) rfl) rfl
theorem ml_RX7_186 : Cond.methodLink RX7 186 yX3_hasSharesOf ∈ TB := TB_c2 (List.mem_of_getElem? (i := 188) (by decide +kernel)) rfl
theorem im_X3_hasSharesOf : Cond.instanceMethod yX3_hasSharesOf ∈ TB := TB_c2 (List.mem_of_getElem? (i := 189) (by decide +kernel)) rfl
theorem se_X3_hasSharesOf : Cond.selects RX3 yX3_hasSharesOf yX3_hasSharesOf ∈ TB := TB_c2 (List.mem_of_getElem? (i := 190) (by decide +kernel)) rfl
theorem cd_X3_hasSharesOf : Cond.code yX3_hasSharesOf cX3_hasSharesOf 3 (some .boolean) ∈ TB := TB_c2 (List.mem_of_getElem? (i := 191) rfl) rfl
theorem ml_RX3_69 : Cond.methodLink RX3 69 yX3_productA ∈ TB := TB_c2 (List.mem_of_getElem? (i := 192) (by decide +kernel)) rfl
theorem im_X3_productA : Cond.instanceMethod yX3_productA ∈ TB := TB_c2 (List.mem_of_getElem? (i := 194) (by decide +kernel)) rfl
theorem cd_X3_productA : Cond.code yX3_productA cX3_productA 3 (some .long) ∈ TB := TB_c2 (List.mem_of_getElem? (i := 195) rfl) rfl
theorem ml_RX3_73 : Cond.methodLink RX3 73 yX3_productB ∈ TB := TB_c2 (List.mem_of_getElem? (i := 196) (by decide +kernel)) rfl
theorem im_X3_productB : Cond.instanceMethod yX3_productB ∈ TB := TB_c2 (List.mem_of_getElem? (i := 198) (by decide +kernel)) rfl
theorem cd_X3_productB : Cond.code yX3_productB cX3_productB 3 (some .long) ∈ TB := TB_c2 (List.mem_of_getElem? (i := 199) rfl) rfl
theorem ml_RL_85 : Cond.methodLink RL 85 yX7_rounds ∈ TB := TB_c2 (List.mem_of_getElem? (i := 200) (by decide +kernel)) rfl
theorem im_X7_rounds : Cond.instanceMethod yX7_rounds ∈ TB := TB_c2 (List.mem_of_getElem? (i := 201) (by decide +kernel)) rfl
theorem se_X7_rounds : Cond.selects RX7 yX7_rounds yX7_rounds ∈ TB := TB_c2 (List.mem_of_getElem? (i := 202) (by decide +kernel)) rfl
theorem cd_X7_rounds : Cond.code yX7_rounds cX7_rounds 3 (some .int) ∈ TB := TB_c2 (List.mem_of_getElem? (i := 203) rfl) rfl
theorem kc_RX7_189 : Cond.constantLong RX7 189 (2000) ∈ TB := TB_c2 (List.mem_of_getElem? (i := 204) (by decide +kernel)) rfl
theorem ml_RX7_191 : Cond.methodLink RX7 191 yX1_tell ∈ TB := TB_c2 (List.mem_of_getElem? (i := 205) (by decide +kernel)) rfl
theorem im_X1_tell : Cond.instanceMethod yX1_tell ∈ TB := TB_c2 (List.mem_of_getElem? (i := 206) (by decide +kernel)) rfl
theorem se_X1_tell : Cond.selects RX1 yX1_tell yX1_tell ∈ TB := TB_c2 (List.mem_of_getElem? (i := 207) (by decide +kernel)) rfl
theorem cd_X1_tell : Cond.code yX1_tell cX1_tell 4 (none) ∈ TB := TB_c2 (List.mem_of_getElem? (i := 208) rfl) rfl
theorem ml_RX1_27 : Cond.methodLink RX1 27 yX1_drawPieces ∈ TB := TB_c2 (List.mem_of_getElem? (i := 209) (by decide +kernel)) rfl
theorem im_X1_drawPieces : Cond.instanceMethod yX1_drawPieces ∈ TB := TB_c2 (List.mem_of_getElem? (i := 211) (by decide +kernel)) rfl
theorem cd_X1_drawPieces : Cond.code yX1_drawPieces cX1_drawPieces 6 (none) ∈ TB := TB_c2 (List.mem_of_getElem? (i := 212) rfl) rfl
theorem ml_RX1_35 : Cond.methodLink RX1 35 yX1_measure ∈ TB := TB_c2 (List.mem_of_getElem? (i := 213) (by decide +kernel)) rfl
theorem im_X1_measure : Cond.instanceMethod yX1_measure ∈ TB := TB_c2 (List.mem_of_getElem? (i := 215) (by decide +kernel)) rfl
theorem cd_X1_measure : Cond.code yX1_measure cX1_measure 6 (none) ∈ TB := TB_c2 (List.mem_of_getElem? (i := 216) rfl) rfl
theorem ml_RX1_55 : Cond.methodLink RX1 55 Lib.Math.min.name ∈ TB := TB_c2 (List.mem_of_getElem? (i := 217) (by decide +kernel)) rfl
theorem sm_min : Cond.static Lib.Math.min.name ∈ TB := TB_c2 (List.mem_of_getElem? (i := 218) (by decide +kernel)) rfl
theorem cd_min : Cond.code Lib.Math.min.name Lib.Math.min.code 2 (some .int) ∈ TB := TB_c2 (List.mem_of_getElem? (i := 219) rfl) rfl
theorem ml_RX1_39 : Cond.methodLink RX1 39 yX1_takeOut ∈ TB := TB_c2 (List.mem_of_getElem? (i := 220) (by decide +kernel)) rfl
theorem im_X1_takeOut : Cond.instanceMethod yX1_takeOut ∈ TB := TB_c2 (List.mem_of_getElem? (i := 222) (by decide +kernel)) rfl
theorem cd_X1_takeOut : Cond.code yX1_takeOut cX1_takeOut 4 (none) ∈ TB := TB_c2 (List.mem_of_getElem? (i := 223) rfl) rfl
theorem ml_RL_89 : Cond.methodLink RL 89 yX7_round ∈ TB := TB_c2 (List.mem_of_getElem? (i := 224) (by decide +kernel)) rfl
theorem im_X7_round : Cond.instanceMethod yX7_round ∈ TB := TB_c2 (List.mem_of_getElem? (i := 225) (by decide +kernel)) rfl
theorem se_X7_round : Cond.selects RX7 yX7_round yX7_round ∈ TB := TB_c2 (List.mem_of_getElem? (i := 226) (by decide +kernel)) rfl
theorem cd_X7_round : Cond.code yX7_round cX7_round 3 (some .int) ∈ TB := TB_c2 (List.mem_of_getElem? (i := 227) rfl) rfl
theorem ml_RL_93 : Cond.methodLink RL 93 yX7_words ∈ TB := TB_c2 (List.mem_of_getElem? (i := 228) (by decide +kernel)) rfl
theorem im_X7_words : Cond.instanceMethod yX7_words ∈ TB := TB_c2 (List.mem_of_getElem? (i := 229) (by decide +kernel)) rfl
theorem se_X7_words : Cond.selects RX7 yX7_words yX7_words ∈ TB := TB_c2 (List.mem_of_getElem? (i := 230) (by decide +kernel)) rfl
theorem cd_X7_words : Cond.code yX7_words cX7_words 4 (some .int) ∈ TB := TB_c2 (List.mem_of_getElem? (i := 231) rfl) rfl
theorem ml_RX7_205 : Cond.methodLink RX7 205 yX7_beginningsBehind ∈ TB := TB_c2 (List.mem_of_getElem? (i := 232) (by decide +kernel)) rfl
theorem im_X7_beginningsBehind : Cond.instanceMethod yX7_beginningsBehind ∈ TB := TB_c2 (List.mem_of_getElem? (i := 234) (by decide +kernel)) rfl
theorem cd_X7_beginningsBehind : Cond.code yX7_beginningsBehind cX7_beginningsBehind 4 (some .int) ∈ TB := TB_c2 (List.mem_of_getElem? (i := 235) rfl) rfl
theorem ml_RX7_233 : Cond.methodLink RX7 233 yX6_isLeftEnd ∈ TB := TB_c2 (List.mem_of_getElem? (i := 236) (by decide +kernel)) rfl
theorem im_X6_isLeftEnd : Cond.instanceMethod yX6_isLeftEnd ∈ TB := TB_c2 (List.mem_of_getElem? (i := 237) (by decide +kernel)) rfl
theorem se_X6_isLeftEnd : Cond.selects RX6 yX6_isLeftEnd yX6_isLeftEnd ∈ TB := TB_c2 (List.mem_of_getElem? (i := 238) (by decide +kernel)) rfl
theorem cd_X6_isLeftEnd : Cond.code yX6_isLeftEnd cX6_isLeftEnd 3 (some .boolean) ∈ TB := TB_c2 (List.mem_of_getElem? (i := 239) rfl) rfl
theorem ml_RL_97 : Cond.methodLink RL 97 yX7_classes ∈ TB := TB_c3 (List.mem_of_getElem? (i := 0) (by decide +kernel)) rfl
theorem im_X7_classes : Cond.instanceMethod yX7_classes ∈ TB := TB_c3 (List.mem_of_getElem? (i := 1) (by decide +kernel)) rfl
theorem se_X7_classes : Cond.selects RX7 yX7_classes yX7_classes ∈ TB := TB_c3 (List.mem_of_getElem? (i := 2) (by decide +kernel)) rfl
theorem cd_X7_classes : Cond.code yX7_classes cX7_classes 1 (some .int) ∈ TB := TB_c3 (List.mem_of_getElem? (i := 3) rfl) rfl
theorem ml_RX7_209 : Cond.methodLink RX7 209 yX2_countFrom ∈ TB := TB_c3 (List.mem_of_getElem? (i := 4) (by decide +kernel)) rfl
theorem im_X2_countFrom : Cond.instanceMethod yX2_countFrom ∈ TB := TB_c3 (List.mem_of_getElem? (i := 5) (by decide +kernel)) rfl
theorem se_X2_countFrom : Cond.selects RX2 yX2_countFrom yX2_countFrom ∈ TB := TB_c3 (List.mem_of_getElem? (i := 6) (by decide +kernel)) rfl
theorem cd_X2_countFrom : Cond.code yX2_countFrom cX2_countFrom 3 (some .int) ∈ TB := TB_c3 (List.mem_of_getElem? (i := 7) rfl) rfl
theorem ml_RX2_35 : Cond.methodLink RX2 35 yX2_nameByPlaceAbove ∈ TB := TB_c3 (List.mem_of_getElem? (i := 8) (by decide +kernel)) rfl
theorem im_X2_nameByPlaceAbove : Cond.instanceMethod yX2_nameByPlaceAbove ∈ TB := TB_c3 (List.mem_of_getElem? (i := 10) (by decide +kernel)) rfl
theorem cd_X2_nameByPlaceAbove : Cond.code yX2_nameByPlaceAbove cX2_nameByPlaceAbove 4 (none) ∈ TB := TB_c3 (List.mem_of_getElem? (i := 11) rfl) rfl
theorem ml_RX2_39 : Cond.methodLink RX2 39 yX2_takeNext ∈ TB := TB_c3 (List.mem_of_getElem? (i := 12) (by decide +kernel)) rfl
theorem im_X2_takeNext : Cond.instanceMethod yX2_takeNext ∈ TB := TB_c3 (List.mem_of_getElem? (i := 14) (by decide +kernel)) rfl
theorem cd_X2_takeNext : Cond.code yX2_takeNext cX2_takeNext 2 (none) ∈ TB := TB_c3 (List.mem_of_getElem? (i := 15) rfl) rfl
theorem ml_RX2_58 : Cond.methodLink RX2 58 yX2_rankOfNext ∈ TB := TB_c3 (List.mem_of_getElem? (i := 16) (by decide +kernel)) rfl
theorem im_X2_rankOfNext : Cond.instanceMethod yX2_rankOfNext ∈ TB := TB_c3 (List.mem_of_getElem? (i := 18) (by decide +kernel)) rfl
theorem cd_X2_rankOfNext : Cond.code yX2_rankOfNext cX2_rankOfNext 5 (some .int) ∈ TB := TB_c3 (List.mem_of_getElem? (i := 19) rfl) rfl
theorem ml_RX2_62 : Cond.methodLink RX2 62 yX2_packNext ∈ TB := TB_c3 (List.mem_of_getElem? (i := 20) (by decide +kernel)) rfl
theorem im_X2_packNext : Cond.instanceMethod yX2_packNext ∈ TB := TB_c3 (List.mem_of_getElem? (i := 22) (by decide +kernel)) rfl
theorem cd_X2_packNext : Cond.code yX2_packNext cX2_packNext 3 (some .int) ∈ TB := TB_c3 (List.mem_of_getElem? (i := 23) rfl) rfl
theorem ml_RX2_42 : Cond.methodLink RX2 42 yX2_unpack ∈ TB := TB_c3 (List.mem_of_getElem? (i := 24) (by decide +kernel)) rfl
theorem im_X2_unpack : Cond.instanceMethod yX2_unpack ∈ TB := TB_c3 (List.mem_of_getElem? (i := 26) (by decide +kernel)) rfl
theorem cd_X2_unpack : Cond.code yX2_unpack cX2_unpack 3 (none) ∈ TB := TB_c3 (List.mem_of_getElem? (i := 27) rfl) rfl
theorem ml_RX2_46 : Cond.methodLink RX2 46 yX2_letUWin ∈ TB := TB_c3 (List.mem_of_getElem? (i := 28) (by decide +kernel)) rfl
theorem im_X2_letUWin : Cond.instanceMethod yX2_letUWin ∈ TB := TB_c3 (List.mem_of_getElem? (i := 30) (by decide +kernel)) rfl
theorem cd_X2_letUWin : Cond.code yX2_letUWin cX2_letUWin 5 (none) ∈ TB := TB_c3 (List.mem_of_getElem? (i := 31) rfl) rfl
theorem ml_RX2_49 : Cond.methodLink RX2 49 yX2_letVWin ∈ TB := TB_c3 (List.mem_of_getElem? (i := 32) (by decide +kernel)) rfl
theorem im_X2_letVWin : Cond.instanceMethod yX2_letVWin ∈ TB := TB_c3 (List.mem_of_getElem? (i := 34) (by decide +kernel)) rfl
theorem cd_X2_letVWin : Cond.code yX2_letVWin cX2_letVWin 5 (none) ∈ TB := TB_c3 (List.mem_of_getElem? (i := 35) rfl) rfl
theorem ml_RL_101 : Cond.methodLink RL 101 yX7_ground ∈ TB := TB_c3 (List.mem_of_getElem? (i := 36) (by decide +kernel)) rfl
theorem im_X7_ground : Cond.instanceMethod yX7_ground ∈ TB := TB_c3 (List.mem_of_getElem? (i := 37) (by decide +kernel)) rfl
theorem se_X7_ground : Cond.selects RX7 yX7_ground yX7_ground ∈ TB := TB_c3 (List.mem_of_getElem? (i := 38) (by decide +kernel)) rfl
theorem cd_X7_ground : Cond.code yX7_ground cX7_ground 2 (some .int) ∈ TB := TB_c3 (List.mem_of_getElem? (i := 39) rfl) rfl
theorem ml_RX7_213 : Cond.methodLink RX7 213 yX0_glue ∈ TB := TB_c3 (List.mem_of_getElem? (i := 40) (by decide +kernel)) rfl
theorem im_X0_glue : Cond.instanceMethod yX0_glue ∈ TB := TB_c3 (List.mem_of_getElem? (i := 41) (by decide +kernel)) rfl
theorem se_X0_glue : Cond.selects RX0 yX0_glue yX0_glue ∈ TB := TB_c3 (List.mem_of_getElem? (i := 42) (by decide +kernel)) rfl
theorem cd_X0_glue : Cond.code yX0_glue cX0_glue 4 (none) ∈ TB := TB_c3 (List.mem_of_getElem? (i := 43) rfl) rfl
theorem ml_RX0_28 : Cond.methodLink RX0 28 yX0_cornerBelow ∈ TB := TB_c3 (List.mem_of_getElem? (i := 44) (by decide +kernel)) rfl
theorem im_X0_cornerBelow : Cond.instanceMethod yX0_cornerBelow ∈ TB := TB_c3 (List.mem_of_getElem? (i := 46) (by decide +kernel)) rfl
theorem cd_X0_cornerBelow : Cond.code yX0_cornerBelow cX0_cornerBelow 2 (some .int) ∈ TB := TB_c3 (List.mem_of_getElem? (i := 47) rfl) rfl
theorem ml_RX0_32 : Cond.methodLink RX0 32 yX0_join ∈ TB := TB_c3 (List.mem_of_getElem? (i := 48) (by decide +kernel)) rfl
theorem im_X0_join : Cond.instanceMethod yX0_join ∈ TB := TB_c3 (List.mem_of_getElem? (i := 50) (by decide +kernel)) rfl
theorem cd_X0_join : Cond.code yX0_join cX0_join 6 (none) ∈ TB := TB_c3 (List.mem_of_getElem? (i := 51) rfl) rfl
theorem ml_RX7_216 : Cond.methodLink RX7 216 yX0_points ∈ TB := TB_c3 (List.mem_of_getElem? (i := 52) (by decide +kernel)) rfl
theorem im_X0_points : Cond.instanceMethod yX0_points ∈ TB := TB_c3 (List.mem_of_getElem? (i := 53) (by decide +kernel)) rfl
theorem se_X0_points : Cond.selects RX0 yX0_points yX0_points ∈ TB := TB_c3 (List.mem_of_getElem? (i := 54) (by decide +kernel)) rfl
theorem cd_X0_points : Cond.code yX0_points cX0_points 3 (some .int) ∈ TB := TB_c3 (List.mem_of_getElem? (i := 55) rfl) rfl
theorem ml_RX7_219 : Cond.methodLink RX7 219 yX0_mostTurns ∈ TB := TB_c3 (List.mem_of_getElem? (i := 56) (by decide +kernel)) rfl
theorem im_X0_mostTurns : Cond.instanceMethod yX0_mostTurns ∈ TB := TB_c3 (List.mem_of_getElem? (i := 57) (by decide +kernel)) rfl
theorem se_X0_mostTurns : Cond.selects RX0 yX0_mostTurns yX0_mostTurns ∈ TB := TB_c3 (List.mem_of_getElem? (i := 58) (by decide +kernel)) rfl
theorem cd_X0_mostTurns : Cond.code yX0_mostTurns cX0_mostTurns 3 (some .int) ∈ TB := TB_c3 (List.mem_of_getElem? (i := 59) rfl) rfl
theorem ml_RX0_36 : Cond.methodLink RX0 36 yX0_turnsAt ∈ TB := TB_c3 (List.mem_of_getElem? (i := 60) (by decide +kernel)) rfl
theorem im_X0_turnsAt : Cond.instanceMethod yX0_turnsAt ∈ TB := TB_c3 (List.mem_of_getElem? (i := 62) (by decide +kernel)) rfl
theorem cd_X0_turnsAt : Cond.code yX0_turnsAt cX0_turnsAt 4 (some .int) ∈ TB := TB_c3 (List.mem_of_getElem? (i := 63) rfl) rfl
theorem ml_RX0_39 : Cond.methodLink RX0 39 Lib.Math.max.name ∈ TB := TB_c3 (List.mem_of_getElem? (i := 64) (by decide +kernel)) rfl
theorem sm_max : Cond.static Lib.Math.max.name ∈ TB := TB_c3 (List.mem_of_getElem? (i := 65) (by decide +kernel)) rfl
theorem cd_max : Cond.code Lib.Math.max.name Lib.Math.max.code 2 (some .int) ∈ TB := TB_c3 (List.mem_of_getElem? (i := 66) rfl) rfl
theorem ml_RX7_222 : Cond.methodLink RX7 222 yX0_pointsWithOneTurn ∈ TB := TB_c3 (List.mem_of_getElem? (i := 67) (by decide +kernel)) rfl
theorem im_X0_pointsWithOneTurn : Cond.instanceMethod yX0_pointsWithOneTurn ∈ TB := TB_c3 (List.mem_of_getElem? (i := 68) (by decide +kernel)) rfl
theorem se_X0_pointsWithOneTurn : Cond.selects RX0 yX0_pointsWithOneTurn yX0_pointsWithOneTurn ∈ TB := TB_c3 (List.mem_of_getElem? (i := 69) (by decide +kernel)) rfl
theorem cd_X0_pointsWithOneTurn : Cond.code yX0_pointsWithOneTurn cX0_pointsWithOneTurn 3 (some .int) ∈ TB := TB_c3 (List.mem_of_getElem? (i := 70) rfl) rfl
theorem cl_RL_10 : Cond.classLink RL 10 RX8 ∈ TB := TB_c3 (List.mem_of_getElem? (i := 71) (by decide +kernel)) rfl
theorem it_RX8 : Cond.instantiable RX8 39 ∈ TB := TB_c3 (List.mem_of_getElem? (i := 72) (by decide +kernel)) rfl
theorem ml_RL_12 : Cond.methodLink RL 12 yX8_init ∈ TB := TB_c3 (List.mem_of_getElem? (i := 73) (by decide +kernel)) rfl
theorem im_X8_init : Cond.instanceMethod yX8_init ∈ TB := TB_c3 (List.mem_of_getElem? (i := 74) (by decide +kernel)) rfl
theorem cd_X8_init : Cond.code yX8_init cX8_init 1 (none) ∈ TB := TB_c3 (List.mem_of_getElem? (i := 75) rfl) rfl
theorem ml_RX8_1 : Cond.methodLink RX8 1 objectInit ∈ TB := TB_c3 (List.mem_of_getElem? (i := 76) (by decide +kernel)) rfl
theorem fl_RX8_87 : Cond.fieldLink RX8 87 "SpanBenchModel" "root" "I" ∈ TB := TB_c3 (List.mem_of_getElem? (i := 77) (by decide +kernel)) rfl
theorem fl_RX8_7 : Cond.fieldLink RX8 7 "SpanBenchModel" "sheetA" "[I" ∈ TB := TB_c3 (List.mem_of_getElem? (i := 78) (by decide +kernel)) rfl
theorem fl_RX8_13 : Cond.fieldLink RX8 13 "SpanBenchModel" "sheetB" "[I" ∈ TB := TB_c3 (List.mem_of_getElem? (i := 79) (by decide +kernel)) rfl
theorem fl_RX8_91 : Cond.fieldLink RX8 91 "SpanBenchModel" "sheetMany" "I" ∈ TB := TB_c3 (List.mem_of_getElem? (i := 80) (by decide +kernel)) rfl
theorem fl_RX8_16 : Cond.fieldLink RX8 16 "SpanBenchModel" "sheetBelow" "[I" ∈ TB := TB_c3 (List.mem_of_getElem? (i := 81) (by decide +kernel)) rfl
theorem fl_RX8_94 : Cond.fieldLink RX8 94 "SpanBenchModel" "n" "I" ∈ TB := TB_c3 (List.mem_of_getElem? (i := 82) (by decide +kernel)) rfl
theorem fl_RX8_19 : Cond.fieldLink RX8 19 "SpanBenchModel" "longA" "[J" ∈ TB := TB_c3 (List.mem_of_getElem? (i := 83) (by decide +kernel)) rfl
theorem fl_RX8_23 : Cond.fieldLink RX8 23 "SpanBenchModel" "longB" "[J" ∈ TB := TB_c3 (List.mem_of_getElem? (i := 84) (by decide +kernel)) rfl
theorem fl_RX8_26 : Cond.fieldLink RX8 26 "SpanBenchModel" "above" "[I" ∈ TB := TB_c3 (List.mem_of_getElem? (i := 85) (by decide +kernel)) rfl
theorem fl_RX8_29 : Cond.fieldLink RX8 29 "SpanBenchModel" "below" "[I" ∈ TB := TB_c3 (List.mem_of_getElem? (i := 86) (by decide +kernel)) rfl
theorem fl_RX8_32 : Cond.fieldLink RX8 32 "SpanBenchModel" "told" "[J" ∈ TB := TB_c3 (List.mem_of_getElem? (i := 87) (by decide +kernel)) rfl
theorem fl_RX8_101 : Cond.fieldLink RX8 101 "SpanBenchModel" "steps" "I" ∈ TB := TB_c3 (List.mem_of_getElem? (i := 88) (by decide +kernel)) rfl
theorem fl_RX8_104 : Cond.fieldLink RX8 104 "SpanBenchModel" "wins" "I" ∈ TB := TB_c3 (List.mem_of_getElem? (i := 89) (by decide +kernel)) rfl
theorem fl_RX8_97 : Cond.fieldLink RX8 97 "SpanBenchModel" "hasPoint" "Z" ∈ TB := TB_c3 (List.mem_of_getElem? (i := 90) (by decide +kernel)) rfl
theorem fl_RX8_157 : Cond.fieldLink RX8 157 "SpanBenchModel" "pointA" "J" ∈ TB := TB_c3 (List.mem_of_getElem? (i := 91) (by decide +kernel)) rfl
theorem fl_RX8_160 : Cond.fieldLink RX8 160 "SpanBenchModel" "pointB" "J" ∈ TB := TB_c3 (List.mem_of_getElem? (i := 92) (by decide +kernel)) rfl
theorem fl_RX8_128 : Cond.fieldLink RX8 128 "SpanBenchModel" "leftA" "J" ∈ TB := TB_c3 (List.mem_of_getElem? (i := 93) (by decide +kernel)) rfl
theorem fl_RX8_132 : Cond.fieldLink RX8 132 "SpanBenchModel" "leftB" "J" ∈ TB := TB_c3 (List.mem_of_getElem? (i := 94) (by decide +kernel)) rfl
theorem fl_RX8_139 : Cond.fieldLink RX8 139 "SpanBenchModel" "nextA" "J" ∈ TB := TB_c3 (List.mem_of_getElem? (i := 95) (by decide +kernel)) rfl
theorem fl_RX8_142 : Cond.fieldLink RX8 142 "SpanBenchModel" "nextB" "J" ∈ TB := TB_c3 (List.mem_of_getElem? (i := 96) (by decide +kernel)) rfl
theorem fl_RX8_35 : Cond.fieldLink RX8 35 "SpanBenchModel" "wasA" "[J" ∈ TB := TB_c3 (List.mem_of_getElem? (i := 97) (by decide +kernel)) rfl
theorem fl_RX8_38 : Cond.fieldLink RX8 38 "SpanBenchModel" "wasB" "[J" ∈ TB := TB_c3 (List.mem_of_getElem? (i := 98) (by decide +kernel)) rfl
theorem fl_RX8_41 : Cond.fieldLink RX8 41 "SpanBenchModel" "wasAbove" "[I" ∈ TB := TB_c3 (List.mem_of_getElem? (i := 99) (by decide +kernel)) rfl
theorem fl_RX8_44 : Cond.fieldLink RX8 44 "SpanBenchModel" "wasBelow" "[I" ∈ TB := TB_c3 (List.mem_of_getElem? (i := 100) (by decide +kernel)) rfl
theorem fl_RX8_47 : Cond.fieldLink RX8 47 "SpanBenchModel" "wasTold" "[J" ∈ TB := TB_c3 (List.mem_of_getElem? (i := 101) (by decide +kernel)) rfl
theorem fl_RX8_193 : Cond.fieldLink RX8 193 "SpanBenchModel" "rounds" "I" ∈ TB := TB_c3 (List.mem_of_getElem? (i := 102) (by decide +kernel)) rfl
theorem fl_RX8_50 : Cond.fieldLink RX8 50 "SpanBenchModel" "roundWide" "[I" ∈ TB := TB_c3 (List.mem_of_getElem? (i := 103) (by decide +kernel)) rfl
theorem fl_RX8_53 : Cond.fieldLink RX8 53 "SpanBenchModel" "roundTimes" "[I" ∈ TB := TB_c3 (List.mem_of_getElem? (i := 104) (by decide +kernel)) rfl
theorem fl_RX8_56 : Cond.fieldLink RX8 56 "SpanBenchModel" "roundLeast" "[I" ∈ TB := TB_c3 (List.mem_of_getElem? (i := 105) (by decide +kernel)) rfl
theorem fl_RX8_59 : Cond.fieldLink RX8 59 "SpanBenchModel" "to" "[I" ∈ TB := TB_c3 (List.mem_of_getElem? (i := 106) (by decide +kernel)) rfl
theorem fl_RX8_62 : Cond.fieldLink RX8 62 "SpanBenchModel" "in" "[I" ∈ TB := TB_c3 (List.mem_of_getElem? (i := 107) (by decide +kernel)) rfl
theorem fl_RX8_65 : Cond.fieldLink RX8 65 "SpanBenchModel" "seen" "[Z" ∈ TB := TB_c3 (List.mem_of_getElem? (i := 108) (by decide +kernel)) rfl
theorem fl_RX8_69 : Cond.fieldLink RX8 69 "SpanBenchModel" "cutA" "[J" ∈ TB := TB_c3 (List.mem_of_getElem? (i := 109) (by decide +kernel)) rfl
theorem fl_RX8_72 : Cond.fieldLink RX8 72 "SpanBenchModel" "cutB" "[J" ∈ TB := TB_c3 (List.mem_of_getElem? (i := 110) (by decide +kernel)) rfl
theorem fl_RX8_75 : Cond.fieldLink RX8 75 "SpanBenchModel" "noted" "[I" ∈ TB := TB_c3 (List.mem_of_getElem? (i := 111) (by decide +kernel)) rfl
theorem fl_RX8_200 : Cond.fieldLink RX8 200 "SpanBenchModel" "notes" "I" ∈ TB := TB_c3 (List.mem_of_getElem? (i := 112) (by decide +kernel)) rfl
theorem fl_RX8_78 : Cond.fieldLink RX8 78 "SpanBenchModel" "upper" "[I" ∈ TB := TB_c3 (List.mem_of_getElem? (i := 113) (by decide +kernel)) rfl
theorem fl_RX8_81 : Cond.fieldLink RX8 81 "SpanBenchModel" "lower" "[I" ∈ TB := TB_c3 (List.mem_of_getElem? (i := 114) (by decide +kernel)) rfl
theorem fl_RX8_84 : Cond.fieldLink RX8 84 "SpanBenchModel" "corner" "[I" ∈ TB := TB_c3 (List.mem_of_getElem? (i := 115) (by decide +kernel)) rfl
theorem ml_RL_17 : Cond.methodLink RL 17 yX8_root ∈ TB := TB_c3 (List.mem_of_getElem? (i := 195) (by decide +kernel)) rfl
theorem im_X8_root : Cond.instanceMethod yX8_root ∈ TB := TB_c3 (List.mem_of_getElem? (i := 196) (by decide +kernel)) rfl
theorem se_X8_root : Cond.selects RX8 yX8_root yX8_root ∈ TB := TB_c3 (List.mem_of_getElem? (i := 197) (by decide +kernel)) rfl
theorem cd_X8_root : Cond.code yX8_root cX8_root 2 (some .boolean) ∈ TB := TB_c3 (List.mem_of_getElem? (i := 198) rfl) rfl
theorem ml_RX8_107 : Cond.methodLink RX8 107 yX8_forgets ∈ TB := TB_c3 (List.mem_of_getElem? (i := 199) (by decide +kernel)) rfl
theorem im_X8_forgets : Cond.instanceMethod yX8_forgets ∈ TB := TB_c3 (List.mem_of_getElem? (i := 201) (by decide +kernel)) rfl
theorem cd_X8_forgets : Cond.code yX8_forgets cX8_forgets 2 (none) ∈ TB := TB_c3 (List.mem_of_getElem? (i := 202) rfl) rfl
theorem ml_RL_22 : Cond.methodLink RL 22 yX8_length ∈ TB := TB_c3 (List.mem_of_getElem? (i := 203) (by decide +kernel)) rfl
theorem im_X8_length : Cond.instanceMethod yX8_length ∈ TB := TB_c3 (List.mem_of_getElem? (i := 204) (by decide +kernel)) rfl
theorem se_X8_length : Cond.selects RX8 yX8_length yX8_length ∈ TB := TB_c3 (List.mem_of_getElem? (i := 205) (by decide +kernel)) rfl
theorem cd_X8_length : Cond.code yX8_length cX8_length 4 (some .boolean) ∈ TB := TB_c3 (List.mem_of_getElem? (i := 206) rfl) rfl
theorem kc_RX8_110 : Cond.constantLong RX8 110 (16384) ∈ TB := TB_c3 (List.mem_of_getElem? (i := 207) (by decide +kernel)) rfl
theorem ml_RX8_112 : Cond.methodLink RX8 112 yX8_isIn ∈ TB := TB_c3 (List.mem_of_getElem? (i := 208) (by decide +kernel)) rfl
theorem sm_X8_isIn : Cond.static yX8_isIn ∈ TB := TB_c3 (List.mem_of_getElem? (i := 209) (by decide +kernel)) rfl
theorem cd_X8_isIn : Cond.code yX8_isIn cX8_isIn 4 (some .boolean) ∈ TB := TB_c3 (List.mem_of_getElem? (i := 210) rfl) rfl
theorem ml_RX8_116 : Cond.methodLink RX8 116 yX8_signOf ∈ TB := TB_c3 (List.mem_of_getElem? (i := 211) (by decide +kernel)) rfl
theorem im_X8_signOf : Cond.instanceMethod yX8_signOf ∈ TB := TB_c3 (List.mem_of_getElem? (i := 213) (by decide +kernel)) rfl
theorem cd_X8_signOf : Cond.code yX8_signOf cX8_signOf 9 (some .int) ∈ TB := TB_c3 (List.mem_of_getElem? (i := 214) rfl) rfl
theorem ml_RL_27 : Cond.methodLink RL 27 yX8_below ∈ TB := TB_c3 (List.mem_of_getElem? (i := 215) (by decide +kernel)) rfl
theorem im_X8_below : Cond.instanceMethod yX8_below ∈ TB := TB_c3 (List.mem_of_getElem? (i := 216) (by decide +kernel)) rfl
theorem se_X8_below : Cond.selects RX8 yX8_below yX8_below ∈ TB := TB_c3 (List.mem_of_getElem? (i := 217) (by decide +kernel)) rfl
theorem cd_X8_below : Cond.code yX8_below cX8_below 6 (some .boolean) ∈ TB := TB_c3 (List.mem_of_getElem? (i := 218) rfl) rfl
theorem ml_RL_32 : Cond.methodLink RL 32 yX8_lay ∈ TB := TB_c3 (List.mem_of_getElem? (i := 219) (by decide +kernel)) rfl
theorem im_X8_lay : Cond.instanceMethod yX8_lay ∈ TB := TB_c3 (List.mem_of_getElem? (i := 220) (by decide +kernel)) rfl
theorem se_X8_lay : Cond.selects RX8 yX8_lay yX8_lay ∈ TB := TB_c3 (List.mem_of_getElem? (i := 221) (by decide +kernel)) rfl
theorem cd_X8_lay : Cond.code yX8_lay cX8_lay 3 (some .int) ∈ TB := TB_c3 (List.mem_of_getElem? (i := 222) rfl) rfl
theorem ml_RL_37 : Cond.methodLink RL 37 yX8_of ∈ TB := TB_c3 (List.mem_of_getElem? (i := 223) (by decide +kernel)) rfl
theorem im_X8_of : Cond.instanceMethod yX8_of ∈ TB := TB_c3 (List.mem_of_getElem? (i := 224) (by decide +kernel)) rfl
theorem se_X8_of : Cond.selects RX8 yX8_of yX8_of ∈ TB := TB_c3 (List.mem_of_getElem? (i := 225) (by decide +kernel)) rfl
theorem cd_X8_of : Cond.code yX8_of cX8_of 2 (some .int) ∈ TB := TB_c3 (List.mem_of_getElem? (i := 226) rfl) rfl
theorem ml_RX8_120 : Cond.methodLink RX8 120 yX8_parted ∈ TB := TB_c3 (List.mem_of_getElem? (i := 227) (by decide +kernel)) rfl
theorem im_X8_parted : Cond.instanceMethod yX8_parted ∈ TB := TB_c3 (List.mem_of_getElem? (i := 229) (by decide +kernel)) rfl
theorem cd_X8_parted : Cond.code yX8_parted cX8_parted 4 (some .int) ∈ TB := TB_c3 (List.mem_of_getElem? (i := 230) rfl) rfl
theorem ml_RL_42 : Cond.methodLink RL 42 yX8_spans ∈ TB := TB_c3 (List.mem_of_getElem? (i := 231) (by decide +kernel)) rfl
theorem im_X8_spans : Cond.instanceMethod yX8_spans ∈ TB := TB_c3 (List.mem_of_getElem? (i := 232) (by decide +kernel)) rfl
theorem se_X8_spans : Cond.selects RX8 yX8_spans yX8_spans ∈ TB := TB_c3 (List.mem_of_getElem? (i := 233) (by decide +kernel)) rfl
theorem cd_X8_spans : Cond.code yX8_spans cX8_spans 3 (some .long) ∈ TB := TB_c3 (List.mem_of_getElem? (i := 234) rfl) rfl
theorem ml_RX8_124 : Cond.methodLink RX8 124 yX8_total ∈ TB := TB_c3 (List.mem_of_getElem? (i := 235) (by decide +kernel)) rfl
theorem im_X8_total : Cond.instanceMethod yX8_total ∈ TB := TB_c3 (List.mem_of_getElem? (i := 237) (by decide +kernel)) rfl
theorem cd_X8_total : Cond.code yX8_total cX8_total 5 (some .long) ∈ TB := TB_c3 (List.mem_of_getElem? (i := 238) rfl) rfl
theorem ml_RL_47 : Cond.methodLink RL 47 yX8_order ∈ TB := TB_c3 (List.mem_of_getElem? (i := 239) (by decide +kernel)) rfl
theorem im_X8_order : Cond.instanceMethod yX8_order ∈ TB := TB_c4 (List.mem_of_getElem? (i := 0) (by decide +kernel)) rfl
theorem se_X8_order : Cond.selects RX8 yX8_order yX8_order ∈ TB := TB_c4 (List.mem_of_getElem? (i := 1) (by decide +kernel)) rfl
theorem cd_X8_order : Cond.code yX8_order cX8_order 3 (some .int) ∈ TB := TB_c4 (List.mem_of_getElem? (i := 2) rfl) rfl
theorem ml_RL_51 : Cond.methodLink RL 51 yX8_point ∈ TB := TB_c4 (List.mem_of_getElem? (i := 3) (by decide +kernel)) rfl
theorem im_X8_point : Cond.instanceMethod yX8_point ∈ TB := TB_c4 (List.mem_of_getElem? (i := 4) (by decide +kernel)) rfl
theorem se_X8_point : Cond.selects RX8 yX8_point yX8_point ∈ TB := TB_c4 (List.mem_of_getElem? (i := 5) (by decide +kernel)) rfl
theorem cd_X8_point : Cond.code yX8_point cX8_point 3 (some .int) ∈ TB := TB_c4 (List.mem_of_getElem? (i := 6) rfl) rfl
theorem ml_RX8_151 : Cond.methodLink RX8 151 yX8_isPoint ∈ TB := TB_c4 (List.mem_of_getElem? (i := 7) (by decide +kernel)) rfl
theorem sm_X8_isPoint : Cond.static yX8_isPoint ∈ TB := TB_c4 (List.mem_of_getElem? (i := 8) (by decide +kernel)) rfl
theorem cd_X8_isPoint : Cond.code yX8_isPoint cX8_isPoint 4 (some .boolean) ∈ TB := TB_c4 (List.mem_of_getElem? (i := 9) rfl) rfl
theorem kc_RX8_149 : Cond.constantLong RX8 149 (536870912) ∈ TB := TB_c4 (List.mem_of_getElem? (i := 10) (by decide +kernel)) rfl
theorem ml_RX8_154 : Cond.methodLink RX8 154 yX8_isOnLine ∈ TB := TB_c4 (List.mem_of_getElem? (i := 11) (by decide +kernel)) rfl
theorem im_X8_isOnLine : Cond.instanceMethod yX8_isOnLine ∈ TB := TB_c4 (List.mem_of_getElem? (i := 13) (by decide +kernel)) rfl
theorem cd_X8_isOnLine : Cond.code yX8_isOnLine cX8_isOnLine 5 (some .boolean) ∈ TB := TB_c4 (List.mem_of_getElem? (i := 14) rfl) rfl
theorem ml_RX8_135 : Cond.methodLink RX8 135 yX8_spanAt ∈ TB := TB_c4 (List.mem_of_getElem? (i := 15) (by decide +kernel)) rfl
theorem im_X8_spanAt : Cond.instanceMethod yX8_spanAt ∈ TB := TB_c4 (List.mem_of_getElem? (i := 17) (by decide +kernel)) rfl
theorem cd_X8_spanAt : Cond.code yX8_spanAt cX8_spanAt 8 (some .int) ∈ TB := TB_c4 (List.mem_of_getElem? (i := 18) rfl) rfl
theorem ml_RL_55 : Cond.methodLink RL 55 yX8_move ∈ TB := TB_c4 (List.mem_of_getElem? (i := 19) (by decide +kernel)) rfl
theorem im_X8_move : Cond.instanceMethod yX8_move ∈ TB := TB_c4 (List.mem_of_getElem? (i := 20) (by decide +kernel)) rfl
theorem se_X8_move : Cond.selects RX8 yX8_move yX8_move ∈ TB := TB_c4 (List.mem_of_getElem? (i := 21) (by decide +kernel)) rfl
theorem cd_X8_move : Cond.code yX8_move cX8_move 7 (some .int) ∈ TB := TB_c4 (List.mem_of_getElem? (i := 22) rfl) rfl
theorem ml_RX8_163 : Cond.methodLink RX8 163 yX8_goes ∈ TB := TB_c4 (List.mem_of_getElem? (i := 23) (by decide +kernel)) rfl
theorem im_X8_goes : Cond.instanceMethod yX8_goes ∈ TB := TB_c4 (List.mem_of_getElem? (i := 25) (by decide +kernel)) rfl
theorem cd_X8_goes : Cond.code yX8_goes cX8_goes 7 (none) ∈ TB := TB_c4 (List.mem_of_getElem? (i := 26) rfl) rfl
theorem ml_RX8_145 : Cond.methodLink RX8 145 yX8_begins ∈ TB := TB_c4 (List.mem_of_getElem? (i := 27) (by decide +kernel)) rfl
theorem im_X8_begins : Cond.instanceMethod yX8_begins ∈ TB := TB_c4 (List.mem_of_getElem? (i := 29) (by decide +kernel)) rfl
theorem cd_X8_begins : Cond.code yX8_begins cX8_begins 4 (none) ∈ TB := TB_c4 (List.mem_of_getElem? (i := 30) rfl) rfl
theorem ml_RL_60 : Cond.methodLink RL 60 yX8_where ∈ TB := TB_c4 (List.mem_of_getElem? (i := 31) (by decide +kernel)) rfl
theorem im_X8_where : Cond.instanceMethod yX8_where ∈ TB := TB_c4 (List.mem_of_getElem? (i := 32) (by decide +kernel)) rfl
theorem se_X8_where : Cond.selects RX8 yX8_where yX8_where ∈ TB := TB_c4 (List.mem_of_getElem? (i := 33) (by decide +kernel)) rfl
theorem cd_X8_where : Cond.code yX8_where cX8_where 2 (some .long) ∈ TB := TB_c4 (List.mem_of_getElem? (i := 34) rfl) rfl
theorem kc_RX8_167 : Cond.constantLong RX8 167 (-9000000000000000000) ∈ TB := TB_c4 (List.mem_of_getElem? (i := 35) (by decide +kernel)) rfl
theorem ml_RL_64 : Cond.methodLink RL 64 yX8_back ∈ TB := TB_c4 (List.mem_of_getElem? (i := 36) (by decide +kernel)) rfl
theorem im_X8_back : Cond.instanceMethod yX8_back ∈ TB := TB_c4 (List.mem_of_getElem? (i := 37) (by decide +kernel)) rfl
theorem se_X8_back : Cond.selects RX8 yX8_back yX8_back ∈ TB := TB_c4 (List.mem_of_getElem? (i := 38) (by decide +kernel)) rfl
theorem cd_X8_back : Cond.code yX8_back cX8_back 8 (some .int) ∈ TB := TB_c4 (List.mem_of_getElem? (i := 39) rfl) rfl
theorem ml_RL_68 : Cond.methodLink RL 68 yX8_visits ∈ TB := TB_c4 (List.mem_of_getElem? (i := 40) (by decide +kernel)) rfl
theorem im_X8_visits : Cond.instanceMethod yX8_visits ∈ TB := TB_c4 (List.mem_of_getElem? (i := 41) (by decide +kernel)) rfl
theorem se_X8_visits : Cond.selects RX8 yX8_visits yX8_visits ∈ TB := TB_c4 (List.mem_of_getElem? (i := 42) (by decide +kernel)) rfl
theorem cd_X8_visits : Cond.code yX8_visits cX8_visits 9 (some .int) ∈ TB := TB_c4 (List.mem_of_getElem? (i := 43) rfl) rfl
theorem ml_RL_72 : Cond.methodLink RL 72 yX8_step ∈ TB := TB_c4 (List.mem_of_getElem? (i := 44) (by decide +kernel)) rfl
theorem im_X8_step : Cond.instanceMethod yX8_step ∈ TB := TB_c4 (List.mem_of_getElem? (i := 45) (by decide +kernel)) rfl
theorem se_X8_step : Cond.selects RX8 yX8_step yX8_step ∈ TB := TB_c4 (List.mem_of_getElem? (i := 46) (by decide +kernel)) rfl
theorem cd_X8_step : Cond.code yX8_step cX8_step 11 (some .int) ∈ TB := TB_c4 (List.mem_of_getElem? (i := 47) rfl) rfl
theorem kc_RX8_169 : Cond.constantLong RX8 169 (1099511627776) ∈ TB := TB_c4 (List.mem_of_getElem? (i := 48) (by decide +kernel)) rfl
theorem ml_RX8_171 : Cond.methodLink RX8 171 yX8_brings ∈ TB := TB_c4 (List.mem_of_getElem? (i := 49) (by decide +kernel)) rfl
theorem im_X8_brings : Cond.instanceMethod yX8_brings ∈ TB := TB_c4 (List.mem_of_getElem? (i := 51) (by decide +kernel)) rfl
theorem cd_X8_brings : Cond.code yX8_brings cX8_brings 6 (none) ∈ TB := TB_c4 (List.mem_of_getElem? (i := 52) rfl) rfl
theorem ml_RL_76 : Cond.methodLink RL 76 yX8_steps ∈ TB := TB_c4 (List.mem_of_getElem? (i := 53) (by decide +kernel)) rfl
theorem im_X8_steps : Cond.instanceMethod yX8_steps ∈ TB := TB_c4 (List.mem_of_getElem? (i := 54) (by decide +kernel)) rfl
theorem se_X8_steps : Cond.selects RX8 yX8_steps yX8_steps ∈ TB := TB_c4 (List.mem_of_getElem? (i := 55) (by decide +kernel)) rfl
theorem cd_X8_steps : Cond.code yX8_steps cX8_steps 3 (some .int) ∈ TB := TB_c4 (List.mem_of_getElem? (i := 56) rfl) rfl
theorem ml_RX8_175 : Cond.methodLink RX8 175 yX8_step ∈ TB := TB_c4 (List.mem_of_getElem? (i := 57) (by decide +kernel)) rfl
theorem ml_RL_80 : Cond.methodLink RL 80 yX8_table ∈ TB := TB_c4 (List.mem_of_getElem? (i := 58) (by decide +kernel)) rfl
theorem im_X8_table : Cond.instanceMethod yX8_table ∈ TB := TB_c4 (List.mem_of_getElem? (i := 59) (by decide +kernel)) rfl
theorem se_X8_table : Cond.selects RX8 yX8_table yX8_table ∈ TB := TB_c4 (List.mem_of_getElem? (i := 60) (by decide +kernel)) rfl
theorem cd_X8_table : Cond.code yX8_table cX8_table 3 (some .long) ∈ TB := TB_c4 (List.mem_of_getElem? (i := 61) rfl) rfl
theorem kc_RX8_178 : Cond.constantLong RX8 178 (-1) ∈ TB := TB_c4 (List.mem_of_getElem? (i := 62) (by decide +kernel)) rfl
theorem ml_RL_84 : Cond.methodLink RL 84 yX8_loop ∈ TB := TB_c4 (List.mem_of_getElem? (i := 63) (by decide +kernel)) rfl
theorem im_X8_loop : Cond.instanceMethod yX8_loop ∈ TB := TB_c4 (List.mem_of_getElem? (i := 64) (by decide +kernel)) rfl
theorem se_X8_loop : Cond.selects RX8 yX8_loop yX8_loop ∈ TB := TB_c4 (List.mem_of_getElem? (i := 65) (by decide +kernel)) rfl
theorem cd_X8_loop : Cond.code yX8_loop cX8_loop 7 (some .int) ∈ TB := TB_c4 (List.mem_of_getElem? (i := 66) rfl) rfl
theorem ml_RX8_184 : Cond.methodLink RX8 184 yX8_isLoop ∈ TB := TB_c4 (List.mem_of_getElem? (i := 67) (by decide +kernel)) rfl
theorem im_X8_isLoop : Cond.instanceMethod yX8_isLoop ∈ TB := TB_c4 (List.mem_of_getElem? (i := 69) (by decide +kernel)) rfl
theorem cd_X8_isLoop : Cond.code yX8_isLoop cX8_isLoop 2 (some .boolean) ∈ TB := TB_c4 (List.mem_of_getElem? (i := 70) rfl) rfl
theorem ml_RX8_180 : Cond.methodLink RX8 180 yX8_isShare ∈ TB := TB_c4 (List.mem_of_getElem? (i := 71) (by decide +kernel)) rfl
theorem im_X8_isShare : Cond.instanceMethod yX8_isShare ∈ TB := TB_c4 (List.mem_of_getElem? (i := 73) (by decide +kernel)) rfl
theorem cd_X8_isShare : Cond.code yX8_isShare cX8_isShare 10 (some .boolean) ∈ TB := TB_c4 (List.mem_of_getElem? (i := 74) rfl) rfl
theorem ml_RL_88 : Cond.methodLink RL 88 yX8_rounds ∈ TB := TB_c4 (List.mem_of_getElem? (i := 75) (by decide +kernel)) rfl
theorem im_X8_rounds : Cond.instanceMethod yX8_rounds ∈ TB := TB_c4 (List.mem_of_getElem? (i := 76) (by decide +kernel)) rfl
theorem se_X8_rounds : Cond.selects RX8 yX8_rounds yX8_rounds ∈ TB := TB_c4 (List.mem_of_getElem? (i := 77) (by decide +kernel)) rfl
theorem cd_X8_rounds : Cond.code yX8_rounds cX8_rounds 8 (some .int) ∈ TB := TB_c4 (List.mem_of_getElem? (i := 78) rfl) rfl
theorem kc_RX8_188 : Cond.constantLong RX8 188 (2000) ∈ TB := TB_c4 (List.mem_of_getElem? (i := 79) (by decide +kernel)) rfl
theorem ml_RX8_190 : Cond.methodLink RX8 190 yX8_pieces ∈ TB := TB_c4 (List.mem_of_getElem? (i := 80) (by decide +kernel)) rfl
theorem im_X8_pieces : Cond.instanceMethod yX8_pieces ∈ TB := TB_c4 (List.mem_of_getElem? (i := 82) (by decide +kernel)) rfl
theorem cd_X8_pieces : Cond.code yX8_pieces cX8_pieces 3 (some .int) ∈ TB := TB_c4 (List.mem_of_getElem? (i := 83) rfl) rfl
theorem ml_RX8_196 : Cond.methodLink RX8 196 yX8_isJoined ∈ TB := TB_c4 (List.mem_of_getElem? (i := 84) (by decide +kernel)) rfl
theorem im_X8_isJoined : Cond.instanceMethod yX8_isJoined ∈ TB := TB_c4 (List.mem_of_getElem? (i := 86) (by decide +kernel)) rfl
theorem cd_X8_isJoined : Cond.code yX8_isJoined cX8_isJoined 5 (some .boolean) ∈ TB := TB_c4 (List.mem_of_getElem? (i := 87) rfl) rfl
theorem ml_RL_92 : Cond.methodLink RL 92 yX8_round ∈ TB := TB_c4 (List.mem_of_getElem? (i := 88) (by decide +kernel)) rfl
theorem im_X8_round : Cond.instanceMethod yX8_round ∈ TB := TB_c4 (List.mem_of_getElem? (i := 89) (by decide +kernel)) rfl
theorem se_X8_round : Cond.selects RX8 yX8_round yX8_round ∈ TB := TB_c4 (List.mem_of_getElem? (i := 90) (by decide +kernel)) rfl
theorem cd_X8_round : Cond.code yX8_round cX8_round 3 (some .int) ∈ TB := TB_c4 (List.mem_of_getElem? (i := 91) rfl) rfl
theorem ml_RL_96 : Cond.methodLink RL 96 yX8_words ∈ TB := TB_c4 (List.mem_of_getElem? (i := 92) (by decide +kernel)) rfl
theorem im_X8_words : Cond.instanceMethod yX8_words ∈ TB := TB_c4 (List.mem_of_getElem? (i := 93) (by decide +kernel)) rfl
theorem se_X8_words : Cond.selects RX8 yX8_words yX8_words ∈ TB := TB_c4 (List.mem_of_getElem? (i := 94) (by decide +kernel)) rfl
theorem cd_X8_words : Cond.code yX8_words cX8_words 15 (some .int) ∈ TB := TB_c4 (List.mem_of_getElem? (i := 95) rfl) rfl
theorem ml_RL_100 : Cond.methodLink RL 100 yX8_classes ∈ TB := TB_c4 (List.mem_of_getElem? (i := 96) (by decide +kernel)) rfl
theorem im_X8_classes : Cond.instanceMethod yX8_classes ∈ TB := TB_c4 (List.mem_of_getElem? (i := 97) (by decide +kernel)) rfl
theorem se_X8_classes : Cond.selects RX8 yX8_classes yX8_classes ∈ TB := TB_c4 (List.mem_of_getElem? (i := 98) (by decide +kernel)) rfl
theorem cd_X8_classes : Cond.code yX8_classes cX8_classes 5 (some .int) ∈ TB := TB_c4 (List.mem_of_getElem? (i := 99) rfl) rfl
theorem ml_RX8_203 : Cond.methodLink RX8 203 yX8_numbered ∈ TB := TB_c4 (List.mem_of_getElem? (i := 100) (by decide +kernel)) rfl
theorem im_X8_numbered : Cond.instanceMethod yX8_numbered ∈ TB := TB_c4 (List.mem_of_getElem? (i := 102) (by decide +kernel)) rfl
theorem cd_X8_numbered : Cond.code yX8_numbered cX8_numbered 4 (some .int) ∈ TB := TB_c4 (List.mem_of_getElem? (i := 103) rfl) rfl
theorem ml_RX8_206 : Cond.methodLink RX8 206 yX8_notes ∈ TB := TB_c4 (List.mem_of_getElem? (i := 104) (by decide +kernel)) rfl
theorem im_X8_notes : Cond.instanceMethod yX8_notes ∈ TB := TB_c4 (List.mem_of_getElem? (i := 106) (by decide +kernel)) rfl
theorem cd_X8_notes : Cond.code yX8_notes cX8_notes 3 (none) ∈ TB := TB_c4 (List.mem_of_getElem? (i := 107) rfl) rfl
theorem ml_RX8_209 : Cond.methodLink RX8 209 yX8_takes ∈ TB := TB_c4 (List.mem_of_getElem? (i := 108) (by decide +kernel)) rfl
theorem im_X8_takes : Cond.instanceMethod yX8_takes ∈ TB := TB_c4 (List.mem_of_getElem? (i := 110) (by decide +kernel)) rfl
theorem cd_X8_takes : Cond.code yX8_takes cX8_takes 3 (none) ∈ TB := TB_c4 (List.mem_of_getElem? (i := 111) rfl) rfl
theorem ml_RL_104 : Cond.methodLink RL 104 yX8_ground ∈ TB := TB_c4 (List.mem_of_getElem? (i := 112) (by decide +kernel)) rfl
theorem im_X8_ground : Cond.instanceMethod yX8_ground ∈ TB := TB_c4 (List.mem_of_getElem? (i := 113) (by decide +kernel)) rfl
theorem se_X8_ground : Cond.selects RX8 yX8_ground yX8_ground ∈ TB := TB_c4 (List.mem_of_getElem? (i := 114) (by decide +kernel)) rfl
theorem cd_X8_ground : Cond.code yX8_ground cX8_ground 9 (some .int) ∈ TB := TB_c4 (List.mem_of_getElem? (i := 115) rfl) rfl
theorem ml_RX8_212 : Cond.methodLink RX8 212 yX8_placeOf ∈ TB := TB_c4 (List.mem_of_getElem? (i := 116) (by decide +kernel)) rfl
theorem im_X8_placeOf : Cond.instanceMethod yX8_placeOf ∈ TB := TB_c4 (List.mem_of_getElem? (i := 118) (by decide +kernel)) rfl
theorem cd_X8_placeOf : Cond.code yX8_placeOf cX8_placeOf 4 (some .int) ∈ TB := TB_c4 (List.mem_of_getElem? (i := 119) rfl) rfl
theorem ml_RX8_216 : Cond.methodLink RX8 216 yX8_cornerOf ∈ TB := TB_c4 (List.mem_of_getElem? (i := 120) (by decide +kernel)) rfl
theorem im_X8_cornerOf : Cond.instanceMethod yX8_cornerOf ∈ TB := TB_c4 (List.mem_of_getElem? (i := 122) (by decide +kernel)) rfl
theorem cd_X8_cornerOf : Cond.code yX8_cornerOf cX8_cornerOf 3 (some .int) ∈ TB := TB_c4 (List.mem_of_getElem? (i := 123) rfl) rfl
theorem ml_RX8_220 : Cond.methodLink RX8 220 yX8_glues ∈ TB := TB_c4 (List.mem_of_getElem? (i := 124) (by decide +kernel)) rfl
theorem im_X8_glues : Cond.instanceMethod yX8_glues ∈ TB := TB_c4 (List.mem_of_getElem? (i := 126) (by decide +kernel)) rfl
theorem cd_X8_glues : Cond.code yX8_glues cX8_glues 6 (none) ∈ TB := TB_c4 (List.mem_of_getElem? (i := 127) rfl) rfl
theorem se_X7_canBe : Cond.selects RX7 yX7_canBe yX7_canBe ∈ TB := TB_p (List.mem_of_getElem? (i := 0) (by decide +kernel)) rfl
theorem se_X7_drawWays : Cond.selects RX7 yX7_drawWays yX7_drawWays ∈ TB := TB_p (List.mem_of_getElem? (i := 1) (by decide +kernel)) rfl
theorem se_X6_isLeftOf : Cond.selects RX6 yX6_isLeftOf yX6_isLeftOf ∈ TB := TB_p (List.mem_of_getElem? (i := 2) (by decide +kernel)) rfl
theorem se_X3_isSpentBy : Cond.selects RX3 yX3_isSpentBy yX3_isSpentBy ∈ TB := TB_p (List.mem_of_getElem? (i := 3) (by decide +kernel)) rfl
theorem se_X3_shorten : Cond.selects RX3 yX3_shorten yX3_shorten ∈ TB := TB_p (List.mem_of_getElem? (i := 4) (by decide +kernel)) rfl
theorem se_X3_bringLastBehind : Cond.selects RX3 yX3_bringLastBehind yX3_bringLastBehind ∈ TB := TB_p (List.mem_of_getElem? (i := 5) (by decide +kernel)) rfl
theorem se_X7_followMover : Cond.selects RX7 yX7_followMover yX7_followMover ∈ TB := TB_p (List.mem_of_getElem? (i := 6) (by decide +kernel)) rfl
theorem se_X3_productA : Cond.selects RX3 yX3_productA yX3_productA ∈ TB := TB_p (List.mem_of_getElem? (i := 7) (by decide +kernel)) rfl
theorem se_X3_productB : Cond.selects RX3 yX3_productB yX3_productB ∈ TB := TB_p (List.mem_of_getElem? (i := 8) (by decide +kernel)) rfl
theorem se_X1_drawPieces : Cond.selects RX1 yX1_drawPieces yX1_drawPieces ∈ TB := TB_p (List.mem_of_getElem? (i := 9) (by decide +kernel)) rfl
theorem se_X1_measure : Cond.selects RX1 yX1_measure yX1_measure ∈ TB := TB_p (List.mem_of_getElem? (i := 10) (by decide +kernel)) rfl
theorem se_X1_takeOut : Cond.selects RX1 yX1_takeOut yX1_takeOut ∈ TB := TB_p (List.mem_of_getElem? (i := 11) (by decide +kernel)) rfl
theorem se_X7_beginningsBehind : Cond.selects RX7 yX7_beginningsBehind yX7_beginningsBehind ∈ TB := TB_p (List.mem_of_getElem? (i := 12) (by decide +kernel)) rfl
theorem se_X2_nameByPlaceAbove : Cond.selects RX2 yX2_nameByPlaceAbove yX2_nameByPlaceAbove ∈ TB := TB_p (List.mem_of_getElem? (i := 13) (by decide +kernel)) rfl
theorem se_X2_takeNext : Cond.selects RX2 yX2_takeNext yX2_takeNext ∈ TB := TB_p (List.mem_of_getElem? (i := 14) (by decide +kernel)) rfl
theorem se_X2_rankOfNext : Cond.selects RX2 yX2_rankOfNext yX2_rankOfNext ∈ TB := TB_p (List.mem_of_getElem? (i := 15) (by decide +kernel)) rfl
theorem se_X2_packNext : Cond.selects RX2 yX2_packNext yX2_packNext ∈ TB := TB_p (List.mem_of_getElem? (i := 16) (by decide +kernel)) rfl
theorem se_X2_unpack : Cond.selects RX2 yX2_unpack yX2_unpack ∈ TB := TB_p (List.mem_of_getElem? (i := 17) (by decide +kernel)) rfl
theorem se_X2_letUWin : Cond.selects RX2 yX2_letUWin yX2_letUWin ∈ TB := TB_p (List.mem_of_getElem? (i := 18) (by decide +kernel)) rfl
theorem se_X2_letVWin : Cond.selects RX2 yX2_letVWin yX2_letVWin ∈ TB := TB_p (List.mem_of_getElem? (i := 19) (by decide +kernel)) rfl
theorem se_X0_cornerBelow : Cond.selects RX0 yX0_cornerBelow yX0_cornerBelow ∈ TB := TB_p (List.mem_of_getElem? (i := 20) (by decide +kernel)) rfl
theorem se_X0_join : Cond.selects RX0 yX0_join yX0_join ∈ TB := TB_p (List.mem_of_getElem? (i := 21) (by decide +kernel)) rfl
theorem se_X0_turnsAt : Cond.selects RX0 yX0_turnsAt yX0_turnsAt ∈ TB := TB_p (List.mem_of_getElem? (i := 22) (by decide +kernel)) rfl
theorem se_X8_forgets : Cond.selects RX8 yX8_forgets yX8_forgets ∈ TB := TB_p (List.mem_of_getElem? (i := 23) (by decide +kernel)) rfl
theorem se_X8_signOf : Cond.selects RX8 yX8_signOf yX8_signOf ∈ TB := TB_p (List.mem_of_getElem? (i := 24) (by decide +kernel)) rfl
theorem se_X8_parted : Cond.selects RX8 yX8_parted yX8_parted ∈ TB := TB_p (List.mem_of_getElem? (i := 25) (by decide +kernel)) rfl
theorem se_X8_total : Cond.selects RX8 yX8_total yX8_total ∈ TB := TB_p (List.mem_of_getElem? (i := 26) (by decide +kernel)) rfl
theorem se_X8_isOnLine : Cond.selects RX8 yX8_isOnLine yX8_isOnLine ∈ TB := TB_p (List.mem_of_getElem? (i := 27) (by decide +kernel)) rfl
theorem se_X8_spanAt : Cond.selects RX8 yX8_spanAt yX8_spanAt ∈ TB := TB_p (List.mem_of_getElem? (i := 28) (by decide +kernel)) rfl
theorem se_X8_goes : Cond.selects RX8 yX8_goes yX8_goes ∈ TB := TB_p (List.mem_of_getElem? (i := 29) (by decide +kernel)) rfl
theorem se_X8_begins : Cond.selects RX8 yX8_begins yX8_begins ∈ TB := TB_p (List.mem_of_getElem? (i := 30) (by decide +kernel)) rfl
theorem se_X8_brings : Cond.selects RX8 yX8_brings yX8_brings ∈ TB := TB_p (List.mem_of_getElem? (i := 31) (by decide +kernel)) rfl
theorem se_X8_isLoop : Cond.selects RX8 yX8_isLoop yX8_isLoop ∈ TB := TB_p (List.mem_of_getElem? (i := 32) (by decide +kernel)) rfl
theorem se_X8_isShare : Cond.selects RX8 yX8_isShare yX8_isShare ∈ TB := TB_p (List.mem_of_getElem? (i := 33) (by decide +kernel)) rfl
theorem se_X8_pieces : Cond.selects RX8 yX8_pieces yX8_pieces ∈ TB := TB_p (List.mem_of_getElem? (i := 34) (by decide +kernel)) rfl
theorem se_X8_isJoined : Cond.selects RX8 yX8_isJoined yX8_isJoined ∈ TB := TB_p (List.mem_of_getElem? (i := 35) (by decide +kernel)) rfl
theorem se_X8_numbered : Cond.selects RX8 yX8_numbered yX8_numbered ∈ TB := TB_p (List.mem_of_getElem? (i := 36) (by decide +kernel)) rfl
theorem se_X8_notes : Cond.selects RX8 yX8_notes yX8_notes ∈ TB := TB_p (List.mem_of_getElem? (i := 37) (by decide +kernel)) rfl
theorem se_X8_takes : Cond.selects RX8 yX8_takes yX8_takes ∈ TB := TB_p (List.mem_of_getElem? (i := 38) (by decide +kernel)) rfl
theorem se_X8_placeOf : Cond.selects RX8 yX8_placeOf yX8_placeOf ∈ TB := TB_p (List.mem_of_getElem? (i := 39) (by decide +kernel)) rfl
theorem se_X8_cornerOf : Cond.selects RX8 yX8_cornerOf yX8_cornerOf ∈ TB := TB_p (List.mem_of_getElem? (i := 40) (by decide +kernel)) rfl
theorem se_X8_glues : Cond.selects RX8 yX8_glues yX8_glues ∈ TB := TB_p (List.mem_of_getElem? (i := 41) (by decide +kernel)) rfl
theorem lay_X0 : ∀ w ∈ u_ws RX0 TX0 2, w ∈ TB := by decide +kernel
theorem lay_X1 : ∀ w ∈ u_ws RX1 TX1 6, w ∈ TB := by decide +kernel
theorem lay_X2 : ∀ w ∈ u_ws RX2 TX2 6, w ∈ TB := by decide +kernel
theorem lay_X3 : ∀ w ∈ u_ws RX3 TX3 9, w ∈ TB := by decide +kernel
theorem lay_X4 : ∀ w ∈ u_ws RX4 TX4 4, w ∈ TB := by decide +kernel
theorem lay_X5 : ∀ w ∈ u_ws RX5 TX5 3, w ∈ TB := by decide +kernel
theorem lay_X6 : ∀ w ∈ u_ws RX6 TX6 7, w ∈ TB := by decide +kernel
theorem lay_X7 : ∀ w ∈ u_ws RX7 TX7 11, w ∈ TB := by decide +kernel
theorem lay_X8 : ∀ w ∈ u_ws RX8 TX8 39, w ∈ TB := by decide +kernel
end
section
theorem dX0_init_0 : decode cX0_init 0 = .ok (.aload_n 0, 1) := by decide +kernel
theorem dX0_init_1 : decode cX0_init 1 = .ok (.invokespecial 3, 3) := by decide +kernel
theorem dX0_init_4 : decode cX0_init 4 = .ok (.aload_n 0, 1) := by decide +kernel
theorem dX0_init_5 : decode cX0_init 5 = .ok (.bipush 16, 2) := by decide +kernel
theorem dX0_init_7 : decode cX0_init 7 = .ok (.newarray .int, 2) := by decide +kernel
theorem dX0_init_9 : decode cX0_init 9 = .ok (.putfield 9, 3) := by decide +kernel
theorem dX0_init_12 : decode cX0_init 12 = .ok (.return_, 1) := by decide +kernel
theorem dX0_glue_0 : decode cX0_glue 0 = .ok (.aload_n 0, 1) := by decide +kernel
theorem dX0_glue_1 : decode cX0_glue 1 = .ok (.aload_n 1, 1) := by decide +kernel
theorem dX0_glue_2 : decode cX0_glue 2 = .ok (.getfield 15, 3) := by decide +kernel
theorem dX0_glue_5 : decode cX0_glue 5 = .ok (.putfield 21, 3) := by decide +kernel
theorem dX0_glue_8 : decode cX0_glue 8 = .ok (.iconst 0, 1) := by decide +kernel
theorem dX0_glue_9 : decode cX0_glue 9 = .ok (.istore_n 2, 1) := by decide +kernel
theorem dX0_glue_10 : decode cX0_glue 10 = .ok (.iload_n 2, 1) := by decide +kernel
theorem dX0_glue_11 : decode cX0_glue 11 = .ok (.iconst 2, 1) := by decide +kernel
theorem dX0_glue_12 : decode cX0_glue 12 = .ok (.aload_n 0, 1) := by decide +kernel
theorem dX0_glue_13 : decode cX0_glue 13 = .ok (.getfield 21, 3) := by decide +kernel
theorem dX0_glue_16 : decode cX0_glue 16 = .ok (.imul, 1) := by decide +kernel
theorem dX0_glue_17 : decode cX0_glue 17 = .ok (.if_icmp .ge 16, 3) := by decide +kernel
theorem dX0_glue_20 : decode cX0_glue 20 = .ok (.aload_n 0, 1) := by decide +kernel
theorem dX0_glue_21 : decode cX0_glue 21 = .ok (.getfield 9, 3) := by decide +kernel
theorem dX0_glue_24 : decode cX0_glue 24 = .ok (.iload_n 2, 1) := by decide +kernel
theorem dX0_glue_25 : decode cX0_glue 25 = .ok (.iload_n 2, 1) := by decide +kernel
theorem dX0_glue_26 : decode cX0_glue 26 = .ok (.iastore, 1) := by decide +kernel
theorem dX0_glue_27 : decode cX0_glue 27 = .ok (.iinc 2 1, 3) := by decide +kernel
theorem dX0_glue_30 : decode cX0_glue 30 = .ok (.goto (-20), 3) := by decide +kernel
theorem dX0_glue_33 : decode cX0_glue 33 = .ok (.iconst 0, 1) := by decide +kernel
theorem dX0_glue_34 : decode cX0_glue 34 = .ok (.istore_n 2, 1) := by decide +kernel
theorem dX0_glue_35 : decode cX0_glue 35 = .ok (.iload_n 2, 1) := by decide +kernel
theorem dX0_glue_36 : decode cX0_glue 36 = .ok (.aload_n 0, 1) := by decide +kernel
theorem dX0_glue_37 : decode cX0_glue 37 = .ok (.getfield 21, 3) := by decide +kernel
theorem dX0_glue_40 : decode cX0_glue 40 = .ok (.if_icmp .ge 64, 3) := by decide +kernel
theorem dX0_glue_43 : decode cX0_glue 43 = .ok (.iconst 0, 1) := by decide +kernel
theorem dX0_glue_44 : decode cX0_glue 44 = .ok (.istore_n 3, 1) := by decide +kernel
theorem dX0_glue_45 : decode cX0_glue 45 = .ok (.iload_n 3, 1) := by decide +kernel
theorem dX0_glue_46 : decode cX0_glue 46 = .ok (.aload_n 0, 1) := by decide +kernel
theorem dX0_glue_47 : decode cX0_glue 47 = .ok (.getfield 21, 3) := by decide +kernel
theorem dX0_glue_50 : decode cX0_glue 50 = .ok (.if_icmp .ge 48, 3) := by decide +kernel
theorem dX0_glue_53 : decode cX0_glue 53 = .ok (.aload_n 1, 1) := by decide +kernel
theorem dX0_glue_54 : decode cX0_glue 54 = .ok (.getfield 22, 3) := by decide +kernel
theorem dX0_glue_57 : decode cX0_glue 57 = .ok (.iload_n 2, 1) := by decide +kernel
theorem dX0_glue_58 : decode cX0_glue 58 = .ok (.iaload, 1) := by decide +kernel
theorem dX0_glue_59 : decode cX0_glue 59 = .ok (.aload_n 1, 1) := by decide +kernel
theorem dX0_glue_60 : decode cX0_glue 60 = .ok (.getfield 25, 3) := by decide +kernel
theorem dX0_glue_63 : decode cX0_glue 63 = .ok (.iload_n 3, 1) := by decide +kernel
theorem dX0_glue_64 : decode cX0_glue 64 = .ok (.iaload, 1) := by decide +kernel
theorem dX0_glue_65 : decode cX0_glue 65 = .ok (.if_icmp .ne 27, 3) := by decide +kernel
theorem dX0_glue_68 : decode cX0_glue 68 = .ok (.aload_n 0, 1) := by decide +kernel
theorem dX0_glue_69 : decode cX0_glue 69 = .ok (.iload_n 2, 1) := by decide +kernel
theorem dX0_glue_70 : decode cX0_glue 70 = .ok (.aload_n 0, 1) := by decide +kernel
theorem dX0_glue_71 : decode cX0_glue 71 = .ok (.iload_n 3, 1) := by decide +kernel
theorem dX0_glue_72 : decode cX0_glue 72 = .ok (.invokevirtual 28, 3) := by decide +kernel
theorem dX0_glue_75 : decode cX0_glue 75 = .ok (.invokevirtual 32, 3) := by decide +kernel
theorem dX0_glue_78 : decode cX0_glue 78 = .ok (.aload_n 0, 1) := by decide +kernel
theorem dX0_glue_79 : decode cX0_glue 79 = .ok (.iload_n 2, 1) := by decide +kernel
theorem dX0_glue_80 : decode cX0_glue 80 = .ok (.iconst 1, 1) := by decide +kernel
theorem dX0_glue_81 : decode cX0_glue 81 = .ok (.iadd, 1) := by decide +kernel
theorem dX0_glue_82 : decode cX0_glue 82 = .ok (.aload_n 0, 1) := by decide +kernel
theorem dX0_glue_83 : decode cX0_glue 83 = .ok (.iload_n 3, 1) := by decide +kernel
theorem dX0_glue_84 : decode cX0_glue 84 = .ok (.iconst 1, 1) := by decide +kernel
theorem dX0_glue_85 : decode cX0_glue 85 = .ok (.iadd, 1) := by decide +kernel
theorem dX0_glue_86 : decode cX0_glue 86 = .ok (.invokevirtual 28, 3) := by decide +kernel
theorem dX0_glue_89 : decode cX0_glue 89 = .ok (.invokevirtual 32, 3) := by decide +kernel
theorem dX0_glue_92 : decode cX0_glue 92 = .ok (.iinc 3 1, 3) := by decide +kernel
theorem dX0_glue_95 : decode cX0_glue 95 = .ok (.goto (-50), 3) := by decide +kernel
theorem dX0_glue_98 : decode cX0_glue 98 = .ok (.iinc 2 1, 3) := by decide +kernel
theorem dX0_glue_101 : decode cX0_glue 101 = .ok (.goto (-66), 3) := by decide +kernel
theorem dX0_glue_104 : decode cX0_glue 104 = .ok (.return_, 1) := by decide +kernel
theorem dX0_points_0 : decode cX0_points 0 = .ok (.iconst 0, 1) := by decide +kernel
theorem dX0_points_1 : decode cX0_points 1 = .ok (.istore_n 1, 1) := by decide +kernel
theorem dX0_points_2 : decode cX0_points 2 = .ok (.iconst 0, 1) := by decide +kernel
theorem dX0_points_3 : decode cX0_points 3 = .ok (.istore_n 2, 1) := by decide +kernel
theorem dX0_points_4 : decode cX0_points 4 = .ok (.iload_n 2, 1) := by decide +kernel
theorem dX0_points_5 : decode cX0_points 5 = .ok (.iconst 2, 1) := by decide +kernel
theorem dX0_points_6 : decode cX0_points 6 = .ok (.aload_n 0, 1) := by decide +kernel
theorem dX0_points_7 : decode cX0_points 7 = .ok (.getfield 21, 3) := by decide +kernel
theorem dX0_points_10 : decode cX0_points 10 = .ok (.imul, 1) := by decide +kernel
theorem dX0_points_11 : decode cX0_points 11 = .ok (.if_icmp .ge 22, 3) := by decide +kernel
theorem dX0_points_14 : decode cX0_points 14 = .ok (.aload_n 0, 1) := by decide +kernel
theorem dX0_points_15 : decode cX0_points 15 = .ok (.getfield 9, 3) := by decide +kernel
theorem dX0_points_18 : decode cX0_points 18 = .ok (.iload_n 2, 1) := by decide +kernel
theorem dX0_points_19 : decode cX0_points 19 = .ok (.iaload, 1) := by decide +kernel
theorem dX0_points_20 : decode cX0_points 20 = .ok (.iload_n 2, 1) := by decide +kernel
theorem dX0_points_21 : decode cX0_points 21 = .ok (.if_icmp .ne 6, 3) := by decide +kernel
theorem dX0_points_24 : decode cX0_points 24 = .ok (.iinc 1 1, 3) := by decide +kernel
theorem dX0_points_27 : decode cX0_points 27 = .ok (.iinc 2 1, 3) := by decide +kernel
theorem dX0_points_30 : decode cX0_points 30 = .ok (.goto (-26), 3) := by decide +kernel
theorem dX0_points_33 : decode cX0_points 33 = .ok (.iload_n 1, 1) := by decide +kernel
theorem dX0_points_34 : decode cX0_points 34 = .ok (.ireturn, 1) := by decide +kernel
theorem dX0_mostTurns_0 : decode cX0_mostTurns 0 = .ok (.iconst 0, 1) := by decide +kernel
theorem dX0_mostTurns_1 : decode cX0_mostTurns 1 = .ok (.istore_n 1, 1) := by decide +kernel
theorem dX0_mostTurns_2 : decode cX0_mostTurns 2 = .ok (.iconst 0, 1) := by decide +kernel
theorem dX0_mostTurns_3 : decode cX0_mostTurns 3 = .ok (.istore_n 2, 1) := by decide +kernel
theorem dX0_mostTurns_4 : decode cX0_mostTurns 4 = .ok (.iload_n 2, 1) := by decide +kernel
theorem dX0_mostTurns_5 : decode cX0_mostTurns 5 = .ok (.iconst 2, 1) := by decide +kernel
theorem dX0_mostTurns_6 : decode cX0_mostTurns 6 = .ok (.aload_n 0, 1) := by decide +kernel
theorem dX0_mostTurns_7 : decode cX0_mostTurns 7 = .ok (.getfield 21, 3) := by decide +kernel
theorem dX0_mostTurns_10 : decode cX0_mostTurns 10 = .ok (.imul, 1) := by decide +kernel
theorem dX0_mostTurns_11 : decode cX0_mostTurns 11 = .ok (.if_icmp .ge 19, 3) := by decide +kernel
theorem dX0_mostTurns_14 : decode cX0_mostTurns 14 = .ok (.iload_n 1, 1) := by decide +kernel
theorem dX0_mostTurns_15 : decode cX0_mostTurns 15 = .ok (.aload_n 0, 1) := by decide +kernel
theorem dX0_mostTurns_16 : decode cX0_mostTurns 16 = .ok (.iload_n 2, 1) := by decide +kernel
theorem dX0_mostTurns_17 : decode cX0_mostTurns 17 = .ok (.invokevirtual 36, 3) := by decide +kernel
theorem dX0_mostTurns_20 : decode cX0_mostTurns 20 = .ok (.invokestatic 39, 3) := by decide +kernel
theorem dX0_mostTurns_23 : decode cX0_mostTurns 23 = .ok (.istore_n 1, 1) := by decide +kernel
theorem dX0_mostTurns_24 : decode cX0_mostTurns 24 = .ok (.iinc 2 1, 3) := by decide +kernel
theorem dX0_mostTurns_27 : decode cX0_mostTurns 27 = .ok (.goto (-23), 3) := by decide +kernel
theorem dX0_mostTurns_30 : decode cX0_mostTurns 30 = .ok (.iload_n 1, 1) := by decide +kernel
theorem dX0_mostTurns_31 : decode cX0_mostTurns 31 = .ok (.ireturn, 1) := by decide +kernel
theorem dX0_pointsWithOneTurn_0 : decode cX0_pointsWithOneTurn 0 = .ok (.iconst 0, 1) := by decide +kernel
theorem dX0_pointsWithOneTurn_1 : decode cX0_pointsWithOneTurn 1 = .ok (.istore_n 1, 1) := by decide +kernel
theorem dX0_pointsWithOneTurn_2 : decode cX0_pointsWithOneTurn 2 = .ok (.iconst 0, 1) := by decide +kernel
theorem dX0_pointsWithOneTurn_3 : decode cX0_pointsWithOneTurn 3 = .ok (.istore_n 2, 1) := by decide +kernel
theorem dX0_pointsWithOneTurn_4 : decode cX0_pointsWithOneTurn 4 = .ok (.iload_n 2, 1) := by decide +kernel
theorem dX0_pointsWithOneTurn_5 : decode cX0_pointsWithOneTurn 5 = .ok (.iconst 2, 1) := by decide +kernel
theorem dX0_pointsWithOneTurn_6 : decode cX0_pointsWithOneTurn 6 = .ok (.aload_n 0, 1) := by decide +kernel
theorem dX0_pointsWithOneTurn_7 : decode cX0_pointsWithOneTurn 7 = .ok (.getfield 21, 3) := by decide +kernel
theorem dX0_pointsWithOneTurn_10 : decode cX0_pointsWithOneTurn 10 = .ok (.imul, 1) := by decide +kernel
theorem dX0_pointsWithOneTurn_11 : decode cX0_pointsWithOneTurn 11 = .ok (.if_icmp .ge 31, 3) := by decide +kernel
theorem dX0_pointsWithOneTurn_14 : decode cX0_pointsWithOneTurn 14 = .ok (.aload_n 0, 1) := by decide +kernel
theorem dX0_pointsWithOneTurn_15 : decode cX0_pointsWithOneTurn 15 = .ok (.getfield 9, 3) := by decide +kernel
theorem dX0_pointsWithOneTurn_18 : decode cX0_pointsWithOneTurn 18 = .ok (.iload_n 2, 1) := by decide +kernel
theorem dX0_pointsWithOneTurn_19 : decode cX0_pointsWithOneTurn 19 = .ok (.iaload, 1) := by decide +kernel
theorem dX0_pointsWithOneTurn_20 : decode cX0_pointsWithOneTurn 20 = .ok (.iload_n 2, 1) := by decide +kernel
theorem dX0_pointsWithOneTurn_21 : decode cX0_pointsWithOneTurn 21 = .ok (.if_icmp .ne 15, 3) := by decide +kernel
theorem dX0_pointsWithOneTurn_24 : decode cX0_pointsWithOneTurn 24 = .ok (.aload_n 0, 1) := by decide +kernel
theorem dX0_pointsWithOneTurn_25 : decode cX0_pointsWithOneTurn 25 = .ok (.iload_n 2, 1) := by decide +kernel
theorem dX0_pointsWithOneTurn_26 : decode cX0_pointsWithOneTurn 26 = .ok (.invokevirtual 36, 3) := by decide +kernel
theorem dX0_pointsWithOneTurn_29 : decode cX0_pointsWithOneTurn 29 = .ok (.iconst 1, 1) := by decide +kernel
theorem dX0_pointsWithOneTurn_30 : decode cX0_pointsWithOneTurn 30 = .ok (.if_icmp .ne 6, 3) := by decide +kernel
theorem dX0_pointsWithOneTurn_33 : decode cX0_pointsWithOneTurn 33 = .ok (.iinc 1 1, 3) := by decide +kernel
theorem dX0_pointsWithOneTurn_36 : decode cX0_pointsWithOneTurn 36 = .ok (.iinc 2 1, 3) := by decide +kernel
theorem dX0_pointsWithOneTurn_39 : decode cX0_pointsWithOneTurn 39 = .ok (.goto (-35), 3) := by decide +kernel
theorem dX0_pointsWithOneTurn_42 : decode cX0_pointsWithOneTurn 42 = .ok (.iload_n 1, 1) := by decide +kernel
theorem dX0_pointsWithOneTurn_43 : decode cX0_pointsWithOneTurn 43 = .ok (.ireturn, 1) := by decide +kernel
theorem dX0_turnsAt_0 : decode cX0_turnsAt 0 = .ok (.iconst 0, 1) := by decide +kernel
theorem dX0_turnsAt_1 : decode cX0_turnsAt 1 = .ok (.istore_n 2, 1) := by decide +kernel
theorem dX0_turnsAt_2 : decode cX0_turnsAt 2 = .ok (.iconst 1, 1) := by decide +kernel
theorem dX0_turnsAt_3 : decode cX0_turnsAt 3 = .ok (.istore_n 3, 1) := by decide +kernel
theorem dX0_turnsAt_4 : decode cX0_turnsAt 4 = .ok (.iload_n 3, 1) := by decide +kernel
theorem dX0_turnsAt_5 : decode cX0_turnsAt 5 = .ok (.aload_n 0, 1) := by decide +kernel
theorem dX0_turnsAt_6 : decode cX0_turnsAt 6 = .ok (.getfield 21, 3) := by decide +kernel
theorem dX0_turnsAt_9 : decode cX0_turnsAt 9 = .ok (.if_icmp .ge 27, 3) := by decide +kernel
theorem dX0_turnsAt_12 : decode cX0_turnsAt 12 = .ok (.aload_n 0, 1) := by decide +kernel
theorem dX0_turnsAt_13 : decode cX0_turnsAt 13 = .ok (.getfield 9, 3) := by decide +kernel
theorem dX0_turnsAt_16 : decode cX0_turnsAt 16 = .ok (.iload_n 3, 1) := by decide +kernel
theorem dX0_turnsAt_17 : decode cX0_turnsAt 17 = .ok (.iaload, 1) := by decide +kernel
theorem dX0_turnsAt_18 : decode cX0_turnsAt 18 = .ok (.aload_n 0, 1) := by decide +kernel
theorem dX0_turnsAt_19 : decode cX0_turnsAt 19 = .ok (.getfield 9, 3) := by decide +kernel
theorem dX0_turnsAt_22 : decode cX0_turnsAt 22 = .ok (.iload_n 1, 1) := by decide +kernel
theorem dX0_turnsAt_23 : decode cX0_turnsAt 23 = .ok (.iaload, 1) := by decide +kernel
theorem dX0_turnsAt_24 : decode cX0_turnsAt 24 = .ok (.if_icmp .ne 6, 3) := by decide +kernel
theorem dX0_turnsAt_27 : decode cX0_turnsAt 27 = .ok (.iinc 2 1, 3) := by decide +kernel
theorem dX0_turnsAt_30 : decode cX0_turnsAt 30 = .ok (.iinc 3 1, 3) := by decide +kernel
theorem dX0_turnsAt_33 : decode cX0_turnsAt 33 = .ok (.goto (-29), 3) := by decide +kernel
theorem dX0_turnsAt_36 : decode cX0_turnsAt 36 = .ok (.iload_n 2, 1) := by decide +kernel
theorem dX0_turnsAt_37 : decode cX0_turnsAt 37 = .ok (.ireturn, 1) := by decide +kernel
theorem dX0_cornerBelow_0 : decode cX0_cornerBelow 0 = .ok (.iload_n 1, 1) := by decide +kernel
theorem dX0_cornerBelow_1 : decode cX0_cornerBelow 1 = .ok (.ifCond .ne 7, 3) := by decide +kernel
theorem dX0_cornerBelow_4 : decode cX0_cornerBelow 4 = .ok (.iconst 0, 1) := by decide +kernel
theorem dX0_cornerBelow_5 : decode cX0_cornerBelow 5 = .ok (.goto 24, 3) := by decide +kernel
theorem dX0_cornerBelow_8 : decode cX0_cornerBelow 8 = .ok (.iload_n 1, 1) := by decide +kernel
theorem dX0_cornerBelow_9 : decode cX0_cornerBelow 9 = .ok (.aload_n 0, 1) := by decide +kernel
theorem dX0_cornerBelow_10 : decode cX0_cornerBelow 10 = .ok (.getfield 21, 3) := by decide +kernel
theorem dX0_cornerBelow_13 : decode cX0_cornerBelow 13 = .ok (.if_icmp .ne 10, 3) := by decide +kernel
theorem dX0_cornerBelow_16 : decode cX0_cornerBelow 16 = .ok (.aload_n 0, 1) := by decide +kernel
theorem dX0_cornerBelow_17 : decode cX0_cornerBelow 17 = .ok (.getfield 21, 3) := by decide +kernel
theorem dX0_cornerBelow_20 : decode cX0_cornerBelow 20 = .ok (.goto 9, 3) := by decide +kernel
theorem dX0_cornerBelow_23 : decode cX0_cornerBelow 23 = .ok (.aload_n 0, 1) := by decide +kernel
theorem dX0_cornerBelow_24 : decode cX0_cornerBelow 24 = .ok (.getfield 21, 3) := by decide +kernel
theorem dX0_cornerBelow_27 : decode cX0_cornerBelow 27 = .ok (.iload_n 1, 1) := by decide +kernel
theorem dX0_cornerBelow_28 : decode cX0_cornerBelow 28 = .ok (.iadd, 1) := by decide +kernel
theorem dX0_cornerBelow_29 : decode cX0_cornerBelow 29 = .ok (.ireturn, 1) := by decide +kernel
theorem dX0_join_0 : decode cX0_join 0 = .ok (.aload_n 0, 1) := by decide +kernel
theorem dX0_join_1 : decode cX0_join 1 = .ok (.getfield 9, 3) := by decide +kernel
theorem dX0_join_4 : decode cX0_join 4 = .ok (.iload_n 1, 1) := by decide +kernel
theorem dX0_join_5 : decode cX0_join 5 = .ok (.iaload, 1) := by decide +kernel
theorem dX0_join_6 : decode cX0_join 6 = .ok (.istore_n 3, 1) := by decide +kernel
theorem dX0_join_7 : decode cX0_join 7 = .ok (.aload_n 0, 1) := by decide +kernel
theorem dX0_join_8 : decode cX0_join 8 = .ok (.getfield 9, 3) := by decide +kernel
theorem dX0_join_11 : decode cX0_join 11 = .ok (.iload_n 2, 1) := by decide +kernel
theorem dX0_join_12 : decode cX0_join 12 = .ok (.iaload, 1) := by decide +kernel
theorem dX0_join_13 : decode cX0_join 13 = .ok (.istore 4, 2) := by decide +kernel
theorem dX0_join_15 : decode cX0_join 15 = .ok (.iconst 0, 1) := by decide +kernel
theorem dX0_join_16 : decode cX0_join 16 = .ok (.istore 5, 2) := by decide +kernel
theorem dX0_join_18 : decode cX0_join 18 = .ok (.iload 5, 2) := by decide +kernel
theorem dX0_join_20 : decode cX0_join 20 = .ok (.iconst 2, 1) := by decide +kernel
theorem dX0_join_21 : decode cX0_join 21 = .ok (.aload_n 0, 1) := by decide +kernel
theorem dX0_join_22 : decode cX0_join 22 = .ok (.getfield 21, 3) := by decide +kernel
theorem dX0_join_25 : decode cX0_join 25 = .ok (.imul, 1) := by decide +kernel
theorem dX0_join_26 : decode cX0_join 26 = .ok (.if_icmp .ge 29, 3) := by decide +kernel
theorem dX0_join_29 : decode cX0_join 29 = .ok (.aload_n 0, 1) := by decide +kernel
theorem dX0_join_30 : decode cX0_join 30 = .ok (.getfield 9, 3) := by decide +kernel
theorem dX0_join_33 : decode cX0_join 33 = .ok (.iload 5, 2) := by decide +kernel
theorem dX0_join_35 : decode cX0_join 35 = .ok (.iaload, 1) := by decide +kernel
theorem dX0_join_36 : decode cX0_join 36 = .ok (.iload 4, 2) := by decide +kernel
theorem dX0_join_38 : decode cX0_join 38 = .ok (.if_icmp .ne 11, 3) := by decide +kernel
theorem dX0_join_41 : decode cX0_join 41 = .ok (.aload_n 0, 1) := by decide +kernel
theorem dX0_join_42 : decode cX0_join 42 = .ok (.getfield 9, 3) := by decide +kernel
theorem dX0_join_45 : decode cX0_join 45 = .ok (.iload 5, 2) := by decide +kernel
theorem dX0_join_47 : decode cX0_join 47 = .ok (.iload_n 3, 1) := by decide +kernel
theorem dX0_join_48 : decode cX0_join 48 = .ok (.iastore, 1) := by decide +kernel
theorem dX0_join_49 : decode cX0_join 49 = .ok (.iinc 5 1, 3) := by decide +kernel
theorem dX0_join_52 : decode cX0_join 52 = .ok (.goto (-34), 3) := by decide +kernel
theorem dX0_join_55 : decode cX0_join 55 = .ok (.return_, 1) := by decide +kernel
theorem dX1_init_0 : decode cX1_init 0 = .ok (.aload_n 0, 1) := by decide +kernel
theorem dX1_init_1 : decode cX1_init 1 = .ok (.invokespecial 3, 3) := by decide +kernel
theorem dX1_init_4 : decode cX1_init 4 = .ok (.aload_n 0, 1) := by decide +kernel
theorem dX1_init_5 : decode cX1_init 5 = .ok (.bipush 8, 2) := by decide +kernel
theorem dX1_init_7 : decode cX1_init 7 = .ok (.newarray .int, 2) := by decide +kernel
theorem dX1_init_9 : decode cX1_init 9 = .ok (.putfield 9, 3) := by decide +kernel
theorem dX1_init_12 : decode cX1_init 12 = .ok (.aload_n 0, 1) := by decide +kernel
theorem dX1_init_13 : decode cX1_init 13 = .ok (.bipush 8, 2) := by decide +kernel
theorem dX1_init_15 : decode cX1_init 15 = .ok (.newarray .int, 2) := by decide +kernel
theorem dX1_init_17 : decode cX1_init 17 = .ok (.putfield 15, 3) := by decide +kernel
theorem dX1_init_20 : decode cX1_init 20 = .ok (.aload_n 0, 1) := by decide +kernel
theorem dX1_init_21 : decode cX1_init 21 = .ok (.bipush 8, 2) := by decide +kernel
theorem dX1_init_23 : decode cX1_init 23 = .ok (.newarray .int, 2) := by decide +kernel
theorem dX1_init_25 : decode cX1_init 25 = .ok (.putfield 18, 3) := by decide +kernel
theorem dX1_init_28 : decode cX1_init 28 = .ok (.aload_n 0, 1) := by decide +kernel
theorem dX1_init_29 : decode cX1_init 29 = .ok (.sipush 2000, 3) := by decide +kernel
theorem dX1_init_32 : decode cX1_init 32 = .ok (.newarray .int, 2) := by decide +kernel
theorem dX1_init_34 : decode cX1_init 34 = .ok (.putfield 21, 3) := by decide +kernel
theorem dX1_init_37 : decode cX1_init 37 = .ok (.aload_n 0, 1) := by decide +kernel
theorem dX1_init_38 : decode cX1_init 38 = .ok (.sipush 2000, 3) := by decide +kernel
theorem dX1_init_41 : decode cX1_init 41 = .ok (.newarray .int, 2) := by decide +kernel
theorem dX1_init_43 : decode cX1_init 43 = .ok (.putfield 24, 3) := by decide +kernel
theorem dX1_init_46 : decode cX1_init 46 = .ok (.return_, 1) := by decide +kernel
theorem dX1_tell_0 : decode cX1_tell 0 = .ok (.aload_n 0, 1) := by decide +kernel
theorem dX1_tell_1 : decode cX1_tell 1 = .ok (.aload_n 1, 1) := by decide +kernel
theorem dX1_tell_2 : decode cX1_tell 2 = .ok (.invokevirtual 27, 3) := by decide +kernel
theorem dX1_tell_5 : decode cX1_tell 5 = .ok (.aload_n 0, 1) := by decide +kernel
theorem dX1_tell_6 : decode cX1_tell 6 = .ok (.iconst 0, 1) := by decide +kernel
theorem dX1_tell_7 : decode cX1_tell 7 = .ok (.putfield 31, 3) := by decide +kernel
theorem dX1_tell_10 : decode cX1_tell 10 = .ok (.iconst 0, 1) := by decide +kernel
theorem dX1_tell_11 : decode cX1_tell 11 = .ok (.istore_n 3, 1) := by decide +kernel
theorem dX1_tell_12 : decode cX1_tell 12 = .ok (.iload_n 3, 1) := by decide +kernel
theorem dX1_tell_13 : decode cX1_tell 13 = .ok (.iload_n 2, 1) := by decide +kernel
theorem dX1_tell_14 : decode cX1_tell 14 = .ok (.if_icmp .ge 47, 3) := by decide +kernel
theorem dX1_tell_17 : decode cX1_tell 17 = .ok (.aload_n 0, 1) := by decide +kernel
theorem dX1_tell_18 : decode cX1_tell 18 = .ok (.getfield 31, 3) := by decide +kernel
theorem dX1_tell_21 : decode cX1_tell 21 = .ok (.bipush 8, 2) := by decide +kernel
theorem dX1_tell_23 : decode cX1_tell 23 = .ok (.if_icmp .ge 38, 3) := by decide +kernel
theorem dX1_tell_26 : decode cX1_tell 26 = .ok (.aload_n 0, 1) := by decide +kernel
theorem dX1_tell_27 : decode cX1_tell 27 = .ok (.getfield 24, 3) := by decide +kernel
theorem dX1_tell_30 : decode cX1_tell 30 = .ok (.iload_n 3, 1) := by decide +kernel
theorem dX1_tell_31 : decode cX1_tell 31 = .ok (.iaload, 1) := by decide +kernel
theorem dX1_tell_32 : decode cX1_tell 32 = .ok (.ifCond .le 23, 3) := by decide +kernel
theorem dX1_tell_35 : decode cX1_tell 35 = .ok (.aload_n 0, 1) := by decide +kernel
theorem dX1_tell_36 : decode cX1_tell 36 = .ok (.iload_n 3, 1) := by decide +kernel
theorem dX1_tell_37 : decode cX1_tell 37 = .ok (.iload_n 2, 1) := by decide +kernel
theorem dX1_tell_38 : decode cX1_tell 38 = .ok (.invokevirtual 35, 3) := by decide +kernel
theorem dX1_tell_41 : decode cX1_tell 41 = .ok (.aload_n 0, 1) := by decide +kernel
theorem dX1_tell_42 : decode cX1_tell 42 = .ok (.invokevirtual 39, 3) := by decide +kernel
theorem dX1_tell_45 : decode cX1_tell 45 = .ok (.aload_n 0, 1) := by decide +kernel
theorem dX1_tell_46 : decode cX1_tell 46 = .ok (.dup, 1) := by decide +kernel
theorem dX1_tell_47 : decode cX1_tell 47 = .ok (.getfield 31, 3) := by decide +kernel
theorem dX1_tell_50 : decode cX1_tell 50 = .ok (.iconst 1, 1) := by decide +kernel
theorem dX1_tell_51 : decode cX1_tell 51 = .ok (.iadd, 1) := by decide +kernel
theorem dX1_tell_52 : decode cX1_tell 52 = .ok (.putfield 31, 3) := by decide +kernel
theorem dX1_tell_55 : decode cX1_tell 55 = .ok (.iinc 3 1, 3) := by decide +kernel
theorem dX1_tell_58 : decode cX1_tell 58 = .ok (.goto (-46), 3) := by decide +kernel
theorem dX1_tell_61 : decode cX1_tell 61 = .ok (.return_, 1) := by decide +kernel
theorem dX1_drawPieces_0 : decode cX1_drawPieces 0 = .ok (.iconst 0, 1) := by decide +kernel
theorem dX1_drawPieces_1 : decode cX1_drawPieces 1 = .ok (.istore_n 2, 1) := by decide +kernel
theorem dX1_drawPieces_2 : decode cX1_drawPieces 2 = .ok (.iload_n 2, 1) := by decide +kernel
theorem dX1_drawPieces_3 : decode cX1_drawPieces 3 = .ok (.aload_n 1, 1) := by decide +kernel
theorem dX1_drawPieces_4 : decode cX1_drawPieces 4 = .ok (.getfield 42, 3) := by decide +kernel
theorem dX1_drawPieces_7 : decode cX1_drawPieces 7 = .ok (.if_icmp .ge 77, 3) := by decide +kernel
theorem dX1_drawPieces_10 : decode cX1_drawPieces 10 = .ok (.aload_n 1, 1) := by decide +kernel
theorem dX1_drawPieces_11 : decode cX1_drawPieces 11 = .ok (.getfield 45, 3) := by decide +kernel
theorem dX1_drawPieces_14 : decode cX1_drawPieces 14 = .ok (.iload_n 2, 1) := by decide +kernel
theorem dX1_drawPieces_15 : decode cX1_drawPieces 15 = .ok (.iconst 1, 1) := by decide +kernel
theorem dX1_drawPieces_16 : decode cX1_drawPieces 16 = .ok (.iadd, 1) := by decide +kernel
theorem dX1_drawPieces_17 : decode cX1_drawPieces 17 = .ok (.laload, 1) := by decide +kernel
theorem dX1_drawPieces_18 : decode cX1_drawPieces 18 = .ok (.l2i, 1) := by decide +kernel
theorem dX1_drawPieces_19 : decode cX1_drawPieces 19 = .ok (.istore_n 3, 1) := by decide +kernel
theorem dX1_drawPieces_20 : decode cX1_drawPieces 20 = .ok (.aload_n 1, 1) := by decide +kernel
theorem dX1_drawPieces_21 : decode cX1_drawPieces 21 = .ok (.getfield 49, 3) := by decide +kernel
theorem dX1_drawPieces_24 : decode cX1_drawPieces 24 = .ok (.aload_n 1, 1) := by decide +kernel
theorem dX1_drawPieces_25 : decode cX1_drawPieces 25 = .ok (.getfield 52, 3) := by decide +kernel
theorem dX1_drawPieces_28 : decode cX1_drawPieces 28 = .ok (.iload_n 2, 1) := by decide +kernel
theorem dX1_drawPieces_29 : decode cX1_drawPieces 29 = .ok (.iaload, 1) := by decide +kernel
theorem dX1_drawPieces_30 : decode cX1_drawPieces 30 = .ok (.laload, 1) := by decide +kernel
theorem dX1_drawPieces_31 : decode cX1_drawPieces 31 = .ok (.l2i, 1) := by decide +kernel
theorem dX1_drawPieces_32 : decode cX1_drawPieces 32 = .ok (.istore 4, 2) := by decide +kernel
theorem dX1_drawPieces_34 : decode cX1_drawPieces 34 = .ok (.aload_n 1, 1) := by decide +kernel
theorem dX1_drawPieces_35 : decode cX1_drawPieces 35 = .ok (.getfield 45, 3) := by decide +kernel
theorem dX1_drawPieces_38 : decode cX1_drawPieces 38 = .ok (.iload_n 2, 1) := by decide +kernel
theorem dX1_drawPieces_39 : decode cX1_drawPieces 39 = .ok (.laload, 1) := by decide +kernel
theorem dX1_drawPieces_40 : decode cX1_drawPieces 40 = .ok (.l2i, 1) := by decide +kernel
theorem dX1_drawPieces_41 : decode cX1_drawPieces 41 = .ok (.istore 5, 2) := by decide +kernel
theorem dX1_drawPieces_43 : decode cX1_drawPieces 43 = .ok (.iload 5, 2) := by decide +kernel
theorem dX1_drawPieces_45 : decode cX1_drawPieces 45 = .ok (.iload_n 3, 1) := by decide +kernel
theorem dX1_drawPieces_46 : decode cX1_drawPieces 46 = .ok (.if_icmp .ge 32, 3) := by decide +kernel
theorem dX1_drawPieces_49 : decode cX1_drawPieces 49 = .ok (.aload_n 0, 1) := by decide +kernel
theorem dX1_drawPieces_50 : decode cX1_drawPieces 50 = .ok (.getfield 21, 3) := by decide +kernel
theorem dX1_drawPieces_53 : decode cX1_drawPieces 53 = .ok (.iload 5, 2) := by decide +kernel
theorem dX1_drawPieces_55 : decode cX1_drawPieces 55 = .ok (.iload 5, 2) := by decide +kernel
theorem dX1_drawPieces_57 : decode cX1_drawPieces 57 = .ok (.iload 4, 2) := by decide +kernel
theorem dX1_drawPieces_59 : decode cX1_drawPieces 59 = .ok (.iadd, 1) := by decide +kernel
theorem dX1_drawPieces_60 : decode cX1_drawPieces 60 = .ok (.iastore, 1) := by decide +kernel
theorem dX1_drawPieces_61 : decode cX1_drawPieces 61 = .ok (.aload_n 0, 1) := by decide +kernel
theorem dX1_drawPieces_62 : decode cX1_drawPieces 62 = .ok (.getfield 24, 3) := by decide +kernel
theorem dX1_drawPieces_65 : decode cX1_drawPieces 65 = .ok (.iload 5, 2) := by decide +kernel
theorem dX1_drawPieces_67 : decode cX1_drawPieces 67 = .ok (.iload_n 3, 1) := by decide +kernel
theorem dX1_drawPieces_68 : decode cX1_drawPieces 68 = .ok (.iload 5, 2) := by decide +kernel
theorem dX1_drawPieces_70 : decode cX1_drawPieces 70 = .ok (.isub, 1) := by decide +kernel
theorem dX1_drawPieces_71 : decode cX1_drawPieces 71 = .ok (.iastore, 1) := by decide +kernel
theorem dX1_drawPieces_72 : decode cX1_drawPieces 72 = .ok (.iinc 5 1, 3) := by decide +kernel
theorem dX1_drawPieces_75 : decode cX1_drawPieces 75 = .ok (.goto (-32), 3) := by decide +kernel
theorem dX1_drawPieces_78 : decode cX1_drawPieces 78 = .ok (.iinc 2 1, 3) := by decide +kernel
theorem dX1_drawPieces_81 : decode cX1_drawPieces 81 = .ok (.goto (-79), 3) := by decide +kernel
theorem dX1_drawPieces_84 : decode cX1_drawPieces 84 = .ok (.return_, 1) := by decide +kernel
theorem dX1_measure_0 : decode cX1_measure 0 = .ok (.iload_n 2, 1) := by decide +kernel
theorem dX1_measure_1 : decode cX1_measure 1 = .ok (.istore_n 3, 1) := by decide +kernel
theorem dX1_measure_2 : decode cX1_measure 2 = .ok (.iconst 0, 1) := by decide +kernel
theorem dX1_measure_3 : decode cX1_measure 3 = .ok (.istore 4, 2) := by decide +kernel
theorem dX1_measure_5 : decode cX1_measure 5 = .ok (.iload_n 1, 1) := by decide +kernel
theorem dX1_measure_6 : decode cX1_measure 6 = .ok (.istore 5, 2) := by decide +kernel
theorem dX1_measure_8 : decode cX1_measure 8 = .ok (.iload_n 3, 1) := by decide +kernel
theorem dX1_measure_9 : decode cX1_measure 9 = .ok (.aload_n 0, 1) := by decide +kernel
theorem dX1_measure_10 : decode cX1_measure 10 = .ok (.getfield 24, 3) := by decide +kernel
theorem dX1_measure_13 : decode cX1_measure 13 = .ok (.iload 5, 2) := by decide +kernel
theorem dX1_measure_15 : decode cX1_measure 15 = .ok (.iaload, 1) := by decide +kernel
theorem dX1_measure_16 : decode cX1_measure 16 = .ok (.invokestatic 55, 3) := by decide +kernel
theorem dX1_measure_19 : decode cX1_measure 19 = .ok (.istore_n 3, 1) := by decide +kernel
theorem dX1_measure_20 : decode cX1_measure 20 = .ok (.aload_n 0, 1) := by decide +kernel
theorem dX1_measure_21 : decode cX1_measure 21 = .ok (.getfield 21, 3) := by decide +kernel
theorem dX1_measure_24 : decode cX1_measure 24 = .ok (.iload 5, 2) := by decide +kernel
theorem dX1_measure_26 : decode cX1_measure 26 = .ok (.iaload, 1) := by decide +kernel
theorem dX1_measure_27 : decode cX1_measure 27 = .ok (.istore 5, 2) := by decide +kernel
theorem dX1_measure_29 : decode cX1_measure 29 = .ok (.iinc 4 1, 3) := by decide +kernel
theorem dX1_measure_32 : decode cX1_measure 32 = .ok (.iload 5, 2) := by decide +kernel
theorem dX1_measure_34 : decode cX1_measure 34 = .ok (.iload_n 1, 1) := by decide +kernel
theorem dX1_measure_35 : decode cX1_measure 35 = .ok (.if_icmp .eq 9, 3) := by decide +kernel
theorem dX1_measure_38 : decode cX1_measure 38 = .ok (.iload 4, 2) := by decide +kernel
theorem dX1_measure_40 : decode cX1_measure 40 = .ok (.iload_n 2, 1) := by decide +kernel
theorem dX1_measure_41 : decode cX1_measure 41 = .ok (.if_icmp .lt (-33), 3) := by decide +kernel
theorem dX1_measure_44 : decode cX1_measure 44 = .ok (.aload_n 0, 1) := by decide +kernel
theorem dX1_measure_45 : decode cX1_measure 45 = .ok (.getfield 9, 3) := by decide +kernel
theorem dX1_measure_48 : decode cX1_measure 48 = .ok (.aload_n 0, 1) := by decide +kernel
theorem dX1_measure_49 : decode cX1_measure 49 = .ok (.getfield 31, 3) := by decide +kernel
theorem dX1_measure_52 : decode cX1_measure 52 = .ok (.iload_n 3, 1) := by decide +kernel
theorem dX1_measure_53 : decode cX1_measure 53 = .ok (.iastore, 1) := by decide +kernel
theorem dX1_measure_54 : decode cX1_measure 54 = .ok (.aload_n 0, 1) := by decide +kernel
theorem dX1_measure_55 : decode cX1_measure 55 = .ok (.getfield 15, 3) := by decide +kernel
theorem dX1_measure_58 : decode cX1_measure 58 = .ok (.aload_n 0, 1) := by decide +kernel
theorem dX1_measure_59 : decode cX1_measure 59 = .ok (.getfield 31, 3) := by decide +kernel
theorem dX1_measure_62 : decode cX1_measure 62 = .ok (.iload 4, 2) := by decide +kernel
theorem dX1_measure_64 : decode cX1_measure 64 = .ok (.iastore, 1) := by decide +kernel
theorem dX1_measure_65 : decode cX1_measure 65 = .ok (.aload_n 0, 1) := by decide +kernel
theorem dX1_measure_66 : decode cX1_measure 66 = .ok (.getfield 18, 3) := by decide +kernel
theorem dX1_measure_69 : decode cX1_measure 69 = .ok (.aload_n 0, 1) := by decide +kernel
theorem dX1_measure_70 : decode cX1_measure 70 = .ok (.getfield 31, 3) := by decide +kernel
theorem dX1_measure_73 : decode cX1_measure 73 = .ok (.iload_n 1, 1) := by decide +kernel
theorem dX1_measure_74 : decode cX1_measure 74 = .ok (.iastore, 1) := by decide +kernel
theorem dX1_measure_75 : decode cX1_measure 75 = .ok (.return_, 1) := by decide +kernel
theorem dX1_takeOut_0 : decode cX1_takeOut 0 = .ok (.aload_n 0, 1) := by decide +kernel
theorem dX1_takeOut_1 : decode cX1_takeOut 1 = .ok (.getfield 18, 3) := by decide +kernel
theorem dX1_takeOut_4 : decode cX1_takeOut 4 = .ok (.aload_n 0, 1) := by decide +kernel
theorem dX1_takeOut_5 : decode cX1_takeOut 5 = .ok (.getfield 31, 3) := by decide +kernel
theorem dX1_takeOut_8 : decode cX1_takeOut 8 = .ok (.iaload, 1) := by decide +kernel
theorem dX1_takeOut_9 : decode cX1_takeOut 9 = .ok (.istore_n 1, 1) := by decide +kernel
theorem dX1_takeOut_10 : decode cX1_takeOut 10 = .ok (.iconst 0, 1) := by decide +kernel
theorem dX1_takeOut_11 : decode cX1_takeOut 11 = .ok (.istore_n 2, 1) := by decide +kernel
theorem dX1_takeOut_12 : decode cX1_takeOut 12 = .ok (.iload_n 2, 1) := by decide +kernel
theorem dX1_takeOut_13 : decode cX1_takeOut 13 = .ok (.aload_n 0, 1) := by decide +kernel
theorem dX1_takeOut_14 : decode cX1_takeOut 14 = .ok (.getfield 15, 3) := by decide +kernel
theorem dX1_takeOut_17 : decode cX1_takeOut 17 = .ok (.aload_n 0, 1) := by decide +kernel
theorem dX1_takeOut_18 : decode cX1_takeOut 18 = .ok (.getfield 31, 3) := by decide +kernel
theorem dX1_takeOut_21 : decode cX1_takeOut 21 = .ok (.iaload, 1) := by decide +kernel
theorem dX1_takeOut_22 : decode cX1_takeOut 22 = .ok (.if_icmp .ge 46, 3) := by decide +kernel
theorem dX1_takeOut_25 : decode cX1_takeOut 25 = .ok (.iconst 0, 1) := by decide +kernel
theorem dX1_takeOut_26 : decode cX1_takeOut 26 = .ok (.istore_n 3, 1) := by decide +kernel
theorem dX1_takeOut_27 : decode cX1_takeOut 27 = .ok (.iload_n 3, 1) := by decide +kernel
theorem dX1_takeOut_28 : decode cX1_takeOut 28 = .ok (.aload_n 0, 1) := by decide +kernel
theorem dX1_takeOut_29 : decode cX1_takeOut 29 = .ok (.getfield 9, 3) := by decide +kernel
theorem dX1_takeOut_32 : decode cX1_takeOut 32 = .ok (.aload_n 0, 1) := by decide +kernel
theorem dX1_takeOut_33 : decode cX1_takeOut 33 = .ok (.getfield 31, 3) := by decide +kernel
theorem dX1_takeOut_36 : decode cX1_takeOut 36 = .ok (.iaload, 1) := by decide +kernel
theorem dX1_takeOut_37 : decode cX1_takeOut 37 = .ok (.if_icmp .ge 18, 3) := by decide +kernel
theorem dX1_takeOut_40 : decode cX1_takeOut 40 = .ok (.aload_n 0, 1) := by decide +kernel
theorem dX1_takeOut_41 : decode cX1_takeOut 41 = .ok (.getfield 24, 3) := by decide +kernel
theorem dX1_takeOut_44 : decode cX1_takeOut 44 = .ok (.iload_n 1, 1) := by decide +kernel
theorem dX1_takeOut_45 : decode cX1_takeOut 45 = .ok (.iload_n 3, 1) := by decide +kernel
theorem dX1_takeOut_46 : decode cX1_takeOut 46 = .ok (.iadd, 1) := by decide +kernel
theorem dX1_takeOut_47 : decode cX1_takeOut 47 = .ok (.iconst 0, 1) := by decide +kernel
theorem dX1_takeOut_48 : decode cX1_takeOut 48 = .ok (.iastore, 1) := by decide +kernel
theorem dX1_takeOut_49 : decode cX1_takeOut 49 = .ok (.iinc 3 1, 3) := by decide +kernel
theorem dX1_takeOut_52 : decode cX1_takeOut 52 = .ok (.goto (-25), 3) := by decide +kernel
theorem dX1_takeOut_55 : decode cX1_takeOut 55 = .ok (.aload_n 0, 1) := by decide +kernel
theorem dX1_takeOut_56 : decode cX1_takeOut 56 = .ok (.getfield 21, 3) := by decide +kernel
theorem dX1_takeOut_59 : decode cX1_takeOut 59 = .ok (.iload_n 1, 1) := by decide +kernel
theorem dX1_takeOut_60 : decode cX1_takeOut 60 = .ok (.iaload, 1) := by decide +kernel
theorem dX1_takeOut_61 : decode cX1_takeOut 61 = .ok (.istore_n 1, 1) := by decide +kernel
theorem dX1_takeOut_62 : decode cX1_takeOut 62 = .ok (.iinc 2 1, 3) := by decide +kernel
theorem dX1_takeOut_65 : decode cX1_takeOut 65 = .ok (.goto (-53), 3) := by decide +kernel
theorem dX1_takeOut_68 : decode cX1_takeOut 68 = .ok (.return_, 1) := by decide +kernel
theorem dX2_init_0 : decode cX2_init 0 = .ok (.aload_n 0, 1) := by decide +kernel
theorem dX2_init_1 : decode cX2_init 1 = .ok (.invokespecial 3, 3) := by decide +kernel
theorem dX2_init_4 : decode cX2_init 4 = .ok (.aload_n 0, 1) := by decide +kernel
theorem dX2_init_5 : decode cX2_init 5 = .ok (.sipush 720, 3) := by decide +kernel
theorem dX2_init_8 : decode cX2_init 8 = .ok (.newarray .boolean, 2) := by decide +kernel
theorem dX2_init_10 : decode cX2_init 10 = .ok (.putfield 9, 3) := by decide +kernel
theorem dX2_init_13 : decode cX2_init 13 = .ok (.aload_n 0, 1) := by decide +kernel
theorem dX2_init_14 : decode cX2_init 14 = .ok (.sipush 720, 3) := by decide +kernel
theorem dX2_init_17 : decode cX2_init 17 = .ok (.newarray .int, 2) := by decide +kernel
theorem dX2_init_19 : decode cX2_init 19 = .ok (.putfield 15, 3) := by decide +kernel
theorem dX2_init_22 : decode cX2_init 22 = .ok (.aload_n 0, 1) := by decide +kernel
theorem dX2_init_23 : decode cX2_init 23 = .ok (.bipush 6, 2) := by decide +kernel
theorem dX2_init_25 : decode cX2_init 25 = .ok (.newarray .int, 2) := by decide +kernel
theorem dX2_init_27 : decode cX2_init 27 = .ok (.putfield 19, 3) := by decide +kernel
theorem dX2_init_30 : decode cX2_init 30 = .ok (.aload_n 0, 1) := by decide +kernel
theorem dX2_init_31 : decode cX2_init 31 = .ok (.bipush 6, 2) := by decide +kernel
theorem dX2_init_33 : decode cX2_init 33 = .ok (.newarray .int, 2) := by decide +kernel
theorem dX2_init_35 : decode cX2_init 35 = .ok (.putfield 22, 3) := by decide +kernel
theorem dX2_init_38 : decode cX2_init 38 = .ok (.return_, 1) := by decide +kernel
theorem dX2_countFrom_0 : decode cX2_countFrom 0 = .ok (.aload_n 0, 1) := by decide +kernel
theorem dX2_countFrom_1 : decode cX2_countFrom 1 = .ok (.aload_n 1, 1) := by decide +kernel
theorem dX2_countFrom_2 : decode cX2_countFrom 2 = .ok (.getfield 25, 3) := by decide +kernel
theorem dX2_countFrom_5 : decode cX2_countFrom 5 = .ok (.putfield 31, 3) := by decide +kernel
theorem dX2_countFrom_8 : decode cX2_countFrom 8 = .ok (.aload_n 0, 1) := by decide +kernel
theorem dX2_countFrom_9 : decode cX2_countFrom 9 = .ok (.iconst 0, 1) := by decide +kernel
theorem dX2_countFrom_10 : decode cX2_countFrom 10 = .ok (.putfield 32, 3) := by decide +kernel
theorem dX2_countFrom_13 : decode cX2_countFrom 13 = .ok (.iconst 0, 1) := by decide +kernel
theorem dX2_countFrom_14 : decode cX2_countFrom 14 = .ok (.istore_n 2, 1) := by decide +kernel
theorem dX2_countFrom_15 : decode cX2_countFrom 15 = .ok (.iload_n 2, 1) := by decide +kernel
theorem dX2_countFrom_16 : decode cX2_countFrom 16 = .ok (.sipush 720, 3) := by decide +kernel
theorem dX2_countFrom_19 : decode cX2_countFrom 19 = .ok (.if_icmp .ge 16, 3) := by decide +kernel
theorem dX2_countFrom_22 : decode cX2_countFrom 22 = .ok (.aload_n 0, 1) := by decide +kernel
theorem dX2_countFrom_23 : decode cX2_countFrom 23 = .ok (.getfield 9, 3) := by decide +kernel
theorem dX2_countFrom_26 : decode cX2_countFrom 26 = .ok (.iload_n 2, 1) := by decide +kernel
theorem dX2_countFrom_27 : decode cX2_countFrom 27 = .ok (.iconst 0, 1) := by decide +kernel
theorem dX2_countFrom_28 : decode cX2_countFrom 28 = .ok (.bastore, 1) := by decide +kernel
theorem dX2_countFrom_29 : decode cX2_countFrom 29 = .ok (.iinc 2 1, 3) := by decide +kernel
theorem dX2_countFrom_32 : decode cX2_countFrom 32 = .ok (.goto (-17), 3) := by decide +kernel
theorem dX2_countFrom_35 : decode cX2_countFrom 35 = .ok (.aload_n 0, 1) := by decide +kernel
theorem dX2_countFrom_36 : decode cX2_countFrom 36 = .ok (.aload_n 1, 1) := by decide +kernel
theorem dX2_countFrom_37 : decode cX2_countFrom 37 = .ok (.invokevirtual 35, 3) := by decide +kernel
theorem dX2_countFrom_40 : decode cX2_countFrom 40 = .ok (.aload_n 0, 1) := by decide +kernel
theorem dX2_countFrom_41 : decode cX2_countFrom 41 = .ok (.invokevirtual 39, 3) := by decide +kernel
theorem dX2_countFrom_44 : decode cX2_countFrom 44 = .ok (.iconst 0, 1) := by decide +kernel
theorem dX2_countFrom_45 : decode cX2_countFrom 45 = .ok (.istore_n 2, 1) := by decide +kernel
theorem dX2_countFrom_46 : decode cX2_countFrom 46 = .ok (.iload_n 2, 1) := by decide +kernel
theorem dX2_countFrom_47 : decode cX2_countFrom 47 = .ok (.aload_n 0, 1) := by decide +kernel
theorem dX2_countFrom_48 : decode cX2_countFrom 48 = .ok (.getfield 32, 3) := by decide +kernel
theorem dX2_countFrom_51 : decode cX2_countFrom 51 = .ok (.if_icmp .ge 62, 3) := by decide +kernel
theorem dX2_countFrom_54 : decode cX2_countFrom 54 = .ok (.iload_n 2, 1) := by decide +kernel
theorem dX2_countFrom_55 : decode cX2_countFrom 55 = .ok (.sipush 720, 3) := by decide +kernel
theorem dX2_countFrom_58 : decode cX2_countFrom 58 = .ok (.if_icmp .ge 55, 3) := by decide +kernel
theorem dX2_countFrom_61 : decode cX2_countFrom 61 = .ok (.aload_n 0, 1) := by decide +kernel
theorem dX2_countFrom_62 : decode cX2_countFrom 62 = .ok (.aload_n 0, 1) := by decide +kernel
theorem dX2_countFrom_63 : decode cX2_countFrom 63 = .ok (.getfield 15, 3) := by decide +kernel
theorem dX2_countFrom_66 : decode cX2_countFrom 66 = .ok (.iload_n 2, 1) := by decide +kernel
theorem dX2_countFrom_67 : decode cX2_countFrom 67 = .ok (.iaload, 1) := by decide +kernel
theorem dX2_countFrom_68 : decode cX2_countFrom 68 = .ok (.invokevirtual 42, 3) := by decide +kernel
theorem dX2_countFrom_71 : decode cX2_countFrom 71 = .ok (.aload_n 0, 1) := by decide +kernel
theorem dX2_countFrom_72 : decode cX2_countFrom 72 = .ok (.getfield 19, 3) := by decide +kernel
theorem dX2_countFrom_75 : decode cX2_countFrom 75 = .ok (.aload_n 0, 1) := by decide +kernel
theorem dX2_countFrom_76 : decode cX2_countFrom 76 = .ok (.getfield 31, 3) := by decide +kernel
theorem dX2_countFrom_79 : decode cX2_countFrom 79 = .ok (.iconst 1, 1) := by decide +kernel
theorem dX2_countFrom_80 : decode cX2_countFrom 80 = .ok (.isub, 1) := by decide +kernel
theorem dX2_countFrom_81 : decode cX2_countFrom 81 = .ok (.iaload, 1) := by decide +kernel
theorem dX2_countFrom_82 : decode cX2_countFrom 82 = .ok (.aload_n 0, 1) := by decide +kernel
theorem dX2_countFrom_83 : decode cX2_countFrom 83 = .ok (.getfield 31, 3) := by decide +kernel
theorem dX2_countFrom_86 : decode cX2_countFrom 86 = .ok (.iconst 1, 1) := by decide +kernel
theorem dX2_countFrom_87 : decode cX2_countFrom 87 = .ok (.isub, 1) := by decide +kernel
theorem dX2_countFrom_88 : decode cX2_countFrom 88 = .ok (.if_icmp .eq 19, 3) := by decide +kernel
theorem dX2_countFrom_91 : decode cX2_countFrom 91 = .ok (.aload_n 0, 1) := by decide +kernel
theorem dX2_countFrom_92 : decode cX2_countFrom 92 = .ok (.invokevirtual 46, 3) := by decide +kernel
theorem dX2_countFrom_95 : decode cX2_countFrom 95 = .ok (.aload_n 0, 1) := by decide +kernel
theorem dX2_countFrom_96 : decode cX2_countFrom 96 = .ok (.invokevirtual 39, 3) := by decide +kernel
theorem dX2_countFrom_99 : decode cX2_countFrom 99 = .ok (.aload_n 0, 1) := by decide +kernel
theorem dX2_countFrom_100 : decode cX2_countFrom 100 = .ok (.invokevirtual 49, 3) := by decide +kernel
theorem dX2_countFrom_103 : decode cX2_countFrom 103 = .ok (.aload_n 0, 1) := by decide +kernel
theorem dX2_countFrom_104 : decode cX2_countFrom 104 = .ok (.invokevirtual 39, 3) := by decide +kernel
theorem dX2_countFrom_107 : decode cX2_countFrom 107 = .ok (.iinc 2 1, 3) := by decide +kernel
theorem dX2_countFrom_110 : decode cX2_countFrom 110 = .ok (.goto (-64), 3) := by decide +kernel
theorem dX2_countFrom_113 : decode cX2_countFrom 113 = .ok (.aload_n 0, 1) := by decide +kernel
theorem dX2_countFrom_114 : decode cX2_countFrom 114 = .ok (.getfield 32, 3) := by decide +kernel
theorem dX2_countFrom_117 : decode cX2_countFrom 117 = .ok (.ireturn, 1) := by decide +kernel
theorem dX2_nameByPlaceAbove_0 : decode cX2_nameByPlaceAbove 0 = .ok (.iconst 0, 1) := by decide +kernel
theorem dX2_nameByPlaceAbove_1 : decode cX2_nameByPlaceAbove 1 = .ok (.istore_n 2, 1) := by decide +kernel
theorem dX2_nameByPlaceAbove_2 : decode cX2_nameByPlaceAbove 2 = .ok (.iload_n 2, 1) := by decide +kernel
theorem dX2_nameByPlaceAbove_3 : decode cX2_nameByPlaceAbove 3 = .ok (.aload_n 0, 1) := by decide +kernel
theorem dX2_nameByPlaceAbove_4 : decode cX2_nameByPlaceAbove 4 = .ok (.getfield 31, 3) := by decide +kernel
theorem dX2_nameByPlaceAbove_7 : decode cX2_nameByPlaceAbove 7 = .ok (.if_icmp .ge 47, 3) := by decide +kernel
theorem dX2_nameByPlaceAbove_10 : decode cX2_nameByPlaceAbove 10 = .ok (.iconst 0, 1) := by decide +kernel
theorem dX2_nameByPlaceAbove_11 : decode cX2_nameByPlaceAbove 11 = .ok (.istore_n 3, 1) := by decide +kernel
theorem dX2_nameByPlaceAbove_12 : decode cX2_nameByPlaceAbove 12 = .ok (.iload_n 3, 1) := by decide +kernel
theorem dX2_nameByPlaceAbove_13 : decode cX2_nameByPlaceAbove 13 = .ok (.aload_n 0, 1) := by decide +kernel
theorem dX2_nameByPlaceAbove_14 : decode cX2_nameByPlaceAbove 14 = .ok (.getfield 31, 3) := by decide +kernel
theorem dX2_nameByPlaceAbove_17 : decode cX2_nameByPlaceAbove 17 = .ok (.if_icmp .ge 31, 3) := by decide +kernel
theorem dX2_nameByPlaceAbove_20 : decode cX2_nameByPlaceAbove 20 = .ok (.aload_n 1, 1) := by decide +kernel
theorem dX2_nameByPlaceAbove_21 : decode cX2_nameByPlaceAbove 21 = .ok (.getfield 52, 3) := by decide +kernel
theorem dX2_nameByPlaceAbove_24 : decode cX2_nameByPlaceAbove 24 = .ok (.iload_n 3, 1) := by decide +kernel
theorem dX2_nameByPlaceAbove_25 : decode cX2_nameByPlaceAbove 25 = .ok (.iaload, 1) := by decide +kernel
theorem dX2_nameByPlaceAbove_26 : decode cX2_nameByPlaceAbove 26 = .ok (.aload_n 1, 1) := by decide +kernel
theorem dX2_nameByPlaceAbove_27 : decode cX2_nameByPlaceAbove 27 = .ok (.getfield 55, 3) := by decide +kernel
theorem dX2_nameByPlaceAbove_30 : decode cX2_nameByPlaceAbove 30 = .ok (.iload_n 2, 1) := by decide +kernel
theorem dX2_nameByPlaceAbove_31 : decode cX2_nameByPlaceAbove 31 = .ok (.iaload, 1) := by decide +kernel
theorem dX2_nameByPlaceAbove_32 : decode cX2_nameByPlaceAbove 32 = .ok (.if_icmp .ne 10, 3) := by decide +kernel
theorem dX2_nameByPlaceAbove_35 : decode cX2_nameByPlaceAbove 35 = .ok (.aload_n 0, 1) := by decide +kernel
theorem dX2_nameByPlaceAbove_36 : decode cX2_nameByPlaceAbove 36 = .ok (.getfield 22, 3) := by decide +kernel
theorem dX2_nameByPlaceAbove_39 : decode cX2_nameByPlaceAbove 39 = .ok (.iload_n 3, 1) := by decide +kernel
theorem dX2_nameByPlaceAbove_40 : decode cX2_nameByPlaceAbove 40 = .ok (.iload_n 2, 1) := by decide +kernel
theorem dX2_nameByPlaceAbove_41 : decode cX2_nameByPlaceAbove 41 = .ok (.iastore, 1) := by decide +kernel
theorem dX2_nameByPlaceAbove_42 : decode cX2_nameByPlaceAbove 42 = .ok (.iinc 3 1, 3) := by decide +kernel
theorem dX2_nameByPlaceAbove_45 : decode cX2_nameByPlaceAbove 45 = .ok (.goto (-33), 3) := by decide +kernel
theorem dX2_nameByPlaceAbove_48 : decode cX2_nameByPlaceAbove 48 = .ok (.iinc 2 1, 3) := by decide +kernel
theorem dX2_nameByPlaceAbove_51 : decode cX2_nameByPlaceAbove 51 = .ok (.goto (-49), 3) := by decide +kernel
theorem dX2_nameByPlaceAbove_54 : decode cX2_nameByPlaceAbove 54 = .ok (.return_, 1) := by decide +kernel
theorem dX2_letUWin_0 : decode cX2_letUWin 0 = .ok (.aload_n 0, 1) := by decide +kernel
theorem dX2_letUWin_1 : decode cX2_letUWin 1 = .ok (.getfield 31, 3) := by decide +kernel
theorem dX2_letUWin_4 : decode cX2_letUWin 4 = .ok (.iconst 1, 1) := by decide +kernel
theorem dX2_letUWin_5 : decode cX2_letUWin 5 = .ok (.isub, 1) := by decide +kernel
theorem dX2_letUWin_6 : decode cX2_letUWin 6 = .ok (.istore_n 1, 1) := by decide +kernel
theorem dX2_letUWin_7 : decode cX2_letUWin 7 = .ok (.aload_n 0, 1) := by decide +kernel
theorem dX2_letUWin_8 : decode cX2_letUWin 8 = .ok (.getfield 19, 3) := by decide +kernel
theorem dX2_letUWin_11 : decode cX2_letUWin 11 = .ok (.aload_n 0, 1) := by decide +kernel
theorem dX2_letUWin_12 : decode cX2_letUWin 12 = .ok (.getfield 31, 3) := by decide +kernel
theorem dX2_letUWin_15 : decode cX2_letUWin 15 = .ok (.iconst 1, 1) := by decide +kernel
theorem dX2_letUWin_16 : decode cX2_letUWin 16 = .ok (.isub, 1) := by decide +kernel
theorem dX2_letUWin_17 : decode cX2_letUWin 17 = .ok (.iaload, 1) := by decide +kernel
theorem dX2_letUWin_18 : decode cX2_letUWin 18 = .ok (.istore_n 2, 1) := by decide +kernel
theorem dX2_letUWin_19 : decode cX2_letUWin 19 = .ok (.iconst 0, 1) := by decide +kernel
theorem dX2_letUWin_20 : decode cX2_letUWin 20 = .ok (.istore_n 3, 1) := by decide +kernel
theorem dX2_letUWin_21 : decode cX2_letUWin 21 = .ok (.iconst 0, 1) := by decide +kernel
theorem dX2_letUWin_22 : decode cX2_letUWin 22 = .ok (.istore 4, 2) := by decide +kernel
theorem dX2_letUWin_24 : decode cX2_letUWin 24 = .ok (.iload 4, 2) := by decide +kernel
theorem dX2_letUWin_26 : decode cX2_letUWin 26 = .ok (.aload_n 0, 1) := by decide +kernel
theorem dX2_letUWin_27 : decode cX2_letUWin 27 = .ok (.getfield 31, 3) := by decide +kernel
theorem dX2_letUWin_30 : decode cX2_letUWin 30 = .ok (.iconst 1, 1) := by decide +kernel
theorem dX2_letUWin_31 : decode cX2_letUWin 31 = .ok (.isub, 1) := by decide +kernel
theorem dX2_letUWin_32 : decode cX2_letUWin 32 = .ok (.if_icmp .ge 46, 3) := by decide +kernel
theorem dX2_letUWin_35 : decode cX2_letUWin 35 = .ok (.aload_n 0, 1) := by decide +kernel
theorem dX2_letUWin_36 : decode cX2_letUWin 36 = .ok (.getfield 22, 3) := by decide +kernel
theorem dX2_letUWin_39 : decode cX2_letUWin 39 = .ok (.iload_n 3, 1) := by decide +kernel
theorem dX2_letUWin_40 : decode cX2_letUWin 40 = .ok (.aload_n 0, 1) := by decide +kernel
theorem dX2_letUWin_41 : decode cX2_letUWin 41 = .ok (.getfield 19, 3) := by decide +kernel
theorem dX2_letUWin_44 : decode cX2_letUWin 44 = .ok (.iload 4, 2) := by decide +kernel
theorem dX2_letUWin_46 : decode cX2_letUWin 46 = .ok (.iaload, 1) := by decide +kernel
theorem dX2_letUWin_47 : decode cX2_letUWin 47 = .ok (.iastore, 1) := by decide +kernel
theorem dX2_letUWin_48 : decode cX2_letUWin 48 = .ok (.iinc 3 1, 3) := by decide +kernel
theorem dX2_letUWin_51 : decode cX2_letUWin 51 = .ok (.aload_n 0, 1) := by decide +kernel
theorem dX2_letUWin_52 : decode cX2_letUWin 52 = .ok (.getfield 19, 3) := by decide +kernel
theorem dX2_letUWin_55 : decode cX2_letUWin 55 = .ok (.iload 4, 2) := by decide +kernel
theorem dX2_letUWin_57 : decode cX2_letUWin 57 = .ok (.iaload, 1) := by decide +kernel
theorem dX2_letUWin_58 : decode cX2_letUWin 58 = .ok (.iload_n 1, 1) := by decide +kernel
theorem dX2_letUWin_59 : decode cX2_letUWin 59 = .ok (.if_icmp .ne 13, 3) := by decide +kernel
theorem dX2_letUWin_62 : decode cX2_letUWin 62 = .ok (.aload_n 0, 1) := by decide +kernel
theorem dX2_letUWin_63 : decode cX2_letUWin 63 = .ok (.getfield 22, 3) := by decide +kernel
theorem dX2_letUWin_66 : decode cX2_letUWin 66 = .ok (.iload_n 3, 1) := by decide +kernel
theorem dX2_letUWin_67 : decode cX2_letUWin 67 = .ok (.iload_n 2, 1) := by decide +kernel
theorem dX2_letUWin_68 : decode cX2_letUWin 68 = .ok (.iastore, 1) := by decide +kernel
theorem dX2_letUWin_69 : decode cX2_letUWin 69 = .ok (.iinc 3 1, 3) := by decide +kernel
theorem dX2_letUWin_72 : decode cX2_letUWin 72 = .ok (.iinc 4 1, 3) := by decide +kernel
theorem dX2_letUWin_75 : decode cX2_letUWin 75 = .ok (.goto (-51), 3) := by decide +kernel
theorem dX2_letUWin_78 : decode cX2_letUWin 78 = .ok (.return_, 1) := by decide +kernel
theorem dX2_letVWin_0 : decode cX2_letVWin 0 = .ok (.aload_n 0, 1) := by decide +kernel
theorem dX2_letVWin_1 : decode cX2_letVWin 1 = .ok (.getfield 31, 3) := by decide +kernel
theorem dX2_letVWin_4 : decode cX2_letVWin 4 = .ok (.iconst 1, 1) := by decide +kernel
theorem dX2_letVWin_5 : decode cX2_letVWin 5 = .ok (.isub, 1) := by decide +kernel
theorem dX2_letVWin_6 : decode cX2_letVWin 6 = .ok (.istore_n 1, 1) := by decide +kernel
theorem dX2_letVWin_7 : decode cX2_letVWin 7 = .ok (.aload_n 0, 1) := by decide +kernel
theorem dX2_letVWin_8 : decode cX2_letVWin 8 = .ok (.getfield 19, 3) := by decide +kernel
theorem dX2_letVWin_11 : decode cX2_letVWin 11 = .ok (.aload_n 0, 1) := by decide +kernel
theorem dX2_letVWin_12 : decode cX2_letVWin 12 = .ok (.getfield 31, 3) := by decide +kernel
theorem dX2_letVWin_15 : decode cX2_letVWin 15 = .ok (.iconst 1, 1) := by decide +kernel
theorem dX2_letVWin_16 : decode cX2_letVWin 16 = .ok (.isub, 1) := by decide +kernel
theorem dX2_letVWin_17 : decode cX2_letVWin 17 = .ok (.iaload, 1) := by decide +kernel
theorem dX2_letVWin_18 : decode cX2_letVWin 18 = .ok (.istore_n 2, 1) := by decide +kernel
theorem dX2_letVWin_19 : decode cX2_letVWin 19 = .ok (.iconst 0, 1) := by decide +kernel
theorem dX2_letVWin_20 : decode cX2_letVWin 20 = .ok (.istore_n 3, 1) := by decide +kernel
theorem dX2_letVWin_21 : decode cX2_letVWin 21 = .ok (.iload_n 3, 1) := by decide +kernel
theorem dX2_letVWin_22 : decode cX2_letVWin 22 = .ok (.aload_n 0, 1) := by decide +kernel
theorem dX2_letVWin_23 : decode cX2_letVWin 23 = .ok (.getfield 31, 3) := by decide +kernel
theorem dX2_letVWin_26 : decode cX2_letVWin 26 = .ok (.if_icmp .ge 50, 3) := by decide +kernel
theorem dX2_letVWin_29 : decode cX2_letVWin 29 = .ok (.aload_n 0, 1) := by decide +kernel
theorem dX2_letVWin_30 : decode cX2_letVWin 30 = .ok (.getfield 19, 3) := by decide +kernel
theorem dX2_letVWin_33 : decode cX2_letVWin 33 = .ok (.iload_n 3, 1) := by decide +kernel
theorem dX2_letVWin_34 : decode cX2_letVWin 34 = .ok (.iaload, 1) := by decide +kernel
theorem dX2_letVWin_35 : decode cX2_letVWin 35 = .ok (.istore 4, 2) := by decide +kernel
theorem dX2_letVWin_37 : decode cX2_letVWin 37 = .ok (.aload_n 0, 1) := by decide +kernel
theorem dX2_letVWin_38 : decode cX2_letVWin 38 = .ok (.getfield 22, 3) := by decide +kernel
theorem dX2_letVWin_41 : decode cX2_letVWin 41 = .ok (.iload_n 3, 1) := by decide +kernel
theorem dX2_letVWin_42 : decode cX2_letVWin 42 = .ok (.iload 4, 2) := by decide +kernel
theorem dX2_letVWin_44 : decode cX2_letVWin 44 = .ok (.iload_n 2, 1) := by decide +kernel
theorem dX2_letVWin_45 : decode cX2_letVWin 45 = .ok (.if_icmp .gt 8, 3) := by decide +kernel
theorem dX2_letVWin_48 : decode cX2_letVWin 48 = .ok (.iload 4, 2) := by decide +kernel
theorem dX2_letVWin_50 : decode cX2_letVWin 50 = .ok (.goto 19, 3) := by decide +kernel
theorem dX2_letVWin_53 : decode cX2_letVWin 53 = .ok (.iload 4, 2) := by decide +kernel
theorem dX2_letVWin_55 : decode cX2_letVWin 55 = .ok (.iload_n 1, 1) := by decide +kernel
theorem dX2_letVWin_56 : decode cX2_letVWin 56 = .ok (.if_icmp .ne 9, 3) := by decide +kernel
theorem dX2_letVWin_59 : decode cX2_letVWin 59 = .ok (.iload_n 2, 1) := by decide +kernel
theorem dX2_letVWin_60 : decode cX2_letVWin 60 = .ok (.iconst 1, 1) := by decide +kernel
theorem dX2_letVWin_61 : decode cX2_letVWin 61 = .ok (.iadd, 1) := by decide +kernel
theorem dX2_letVWin_62 : decode cX2_letVWin 62 = .ok (.goto 7, 3) := by decide +kernel
theorem dX2_letVWin_65 : decode cX2_letVWin 65 = .ok (.iload 4, 2) := by decide +kernel
theorem dX2_letVWin_67 : decode cX2_letVWin 67 = .ok (.iconst 1, 1) := by decide +kernel
theorem dX2_letVWin_68 : decode cX2_letVWin 68 = .ok (.iadd, 1) := by decide +kernel
theorem dX2_letVWin_69 : decode cX2_letVWin 69 = .ok (.iastore, 1) := by decide +kernel
theorem dX2_letVWin_70 : decode cX2_letVWin 70 = .ok (.iinc 3 1, 3) := by decide +kernel
theorem dX2_letVWin_73 : decode cX2_letVWin 73 = .ok (.goto (-52), 3) := by decide +kernel
theorem dX2_letVWin_76 : decode cX2_letVWin 76 = .ok (.return_, 1) := by decide +kernel
theorem dX2_takeNext_0 : decode cX2_takeNext 0 = .ok (.aload_n 0, 1) := by decide +kernel
theorem dX2_takeNext_1 : decode cX2_takeNext 1 = .ok (.invokevirtual 58, 3) := by decide +kernel
theorem dX2_takeNext_4 : decode cX2_takeNext 4 = .ok (.istore_n 1, 1) := by decide +kernel
theorem dX2_takeNext_5 : decode cX2_takeNext 5 = .ok (.aload_n 0, 1) := by decide +kernel
theorem dX2_takeNext_6 : decode cX2_takeNext 6 = .ok (.getfield 9, 3) := by decide +kernel
theorem dX2_takeNext_9 : decode cX2_takeNext 9 = .ok (.iload_n 1, 1) := by decide +kernel
theorem dX2_takeNext_10 : decode cX2_takeNext 10 = .ok (.baload, 1) := by decide +kernel
theorem dX2_takeNext_11 : decode cX2_takeNext 11 = .ok (.ifCond .ne 13, 3) := by decide +kernel
theorem dX2_takeNext_14 : decode cX2_takeNext 14 = .ok (.aload_n 0, 1) := by decide +kernel
theorem dX2_takeNext_15 : decode cX2_takeNext 15 = .ok (.getfield 32, 3) := by decide +kernel
theorem dX2_takeNext_18 : decode cX2_takeNext 18 = .ok (.sipush 720, 3) := by decide +kernel
theorem dX2_takeNext_21 : decode cX2_takeNext 21 = .ok (.if_icmp .lt 4, 3) := by decide +kernel
theorem dX2_takeNext_24 : decode cX2_takeNext 24 = .ok (.return_, 1) := by decide +kernel
theorem dX2_takeNext_25 : decode cX2_takeNext 25 = .ok (.aload_n 0, 1) := by decide +kernel
theorem dX2_takeNext_26 : decode cX2_takeNext 26 = .ok (.getfield 9, 3) := by decide +kernel
theorem dX2_takeNext_29 : decode cX2_takeNext 29 = .ok (.iload_n 1, 1) := by decide +kernel
theorem dX2_takeNext_30 : decode cX2_takeNext 30 = .ok (.iconst 1, 1) := by decide +kernel
theorem dX2_takeNext_31 : decode cX2_takeNext 31 = .ok (.bastore, 1) := by decide +kernel
theorem dX2_takeNext_32 : decode cX2_takeNext 32 = .ok (.aload_n 0, 1) := by decide +kernel
theorem dX2_takeNext_33 : decode cX2_takeNext 33 = .ok (.getfield 15, 3) := by decide +kernel
theorem dX2_takeNext_36 : decode cX2_takeNext 36 = .ok (.aload_n 0, 1) := by decide +kernel
theorem dX2_takeNext_37 : decode cX2_takeNext 37 = .ok (.getfield 32, 3) := by decide +kernel
theorem dX2_takeNext_40 : decode cX2_takeNext 40 = .ok (.aload_n 0, 1) := by decide +kernel
theorem dX2_takeNext_41 : decode cX2_takeNext 41 = .ok (.invokevirtual 62, 3) := by decide +kernel
theorem dX2_takeNext_44 : decode cX2_takeNext 44 = .ok (.iastore, 1) := by decide +kernel
theorem dX2_takeNext_45 : decode cX2_takeNext 45 = .ok (.aload_n 0, 1) := by decide +kernel
theorem dX2_takeNext_46 : decode cX2_takeNext 46 = .ok (.dup, 1) := by decide +kernel
theorem dX2_takeNext_47 : decode cX2_takeNext 47 = .ok (.getfield 32, 3) := by decide +kernel
theorem dX2_takeNext_50 : decode cX2_takeNext 50 = .ok (.iconst 1, 1) := by decide +kernel
theorem dX2_takeNext_51 : decode cX2_takeNext 51 = .ok (.iadd, 1) := by decide +kernel
theorem dX2_takeNext_52 : decode cX2_takeNext 52 = .ok (.putfield 32, 3) := by decide +kernel
theorem dX2_takeNext_55 : decode cX2_takeNext 55 = .ok (.return_, 1) := by decide +kernel
theorem dX2_rankOfNext_0 : decode cX2_rankOfNext 0 = .ok (.iconst 0, 1) := by decide +kernel
theorem dX2_rankOfNext_1 : decode cX2_rankOfNext 1 = .ok (.istore_n 1, 1) := by decide +kernel
theorem dX2_rankOfNext_2 : decode cX2_rankOfNext 2 = .ok (.iconst 0, 1) := by decide +kernel
theorem dX2_rankOfNext_3 : decode cX2_rankOfNext 3 = .ok (.istore_n 2, 1) := by decide +kernel
theorem dX2_rankOfNext_4 : decode cX2_rankOfNext 4 = .ok (.iload_n 2, 1) := by decide +kernel
theorem dX2_rankOfNext_5 : decode cX2_rankOfNext 5 = .ok (.aload_n 0, 1) := by decide +kernel
theorem dX2_rankOfNext_6 : decode cX2_rankOfNext 6 = .ok (.getfield 31, 3) := by decide +kernel
theorem dX2_rankOfNext_9 : decode cX2_rankOfNext 9 = .ok (.if_icmp .ge 61, 3) := by decide +kernel
theorem dX2_rankOfNext_12 : decode cX2_rankOfNext 12 = .ok (.iconst 0, 1) := by decide +kernel
theorem dX2_rankOfNext_13 : decode cX2_rankOfNext 13 = .ok (.istore_n 3, 1) := by decide +kernel
theorem dX2_rankOfNext_14 : decode cX2_rankOfNext 14 = .ok (.iload_n 2, 1) := by decide +kernel
theorem dX2_rankOfNext_15 : decode cX2_rankOfNext 15 = .ok (.iconst 1, 1) := by decide +kernel
theorem dX2_rankOfNext_16 : decode cX2_rankOfNext 16 = .ok (.iadd, 1) := by decide +kernel
theorem dX2_rankOfNext_17 : decode cX2_rankOfNext 17 = .ok (.istore 4, 2) := by decide +kernel
theorem dX2_rankOfNext_19 : decode cX2_rankOfNext 19 = .ok (.iload 4, 2) := by decide +kernel
theorem dX2_rankOfNext_21 : decode cX2_rankOfNext 21 = .ok (.aload_n 0, 1) := by decide +kernel
theorem dX2_rankOfNext_22 : decode cX2_rankOfNext 22 = .ok (.getfield 31, 3) := by decide +kernel
theorem dX2_rankOfNext_25 : decode cX2_rankOfNext 25 = .ok (.if_icmp .ge 28, 3) := by decide +kernel
theorem dX2_rankOfNext_28 : decode cX2_rankOfNext 28 = .ok (.aload_n 0, 1) := by decide +kernel
theorem dX2_rankOfNext_29 : decode cX2_rankOfNext 29 = .ok (.getfield 22, 3) := by decide +kernel
theorem dX2_rankOfNext_32 : decode cX2_rankOfNext 32 = .ok (.iload 4, 2) := by decide +kernel
theorem dX2_rankOfNext_34 : decode cX2_rankOfNext 34 = .ok (.iaload, 1) := by decide +kernel
theorem dX2_rankOfNext_35 : decode cX2_rankOfNext 35 = .ok (.aload_n 0, 1) := by decide +kernel
theorem dX2_rankOfNext_36 : decode cX2_rankOfNext 36 = .ok (.getfield 22, 3) := by decide +kernel
theorem dX2_rankOfNext_39 : decode cX2_rankOfNext 39 = .ok (.iload_n 2, 1) := by decide +kernel
theorem dX2_rankOfNext_40 : decode cX2_rankOfNext 40 = .ok (.iaload, 1) := by decide +kernel
theorem dX2_rankOfNext_41 : decode cX2_rankOfNext 41 = .ok (.if_icmp .ge 6, 3) := by decide +kernel
theorem dX2_rankOfNext_44 : decode cX2_rankOfNext 44 = .ok (.iinc 3 1, 3) := by decide +kernel
theorem dX2_rankOfNext_47 : decode cX2_rankOfNext 47 = .ok (.iinc 4 1, 3) := by decide +kernel
theorem dX2_rankOfNext_50 : decode cX2_rankOfNext 50 = .ok (.goto (-31), 3) := by decide +kernel
theorem dX2_rankOfNext_53 : decode cX2_rankOfNext 53 = .ok (.iload_n 1, 1) := by decide +kernel
theorem dX2_rankOfNext_54 : decode cX2_rankOfNext 54 = .ok (.aload_n 0, 1) := by decide +kernel
theorem dX2_rankOfNext_55 : decode cX2_rankOfNext 55 = .ok (.getfield 31, 3) := by decide +kernel
theorem dX2_rankOfNext_58 : decode cX2_rankOfNext 58 = .ok (.iload_n 2, 1) := by decide +kernel
theorem dX2_rankOfNext_59 : decode cX2_rankOfNext 59 = .ok (.isub, 1) := by decide +kernel
theorem dX2_rankOfNext_60 : decode cX2_rankOfNext 60 = .ok (.imul, 1) := by decide +kernel
theorem dX2_rankOfNext_61 : decode cX2_rankOfNext 61 = .ok (.iload_n 3, 1) := by decide +kernel
theorem dX2_rankOfNext_62 : decode cX2_rankOfNext 62 = .ok (.iadd, 1) := by decide +kernel
theorem dX2_rankOfNext_63 : decode cX2_rankOfNext 63 = .ok (.istore_n 1, 1) := by decide +kernel
theorem dX2_rankOfNext_64 : decode cX2_rankOfNext 64 = .ok (.iinc 2 1, 3) := by decide +kernel
theorem dX2_rankOfNext_67 : decode cX2_rankOfNext 67 = .ok (.goto (-63), 3) := by decide +kernel
theorem dX2_rankOfNext_70 : decode cX2_rankOfNext 70 = .ok (.iload_n 1, 1) := by decide +kernel
theorem dX2_rankOfNext_71 : decode cX2_rankOfNext 71 = .ok (.ireturn, 1) := by decide +kernel
theorem dX2_packNext_0 : decode cX2_packNext 0 = .ok (.iconst 0, 1) := by decide +kernel
theorem dX2_packNext_1 : decode cX2_packNext 1 = .ok (.istore_n 1, 1) := by decide +kernel
theorem dX2_packNext_2 : decode cX2_packNext 2 = .ok (.iconst 0, 1) := by decide +kernel
theorem dX2_packNext_3 : decode cX2_packNext 3 = .ok (.istore_n 2, 1) := by decide +kernel
theorem dX2_packNext_4 : decode cX2_packNext 4 = .ok (.iload_n 2, 1) := by decide +kernel
theorem dX2_packNext_5 : decode cX2_packNext 5 = .ok (.aload_n 0, 1) := by decide +kernel
theorem dX2_packNext_6 : decode cX2_packNext 6 = .ok (.getfield 31, 3) := by decide +kernel
theorem dX2_packNext_9 : decode cX2_packNext 9 = .ok (.if_icmp .ge 22, 3) := by decide +kernel
theorem dX2_packNext_12 : decode cX2_packNext 12 = .ok (.iload_n 1, 1) := by decide +kernel
theorem dX2_packNext_13 : decode cX2_packNext 13 = .ok (.aload_n 0, 1) := by decide +kernel
theorem dX2_packNext_14 : decode cX2_packNext 14 = .ok (.getfield 22, 3) := by decide +kernel
theorem dX2_packNext_17 : decode cX2_packNext 17 = .ok (.iload_n 2, 1) := by decide +kernel
theorem dX2_packNext_18 : decode cX2_packNext 18 = .ok (.iaload, 1) := by decide +kernel
theorem dX2_packNext_19 : decode cX2_packNext 19 = .ok (.iconst 4, 1) := by decide +kernel
theorem dX2_packNext_20 : decode cX2_packNext 20 = .ok (.iload_n 2, 1) := by decide +kernel
theorem dX2_packNext_21 : decode cX2_packNext 21 = .ok (.imul, 1) := by decide +kernel
theorem dX2_packNext_22 : decode cX2_packNext 22 = .ok (.ishl, 1) := by decide +kernel
theorem dX2_packNext_23 : decode cX2_packNext 23 = .ok (.ior, 1) := by decide +kernel
theorem dX2_packNext_24 : decode cX2_packNext 24 = .ok (.istore_n 1, 1) := by decide +kernel
theorem dX2_packNext_25 : decode cX2_packNext 25 = .ok (.iinc 2 1, 3) := by decide +kernel
theorem dX2_packNext_28 : decode cX2_packNext 28 = .ok (.goto (-24), 3) := by decide +kernel
theorem dX2_packNext_31 : decode cX2_packNext 31 = .ok (.iload_n 1, 1) := by decide +kernel
theorem dX2_packNext_32 : decode cX2_packNext 32 = .ok (.ireturn, 1) := by decide +kernel
theorem dX2_unpack_0 : decode cX2_unpack 0 = .ok (.iconst 0, 1) := by decide +kernel
theorem dX2_unpack_1 : decode cX2_unpack 1 = .ok (.istore_n 2, 1) := by decide +kernel
theorem dX2_unpack_2 : decode cX2_unpack 2 = .ok (.iload_n 2, 1) := by decide +kernel
theorem dX2_unpack_3 : decode cX2_unpack 3 = .ok (.aload_n 0, 1) := by decide +kernel
theorem dX2_unpack_4 : decode cX2_unpack 4 = .ok (.getfield 31, 3) := by decide +kernel
theorem dX2_unpack_7 : decode cX2_unpack 7 = .ok (.if_icmp .ge 23, 3) := by decide +kernel
theorem dX2_unpack_10 : decode cX2_unpack 10 = .ok (.aload_n 0, 1) := by decide +kernel
theorem dX2_unpack_11 : decode cX2_unpack 11 = .ok (.getfield 19, 3) := by decide +kernel
theorem dX2_unpack_14 : decode cX2_unpack 14 = .ok (.iload_n 2, 1) := by decide +kernel
theorem dX2_unpack_15 : decode cX2_unpack 15 = .ok (.iload_n 1, 1) := by decide +kernel
theorem dX2_unpack_16 : decode cX2_unpack 16 = .ok (.iconst 4, 1) := by decide +kernel
theorem dX2_unpack_17 : decode cX2_unpack 17 = .ok (.iload_n 2, 1) := by decide +kernel
theorem dX2_unpack_18 : decode cX2_unpack 18 = .ok (.imul, 1) := by decide +kernel
theorem dX2_unpack_19 : decode cX2_unpack 19 = .ok (.iushr, 1) := by decide +kernel
theorem dX2_unpack_20 : decode cX2_unpack 20 = .ok (.bipush 15, 2) := by decide +kernel
theorem dX2_unpack_22 : decode cX2_unpack 22 = .ok (.iand, 1) := by decide +kernel
theorem dX2_unpack_23 : decode cX2_unpack 23 = .ok (.iastore, 1) := by decide +kernel
theorem dX2_unpack_24 : decode cX2_unpack 24 = .ok (.iinc 2 1, 3) := by decide +kernel
theorem dX2_unpack_27 : decode cX2_unpack 27 = .ok (.goto (-25), 3) := by decide +kernel
theorem dX2_unpack_30 : decode cX2_unpack 30 = .ok (.return_, 1) := by decide +kernel
theorem dX3_init_0 : decode cX3_init 0 = .ok (.aload_n 0, 1) := by decide +kernel
theorem dX3_init_1 : decode cX3_init 1 = .ok (.invokespecial 3, 3) := by decide +kernel
theorem dX3_init_4 : decode cX3_init 4 = .ok (.aload_n 0, 1) := by decide +kernel
theorem dX3_init_5 : decode cX3_init 5 = .ok (.bipush 8, 2) := by decide +kernel
theorem dX3_init_7 : decode cX3_init 7 = .ok (.newarray .int, 2) := by decide +kernel
theorem dX3_init_9 : decode cX3_init 9 = .ok (.putfield 9, 3) := by decide +kernel
theorem dX3_init_12 : decode cX3_init 12 = .ok (.aload_n 0, 1) := by decide +kernel
theorem dX3_init_13 : decode cX3_init 13 = .ok (.bipush 8, 2) := by decide +kernel
theorem dX3_init_15 : decode cX3_init 15 = .ok (.newarray .int, 2) := by decide +kernel
theorem dX3_init_17 : decode cX3_init 17 = .ok (.putfield 15, 3) := by decide +kernel
theorem dX3_init_20 : decode cX3_init 20 = .ok (.aload_n 0, 1) := by decide +kernel
theorem dX3_init_21 : decode cX3_init 21 = .ok (.bipush 8, 2) := by decide +kernel
theorem dX3_init_23 : decode cX3_init 23 = .ok (.newarray .int, 2) := by decide +kernel
theorem dX3_init_25 : decode cX3_init 25 = .ok (.putfield 18, 3) := by decide +kernel
theorem dX3_init_28 : decode cX3_init 28 = .ok (.aload_n 0, 1) := by decide +kernel
theorem dX3_init_29 : decode cX3_init 29 = .ok (.bipush 8, 2) := by decide +kernel
theorem dX3_init_31 : decode cX3_init 31 = .ok (.newarray .int, 2) := by decide +kernel
theorem dX3_init_33 : decode cX3_init 33 = .ok (.putfield 21, 3) := by decide +kernel
theorem dX3_init_36 : decode cX3_init 36 = .ok (.aload_n 0, 1) := by decide +kernel
theorem dX3_init_37 : decode cX3_init 37 = .ok (.bipush 64, 2) := by decide +kernel
theorem dX3_init_39 : decode cX3_init 39 = .ok (.newarray .long, 2) := by decide +kernel
theorem dX3_init_41 : decode cX3_init 41 = .ok (.putfield 24, 3) := by decide +kernel
theorem dX3_init_44 : decode cX3_init 44 = .ok (.return_, 1) := by decide +kernel
theorem dX3_layFrom_0 : decode cX3_layFrom 0 = .ok (.aload_n 0, 1) := by decide +kernel
theorem dX3_layFrom_1 : decode cX3_layFrom 1 = .ok (.aload_n 1, 1) := by decide +kernel
theorem dX3_layFrom_2 : decode cX3_layFrom 2 = .ok (.getfield 28, 3) := by decide +kernel
theorem dX3_layFrom_5 : decode cX3_layFrom 5 = .ok (.putfield 34, 3) := by decide +kernel
theorem dX3_layFrom_8 : decode cX3_layFrom 8 = .ok (.aload_n 0, 1) := by decide +kernel
theorem dX3_layFrom_9 : decode cX3_layFrom 9 = .ok (.iload_n 2, 1) := by decide +kernel
theorem dX3_layFrom_10 : decode cX3_layFrom 10 = .ok (.putfield 35, 3) := by decide +kernel
theorem dX3_layFrom_13 : decode cX3_layFrom 13 = .ok (.aload_n 0, 1) := by decide +kernel
theorem dX3_layFrom_14 : decode cX3_layFrom 14 = .ok (.iconst 0, 1) := by decide +kernel
theorem dX3_layFrom_15 : decode cX3_layFrom 15 = .ok (.putfield 38, 3) := by decide +kernel
theorem dX3_layFrom_18 : decode cX3_layFrom 18 = .ok (.aload_n 0, 1) := by decide +kernel
theorem dX3_layFrom_19 : decode cX3_layFrom 19 = .ok (.iconst 0, 1) := by decide +kernel
theorem dX3_layFrom_20 : decode cX3_layFrom 20 = .ok (.putfield 41, 3) := by decide +kernel
theorem dX3_layFrom_23 : decode cX3_layFrom 23 = .ok (.iconst 0, 1) := by decide +kernel
theorem dX3_layFrom_24 : decode cX3_layFrom 24 = .ok (.istore_n 3, 1) := by decide +kernel
theorem dX3_layFrom_25 : decode cX3_layFrom 25 = .ok (.iload_n 3, 1) := by decide +kernel
theorem dX3_layFrom_26 : decode cX3_layFrom 26 = .ok (.aload_n 0, 1) := by decide +kernel
theorem dX3_layFrom_27 : decode cX3_layFrom 27 = .ok (.getfield 34, 3) := by decide +kernel
theorem dX3_layFrom_30 : decode cX3_layFrom 30 = .ok (.if_icmp .ge 93, 3) := by decide +kernel
theorem dX3_layFrom_33 : decode cX3_layFrom 33 = .ok (.aload_n 0, 1) := by decide +kernel
theorem dX3_layFrom_34 : decode cX3_layFrom 34 = .ok (.getfield 9, 3) := by decide +kernel
theorem dX3_layFrom_37 : decode cX3_layFrom 37 = .ok (.iload_n 3, 1) := by decide +kernel
theorem dX3_layFrom_38 : decode cX3_layFrom 38 = .ok (.aload_n 1, 1) := by decide +kernel
theorem dX3_layFrom_39 : decode cX3_layFrom 39 = .ok (.getfield 44, 3) := by decide +kernel
theorem dX3_layFrom_42 : decode cX3_layFrom 42 = .ok (.iload_n 3, 1) := by decide +kernel
theorem dX3_layFrom_43 : decode cX3_layFrom 43 = .ok (.iaload, 1) := by decide +kernel
theorem dX3_layFrom_44 : decode cX3_layFrom 44 = .ok (.iastore, 1) := by decide +kernel
theorem dX3_layFrom_45 : decode cX3_layFrom 45 = .ok (.aload_n 0, 1) := by decide +kernel
theorem dX3_layFrom_46 : decode cX3_layFrom 46 = .ok (.getfield 15, 3) := by decide +kernel
theorem dX3_layFrom_49 : decode cX3_layFrom 49 = .ok (.iload_n 3, 1) := by decide +kernel
theorem dX3_layFrom_50 : decode cX3_layFrom 50 = .ok (.aload_n 1, 1) := by decide +kernel
theorem dX3_layFrom_51 : decode cX3_layFrom 51 = .ok (.getfield 45, 3) := by decide +kernel
theorem dX3_layFrom_54 : decode cX3_layFrom 54 = .ok (.iload_n 3, 1) := by decide +kernel
theorem dX3_layFrom_55 : decode cX3_layFrom 55 = .ok (.iaload, 1) := by decide +kernel
theorem dX3_layFrom_56 : decode cX3_layFrom 56 = .ok (.iastore, 1) := by decide +kernel
theorem dX3_layFrom_57 : decode cX3_layFrom 57 = .ok (.aload_n 0, 1) := by decide +kernel
theorem dX3_layFrom_58 : decode cX3_layFrom 58 = .ok (.getfield 18, 3) := by decide +kernel
theorem dX3_layFrom_61 : decode cX3_layFrom 61 = .ok (.iload_n 3, 1) := by decide +kernel
theorem dX3_layFrom_62 : decode cX3_layFrom 62 = .ok (.iload_n 3, 1) := by decide +kernel
theorem dX3_layFrom_63 : decode cX3_layFrom 63 = .ok (.iastore, 1) := by decide +kernel
theorem dX3_layFrom_64 : decode cX3_layFrom 64 = .ok (.aload_n 0, 1) := by decide +kernel
theorem dX3_layFrom_65 : decode cX3_layFrom 65 = .ok (.getfield 21, 3) := by decide +kernel
theorem dX3_layFrom_68 : decode cX3_layFrom 68 = .ok (.iload_n 3, 1) := by decide +kernel
theorem dX3_layFrom_69 : decode cX3_layFrom 69 = .ok (.aload_n 1, 1) := by decide +kernel
theorem dX3_layFrom_70 : decode cX3_layFrom 70 = .ok (.getfield 46, 3) := by decide +kernel
theorem dX3_layFrom_73 : decode cX3_layFrom 73 = .ok (.iload_n 3, 1) := by decide +kernel
theorem dX3_layFrom_74 : decode cX3_layFrom 74 = .ok (.iaload, 1) := by decide +kernel
theorem dX3_layFrom_75 : decode cX3_layFrom 75 = .ok (.iastore, 1) := by decide +kernel
theorem dX3_layFrom_76 : decode cX3_layFrom 76 = .ok (.iconst 0, 1) := by decide +kernel
theorem dX3_layFrom_77 : decode cX3_layFrom 77 = .ok (.istore 4, 2) := by decide +kernel
theorem dX3_layFrom_79 : decode cX3_layFrom 79 = .ok (.iload 4, 2) := by decide +kernel
theorem dX3_layFrom_81 : decode cX3_layFrom 81 = .ok (.aload_n 0, 1) := by decide +kernel
theorem dX3_layFrom_82 : decode cX3_layFrom 82 = .ok (.getfield 34, 3) := by decide +kernel
theorem dX3_layFrom_85 : decode cX3_layFrom 85 = .ok (.if_icmp .ge 32, 3) := by decide +kernel
theorem dX3_layFrom_88 : decode cX3_layFrom 88 = .ok (.aload_n 0, 1) := by decide +kernel
theorem dX3_layFrom_89 : decode cX3_layFrom 89 = .ok (.getfield 24, 3) := by decide +kernel
theorem dX3_layFrom_92 : decode cX3_layFrom 92 = .ok (.iload_n 3, 1) := by decide +kernel
theorem dX3_layFrom_93 : decode cX3_layFrom 93 = .ok (.bipush 8, 2) := by decide +kernel
theorem dX3_layFrom_95 : decode cX3_layFrom 95 = .ok (.imul, 1) := by decide +kernel
theorem dX3_layFrom_96 : decode cX3_layFrom 96 = .ok (.iload 4, 2) := by decide +kernel
theorem dX3_layFrom_98 : decode cX3_layFrom 98 = .ok (.iadd, 1) := by decide +kernel
theorem dX3_layFrom_99 : decode cX3_layFrom 99 = .ok (.iload_n 3, 1) := by decide +kernel
theorem dX3_layFrom_100 : decode cX3_layFrom 100 = .ok (.iload 4, 2) := by decide +kernel
theorem dX3_layFrom_102 : decode cX3_layFrom 102 = .ok (.if_icmp .ne 7, 3) := by decide +kernel
theorem dX3_layFrom_105 : decode cX3_layFrom 105 = .ok (.lconst 1, 1) := by decide +kernel
theorem dX3_layFrom_106 : decode cX3_layFrom 106 = .ok (.goto 4, 3) := by decide +kernel
theorem dX3_layFrom_109 : decode cX3_layFrom 109 = .ok (.lconst 0, 1) := by decide +kernel
theorem dX3_layFrom_110 : decode cX3_layFrom 110 = .ok (.lastore, 1) := by decide +kernel
theorem dX3_layFrom_111 : decode cX3_layFrom 111 = .ok (.iinc 4 1, 3) := by decide +kernel
theorem dX3_layFrom_114 : decode cX3_layFrom 114 = .ok (.goto (-35), 3) := by decide +kernel
theorem dX3_layFrom_117 : decode cX3_layFrom 117 = .ok (.iinc 3 1, 3) := by decide +kernel
theorem dX3_layFrom_120 : decode cX3_layFrom 120 = .ok (.goto (-95), 3) := by decide +kernel
theorem dX3_layFrom_123 : decode cX3_layFrom 123 = .ok (.return_, 1) := by decide +kernel
theorem dX3_copyFrom_0 : decode cX3_copyFrom 0 = .ok (.aload_n 0, 1) := by decide +kernel
theorem dX3_copyFrom_1 : decode cX3_copyFrom 1 = .ok (.aload_n 1, 1) := by decide +kernel
theorem dX3_copyFrom_2 : decode cX3_copyFrom 2 = .ok (.getfield 34, 3) := by decide +kernel
theorem dX3_copyFrom_5 : decode cX3_copyFrom 5 = .ok (.putfield 34, 3) := by decide +kernel
theorem dX3_copyFrom_8 : decode cX3_copyFrom 8 = .ok (.aload_n 0, 1) := by decide +kernel
theorem dX3_copyFrom_9 : decode cX3_copyFrom 9 = .ok (.aload_n 1, 1) := by decide +kernel
theorem dX3_copyFrom_10 : decode cX3_copyFrom 10 = .ok (.getfield 35, 3) := by decide +kernel
theorem dX3_copyFrom_13 : decode cX3_copyFrom 13 = .ok (.putfield 35, 3) := by decide +kernel
theorem dX3_copyFrom_16 : decode cX3_copyFrom 16 = .ok (.aload_n 0, 1) := by decide +kernel
theorem dX3_copyFrom_17 : decode cX3_copyFrom 17 = .ok (.aload_n 1, 1) := by decide +kernel
theorem dX3_copyFrom_18 : decode cX3_copyFrom 18 = .ok (.getfield 38, 3) := by decide +kernel
theorem dX3_copyFrom_21 : decode cX3_copyFrom 21 = .ok (.putfield 38, 3) := by decide +kernel
theorem dX3_copyFrom_24 : decode cX3_copyFrom 24 = .ok (.aload_n 0, 1) := by decide +kernel
theorem dX3_copyFrom_25 : decode cX3_copyFrom 25 = .ok (.aload_n 1, 1) := by decide +kernel
theorem dX3_copyFrom_26 : decode cX3_copyFrom 26 = .ok (.getfield 41, 3) := by decide +kernel
theorem dX3_copyFrom_29 : decode cX3_copyFrom 29 = .ok (.putfield 41, 3) := by decide +kernel
theorem dX3_copyFrom_32 : decode cX3_copyFrom 32 = .ok (.aload_n 1, 1) := by decide +kernel
theorem dX3_copyFrom_33 : decode cX3_copyFrom 33 = .ok (.getfield 9, 3) := by decide +kernel
theorem dX3_copyFrom_36 : decode cX3_copyFrom 36 = .ok (.iconst 0, 1) := by decide +kernel
theorem dX3_copyFrom_37 : decode cX3_copyFrom 37 = .ok (.aload_n 0, 1) := by decide +kernel
theorem dX3_copyFrom_38 : decode cX3_copyFrom 38 = .ok (.getfield 9, 3) := by decide +kernel
theorem dX3_copyFrom_41 : decode cX3_copyFrom 41 = .ok (.iconst 0, 1) := by decide +kernel
theorem dX3_copyFrom_42 : decode cX3_copyFrom 42 = .ok (.bipush 8, 2) := by decide +kernel
theorem dX3_copyFrom_44 : decode cX3_copyFrom 44 = .ok (.invokestatic 47, 3) := by decide +kernel
theorem dX3_copyFrom_47 : decode cX3_copyFrom 47 = .ok (.aload_n 1, 1) := by decide +kernel
theorem dX3_copyFrom_48 : decode cX3_copyFrom 48 = .ok (.getfield 15, 3) := by decide +kernel
theorem dX3_copyFrom_51 : decode cX3_copyFrom 51 = .ok (.iconst 0, 1) := by decide +kernel
theorem dX3_copyFrom_52 : decode cX3_copyFrom 52 = .ok (.aload_n 0, 1) := by decide +kernel
theorem dX3_copyFrom_53 : decode cX3_copyFrom 53 = .ok (.getfield 15, 3) := by decide +kernel
theorem dX3_copyFrom_56 : decode cX3_copyFrom 56 = .ok (.iconst 0, 1) := by decide +kernel
theorem dX3_copyFrom_57 : decode cX3_copyFrom 57 = .ok (.bipush 8, 2) := by decide +kernel
theorem dX3_copyFrom_59 : decode cX3_copyFrom 59 = .ok (.invokestatic 47, 3) := by decide +kernel
theorem dX3_copyFrom_62 : decode cX3_copyFrom 62 = .ok (.aload_n 1, 1) := by decide +kernel
theorem dX3_copyFrom_63 : decode cX3_copyFrom 63 = .ok (.getfield 18, 3) := by decide +kernel
theorem dX3_copyFrom_66 : decode cX3_copyFrom 66 = .ok (.iconst 0, 1) := by decide +kernel
theorem dX3_copyFrom_67 : decode cX3_copyFrom 67 = .ok (.aload_n 0, 1) := by decide +kernel
theorem dX3_copyFrom_68 : decode cX3_copyFrom 68 = .ok (.getfield 18, 3) := by decide +kernel
theorem dX3_copyFrom_71 : decode cX3_copyFrom 71 = .ok (.iconst 0, 1) := by decide +kernel
theorem dX3_copyFrom_72 : decode cX3_copyFrom 72 = .ok (.bipush 8, 2) := by decide +kernel
theorem dX3_copyFrom_74 : decode cX3_copyFrom 74 = .ok (.invokestatic 47, 3) := by decide +kernel
theorem dX3_copyFrom_77 : decode cX3_copyFrom 77 = .ok (.aload_n 1, 1) := by decide +kernel
theorem dX3_copyFrom_78 : decode cX3_copyFrom 78 = .ok (.getfield 21, 3) := by decide +kernel
theorem dX3_copyFrom_81 : decode cX3_copyFrom 81 = .ok (.iconst 0, 1) := by decide +kernel
theorem dX3_copyFrom_82 : decode cX3_copyFrom 82 = .ok (.aload_n 0, 1) := by decide +kernel
theorem dX3_copyFrom_83 : decode cX3_copyFrom 83 = .ok (.getfield 21, 3) := by decide +kernel
theorem dX3_copyFrom_86 : decode cX3_copyFrom 86 = .ok (.iconst 0, 1) := by decide +kernel
theorem dX3_copyFrom_87 : decode cX3_copyFrom 87 = .ok (.bipush 8, 2) := by decide +kernel
theorem dX3_copyFrom_89 : decode cX3_copyFrom 89 = .ok (.invokestatic 47, 3) := by decide +kernel
theorem dX3_copyFrom_92 : decode cX3_copyFrom 92 = .ok (.aload_n 1, 1) := by decide +kernel
theorem dX3_copyFrom_93 : decode cX3_copyFrom 93 = .ok (.getfield 24, 3) := by decide +kernel
theorem dX3_copyFrom_96 : decode cX3_copyFrom 96 = .ok (.iconst 0, 1) := by decide +kernel
theorem dX3_copyFrom_97 : decode cX3_copyFrom 97 = .ok (.aload_n 0, 1) := by decide +kernel
theorem dX3_copyFrom_98 : decode cX3_copyFrom 98 = .ok (.getfield 24, 3) := by decide +kernel
theorem dX3_copyFrom_101 : decode cX3_copyFrom 101 = .ok (.iconst 0, 1) := by decide +kernel
theorem dX3_copyFrom_102 : decode cX3_copyFrom 102 = .ok (.bipush 64, 2) := by decide +kernel
theorem dX3_copyFrom_104 : decode cX3_copyFrom 104 = .ok (.invokestatic 47, 3) := by decide +kernel
theorem dX3_copyFrom_107 : decode cX3_copyFrom 107 = .ok (.return_, 1) := by decide +kernel
theorem dX3_partedAt_0 : decode cX3_partedAt 0 = .ok (.iconst 0, 1) := by decide +kernel
theorem dX3_partedAt_1 : decode cX3_partedAt 1 = .ok (.istore_n 1, 1) := by decide +kernel
theorem dX3_partedAt_2 : decode cX3_partedAt 2 = .ok (.iconst 0, 1) := by decide +kernel
theorem dX3_partedAt_3 : decode cX3_partedAt 3 = .ok (.istore_n 2, 1) := by decide +kernel
theorem dX3_partedAt_4 : decode cX3_partedAt 4 = .ok (.iconst 1, 1) := by decide +kernel
theorem dX3_partedAt_5 : decode cX3_partedAt 5 = .ok (.istore_n 3, 1) := by decide +kernel
theorem dX3_partedAt_6 : decode cX3_partedAt 6 = .ok (.iload_n 3, 1) := by decide +kernel
theorem dX3_partedAt_7 : decode cX3_partedAt 7 = .ok (.aload_n 0, 1) := by decide +kernel
theorem dX3_partedAt_8 : decode cX3_partedAt 8 = .ok (.getfield 34, 3) := by decide +kernel
theorem dX3_partedAt_11 : decode cX3_partedAt 11 = .ok (.if_icmp .ge 42, 3) := by decide +kernel
theorem dX3_partedAt_14 : decode cX3_partedAt 14 = .ok (.iload_n 1, 1) := by decide +kernel
theorem dX3_partedAt_15 : decode cX3_partedAt 15 = .ok (.iconst 1, 1) := by decide +kernel
theorem dX3_partedAt_16 : decode cX3_partedAt 16 = .ok (.aload_n 0, 1) := by decide +kernel
theorem dX3_partedAt_17 : decode cX3_partedAt 17 = .ok (.getfield 18, 3) := by decide +kernel
theorem dX3_partedAt_20 : decode cX3_partedAt 20 = .ok (.iload_n 3, 1) := by decide +kernel
theorem dX3_partedAt_21 : decode cX3_partedAt 21 = .ok (.iconst 1, 1) := by decide +kernel
theorem dX3_partedAt_22 : decode cX3_partedAt 22 = .ok (.isub, 1) := by decide +kernel
theorem dX3_partedAt_23 : decode cX3_partedAt 23 = .ok (.iaload, 1) := by decide +kernel
theorem dX3_partedAt_24 : decode cX3_partedAt 24 = .ok (.ishl, 1) := by decide +kernel
theorem dX3_partedAt_25 : decode cX3_partedAt 25 = .ok (.ior, 1) := by decide +kernel
theorem dX3_partedAt_26 : decode cX3_partedAt 26 = .ok (.istore_n 1, 1) := by decide +kernel
theorem dX3_partedAt_27 : decode cX3_partedAt 27 = .ok (.iload_n 2, 1) := by decide +kernel
theorem dX3_partedAt_28 : decode cX3_partedAt 28 = .ok (.iconst 1, 1) := by decide +kernel
theorem dX3_partedAt_29 : decode cX3_partedAt 29 = .ok (.aload_n 0, 1) := by decide +kernel
theorem dX3_partedAt_30 : decode cX3_partedAt 30 = .ok (.getfield 21, 3) := by decide +kernel
theorem dX3_partedAt_33 : decode cX3_partedAt 33 = .ok (.iload_n 3, 1) := by decide +kernel
theorem dX3_partedAt_34 : decode cX3_partedAt 34 = .ok (.iconst 1, 1) := by decide +kernel
theorem dX3_partedAt_35 : decode cX3_partedAt 35 = .ok (.isub, 1) := by decide +kernel
theorem dX3_partedAt_36 : decode cX3_partedAt 36 = .ok (.iaload, 1) := by decide +kernel
theorem dX3_partedAt_37 : decode cX3_partedAt 37 = .ok (.ishl, 1) := by decide +kernel
theorem dX3_partedAt_38 : decode cX3_partedAt 38 = .ok (.ior, 1) := by decide +kernel
theorem dX3_partedAt_39 : decode cX3_partedAt 39 = .ok (.istore_n 2, 1) := by decide +kernel
theorem dX3_partedAt_40 : decode cX3_partedAt 40 = .ok (.iload_n 1, 1) := by decide +kernel
theorem dX3_partedAt_41 : decode cX3_partedAt 41 = .ok (.iload_n 2, 1) := by decide +kernel
theorem dX3_partedAt_42 : decode cX3_partedAt 42 = .ok (.if_icmp .ne 5, 3) := by decide +kernel
theorem dX3_partedAt_45 : decode cX3_partedAt 45 = .ok (.iload_n 3, 1) := by decide +kernel
theorem dX3_partedAt_46 : decode cX3_partedAt 46 = .ok (.ireturn, 1) := by decide +kernel
theorem dX3_partedAt_47 : decode cX3_partedAt 47 = .ok (.iinc 3 1, 3) := by decide +kernel
theorem dX3_partedAt_50 : decode cX3_partedAt 50 = .ok (.goto (-44), 3) := by decide +kernel
theorem dX3_partedAt_53 : decode cX3_partedAt 53 = .ok (.iconst 0, 1) := by decide +kernel
theorem dX3_partedAt_54 : decode cX3_partedAt 54 = .ok (.ireturn, 1) := by decide +kernel
theorem dX3_advance_0 : decode cX3_advance 0 = .ok (.aload_n 0, 1) := by decide +kernel
theorem dX3_advance_1 : decode cX3_advance 1 = .ok (.getfield 34, 3) := by decide +kernel
theorem dX3_advance_4 : decode cX3_advance 4 = .ok (.ifCond .ne 5, 3) := by decide +kernel
theorem dX3_advance_7 : decode cX3_advance 7 = .ok (.iconst (-1), 1) := by decide +kernel
theorem dX3_advance_8 : decode cX3_advance 8 = .ok (.ireturn, 1) := by decide +kernel
theorem dX3_advance_9 : decode cX3_advance 9 = .ok (.aload_n 0, 1) := by decide +kernel
theorem dX3_advance_10 : decode cX3_advance 10 = .ok (.getfield 18, 3) := by decide +kernel
theorem dX3_advance_13 : decode cX3_advance 13 = .ok (.aload_n 0, 1) := by decide +kernel
theorem dX3_advance_14 : decode cX3_advance 14 = .ok (.getfield 34, 3) := by decide +kernel
theorem dX3_advance_17 : decode cX3_advance 17 = .ok (.iconst 1, 1) := by decide +kernel
theorem dX3_advance_18 : decode cX3_advance 18 = .ok (.isub, 1) := by decide +kernel
theorem dX3_advance_19 : decode cX3_advance 19 = .ok (.iaload, 1) := by decide +kernel
theorem dX3_advance_20 : decode cX3_advance 20 = .ok (.istore_n 1, 1) := by decide +kernel
theorem dX3_advance_21 : decode cX3_advance 21 = .ok (.aload_n 0, 1) := by decide +kernel
theorem dX3_advance_22 : decode cX3_advance 22 = .ok (.getfield 21, 3) := by decide +kernel
theorem dX3_advance_25 : decode cX3_advance 25 = .ok (.aload_n 0, 1) := by decide +kernel
theorem dX3_advance_26 : decode cX3_advance 26 = .ok (.getfield 34, 3) := by decide +kernel
theorem dX3_advance_29 : decode cX3_advance 29 = .ok (.iconst 1, 1) := by decide +kernel
theorem dX3_advance_30 : decode cX3_advance 30 = .ok (.isub, 1) := by decide +kernel
theorem dX3_advance_31 : decode cX3_advance 31 = .ok (.iaload, 1) := by decide +kernel
theorem dX3_advance_32 : decode cX3_advance 32 = .ok (.istore_n 2, 1) := by decide +kernel
theorem dX3_advance_33 : decode cX3_advance 33 = .ok (.iload_n 1, 1) := by decide +kernel
theorem dX3_advance_34 : decode cX3_advance 34 = .ok (.iload_n 2, 1) := by decide +kernel
theorem dX3_advance_35 : decode cX3_advance 35 = .ok (.if_icmp .ne 6, 3) := by decide +kernel
theorem dX3_advance_38 : decode cX3_advance 38 = .ok (.bipush (-2), 2) := by decide +kernel
theorem dX3_advance_40 : decode cX3_advance 40 = .ok (.ireturn, 1) := by decide +kernel
theorem dX3_advance_41 : decode cX3_advance 41 = .ok (.aload_n 0, 1) := by decide +kernel
theorem dX3_advance_42 : decode cX3_advance 42 = .ok (.getfield 9, 3) := by decide +kernel
theorem dX3_advance_45 : decode cX3_advance 45 = .ok (.iload_n 1, 1) := by decide +kernel
theorem dX3_advance_46 : decode cX3_advance 46 = .ok (.iaload, 1) := by decide +kernel
theorem dX3_advance_47 : decode cX3_advance 47 = .ok (.aload_n 0, 1) := by decide +kernel
theorem dX3_advance_48 : decode cX3_advance 48 = .ok (.getfield 9, 3) := by decide +kernel
theorem dX3_advance_51 : decode cX3_advance 51 = .ok (.iload_n 2, 1) := by decide +kernel
theorem dX3_advance_52 : decode cX3_advance 52 = .ok (.iaload, 1) := by decide +kernel
theorem dX3_advance_53 : decode cX3_advance 53 = .ok (.isub, 1) := by decide +kernel
theorem dX3_advance_54 : decode cX3_advance 54 = .ok (.i2l, 1) := by decide +kernel
theorem dX3_advance_55 : decode cX3_advance 55 = .ok (.aload_n 0, 1) := by decide +kernel
theorem dX3_advance_56 : decode cX3_advance 56 = .ok (.getfield 15, 3) := by decide +kernel
theorem dX3_advance_59 : decode cX3_advance 59 = .ok (.iload_n 1, 1) := by decide +kernel
theorem dX3_advance_60 : decode cX3_advance 60 = .ok (.iaload, 1) := by decide +kernel
theorem dX3_advance_61 : decode cX3_advance 61 = .ok (.aload_n 0, 1) := by decide +kernel
theorem dX3_advance_62 : decode cX3_advance 62 = .ok (.getfield 15, 3) := by decide +kernel
theorem dX3_advance_65 : decode cX3_advance 65 = .ok (.iload_n 2, 1) := by decide +kernel
theorem dX3_advance_66 : decode cX3_advance 66 = .ok (.iaload, 1) := by decide +kernel
theorem dX3_advance_67 : decode cX3_advance 67 = .ok (.isub, 1) := by decide +kernel
theorem dX3_advance_68 : decode cX3_advance 68 = .ok (.i2l, 1) := by decide +kernel
theorem dX3_advance_69 : decode cX3_advance 69 = .ok (.aload_n 0, 1) := by decide +kernel
theorem dX3_advance_70 : decode cX3_advance 70 = .ok (.getfield 35, 3) := by decide +kernel
theorem dX3_advance_73 : decode cX3_advance 73 = .ok (.invokestatic 53, 3) := by decide +kernel
theorem dX3_advance_76 : decode cX3_advance 76 = .ok (.istore_n 3, 1) := by decide +kernel
theorem dX3_advance_77 : decode cX3_advance 77 = .ok (.iload_n 3, 1) := by decide +kernel
theorem dX3_advance_78 : decode cX3_advance 78 = .ok (.ifCond .ne 6, 3) := by decide +kernel
theorem dX3_advance_81 : decode cX3_advance 81 = .ok (.bipush (-3), 2) := by decide +kernel
theorem dX3_advance_83 : decode cX3_advance 83 = .ok (.ireturn, 1) := by decide +kernel
theorem dX3_advance_84 : decode cX3_advance 84 = .ok (.iload_n 3, 1) := by decide +kernel
theorem dX3_advance_85 : decode cX3_advance 85 = .ok (.ifCond .le 7, 3) := by decide +kernel
theorem dX3_advance_88 : decode cX3_advance 88 = .ok (.iconst 1, 1) := by decide +kernel
theorem dX3_advance_89 : decode cX3_advance 89 = .ok (.goto 4, 3) := by decide +kernel
theorem dX3_advance_92 : decode cX3_advance 92 = .ok (.iconst 0, 1) := by decide +kernel
theorem dX3_advance_93 : decode cX3_advance 93 = .ok (.istore 4, 2) := by decide +kernel
theorem dX3_advance_95 : decode cX3_advance 95 = .ok (.iload 4, 2) := by decide +kernel
theorem dX3_advance_97 : decode cX3_advance 97 = .ok (.ifCond .eq 7, 3) := by decide +kernel
theorem dX3_advance_100 : decode cX3_advance 100 = .ok (.iload_n 1, 1) := by decide +kernel
theorem dX3_advance_101 : decode cX3_advance 101 = .ok (.goto 4, 3) := by decide +kernel
theorem dX3_advance_104 : decode cX3_advance 104 = .ok (.iload_n 2, 1) := by decide +kernel
theorem dX3_advance_105 : decode cX3_advance 105 = .ok (.istore 5, 2) := by decide +kernel
theorem dX3_advance_107 : decode cX3_advance 107 = .ok (.iload 4, 2) := by decide +kernel
theorem dX3_advance_109 : decode cX3_advance 109 = .ok (.ifCond .eq 7, 3) := by decide +kernel
theorem dX3_advance_112 : decode cX3_advance 112 = .ok (.iload_n 2, 1) := by decide +kernel
theorem dX3_advance_113 : decode cX3_advance 113 = .ok (.goto 4, 3) := by decide +kernel
theorem dX3_advance_116 : decode cX3_advance 116 = .ok (.iload_n 1, 1) := by decide +kernel
theorem dX3_advance_117 : decode cX3_advance 117 = .ok (.istore 6, 2) := by decide +kernel
theorem dX3_advance_119 : decode cX3_advance 119 = .ok (.aload_n 0, 1) := by decide +kernel
theorem dX3_advance_120 : decode cX3_advance 120 = .ok (.iload 5, 2) := by decide +kernel
theorem dX3_advance_122 : decode cX3_advance 122 = .ok (.iload 6, 2) := by decide +kernel
theorem dX3_advance_124 : decode cX3_advance 124 = .ok (.invokevirtual 57, 3) := by decide +kernel
theorem dX3_advance_127 : decode cX3_advance 127 = .ok (.ifCond .eq 6, 3) := by decide +kernel
theorem dX3_advance_130 : decode cX3_advance 130 = .ok (.bipush (-4), 2) := by decide +kernel
theorem dX3_advance_132 : decode cX3_advance 132 = .ok (.ireturn, 1) := by decide +kernel
theorem dX3_advance_133 : decode cX3_advance 133 = .ok (.aload_n 0, 1) := by decide +kernel
theorem dX3_advance_134 : decode cX3_advance 134 = .ok (.iload 5, 2) := by decide +kernel
theorem dX3_advance_136 : decode cX3_advance 136 = .ok (.iload 6, 2) := by decide +kernel
theorem dX3_advance_138 : decode cX3_advance 138 = .ok (.invokevirtual 61, 3) := by decide +kernel
theorem dX3_advance_141 : decode cX3_advance 141 = .ok (.aload_n 0, 1) := by decide +kernel
theorem dX3_advance_142 : decode cX3_advance 142 = .ok (.iload 5, 2) := by decide +kernel
theorem dX3_advance_144 : decode cX3_advance 144 = .ok (.iload 4, 2) := by decide +kernel
theorem dX3_advance_146 : decode cX3_advance 146 = .ok (.ifCond .eq 10, 3) := by decide +kernel
theorem dX3_advance_149 : decode cX3_advance 149 = .ok (.aload_n 0, 1) := by decide +kernel
theorem dX3_advance_150 : decode cX3_advance 150 = .ok (.getfield 21, 3) := by decide +kernel
theorem dX3_advance_153 : decode cX3_advance 153 = .ok (.goto 7, 3) := by decide +kernel
theorem dX3_advance_156 : decode cX3_advance 156 = .ok (.aload_n 0, 1) := by decide +kernel
theorem dX3_advance_157 : decode cX3_advance 157 = .ok (.getfield 18, 3) := by decide +kernel
theorem dX3_advance_160 : decode cX3_advance 160 = .ok (.invokevirtual 65, 3) := by decide +kernel
theorem dX3_advance_163 : decode cX3_advance 163 = .ok (.aload_n 0, 1) := by decide +kernel
theorem dX3_advance_164 : decode cX3_advance 164 = .ok (.dup, 1) := by decide +kernel
theorem dX3_advance_165 : decode cX3_advance 165 = .ok (.getfield 38, 3) := by decide +kernel
theorem dX3_advance_168 : decode cX3_advance 168 = .ok (.iconst 1, 1) := by decide +kernel
theorem dX3_advance_169 : decode cX3_advance 169 = .ok (.iadd, 1) := by decide +kernel
theorem dX3_advance_170 : decode cX3_advance 170 = .ok (.putfield 38, 3) := by decide +kernel
theorem dX3_advance_173 : decode cX3_advance 173 = .ok (.aload_n 0, 1) := by decide +kernel
theorem dX3_advance_174 : decode cX3_advance 174 = .ok (.dup, 1) := by decide +kernel
theorem dX3_advance_175 : decode cX3_advance 175 = .ok (.getfield 41, 3) := by decide +kernel
theorem dX3_advance_178 : decode cX3_advance 178 = .ok (.iload 4, 2) := by decide +kernel
theorem dX3_advance_180 : decode cX3_advance 180 = .ok (.ifCond .eq 7, 3) := by decide +kernel
theorem dX3_advance_183 : decode cX3_advance 183 = .ok (.iconst 1, 1) := by decide +kernel
theorem dX3_advance_184 : decode cX3_advance 184 = .ok (.goto 4, 3) := by decide +kernel
theorem dX3_advance_187 : decode cX3_advance 187 = .ok (.iconst 0, 1) := by decide +kernel
theorem dX3_advance_188 : decode cX3_advance 188 = .ok (.iadd, 1) := by decide +kernel
theorem dX3_advance_189 : decode cX3_advance 189 = .ok (.putfield 41, 3) := by decide +kernel
theorem dX3_advance_192 : decode cX3_advance 192 = .ok (.iload 4, 2) := by decide +kernel
theorem dX3_advance_194 : decode cX3_advance 194 = .ok (.ifCond .eq 7, 3) := by decide +kernel
theorem dX3_advance_197 : decode cX3_advance 197 = .ok (.iconst 1, 1) := by decide +kernel
theorem dX3_advance_198 : decode cX3_advance 198 = .ok (.goto 4, 3) := by decide +kernel
theorem dX3_advance_201 : decode cX3_advance 201 = .ok (.iconst 0, 1) := by decide +kernel
theorem dX3_advance_202 : decode cX3_advance 202 = .ok (.ireturn, 1) := by decide +kernel
theorem dX3_hasOrdersOf_0 : decode cX3_hasOrdersOf 0 = .ok (.iconst 0, 1) := by decide +kernel
theorem dX3_hasOrdersOf_1 : decode cX3_hasOrdersOf 1 = .ok (.istore_n 2, 1) := by decide +kernel
theorem dX3_hasOrdersOf_2 : decode cX3_hasOrdersOf 2 = .ok (.iload_n 2, 1) := by decide +kernel
theorem dX3_hasOrdersOf_3 : decode cX3_hasOrdersOf 3 = .ok (.aload_n 0, 1) := by decide +kernel
theorem dX3_hasOrdersOf_4 : decode cX3_hasOrdersOf 4 = .ok (.getfield 34, 3) := by decide +kernel
theorem dX3_hasOrdersOf_7 : decode cX3_hasOrdersOf 7 = .ok (.if_icmp .ge 41, 3) := by decide +kernel
theorem dX3_hasOrdersOf_10 : decode cX3_hasOrdersOf 10 = .ok (.aload_n 0, 1) := by decide +kernel
theorem dX3_hasOrdersOf_11 : decode cX3_hasOrdersOf 11 = .ok (.getfield 18, 3) := by decide +kernel
theorem dX3_hasOrdersOf_14 : decode cX3_hasOrdersOf 14 = .ok (.iload_n 2, 1) := by decide +kernel
theorem dX3_hasOrdersOf_15 : decode cX3_hasOrdersOf 15 = .ok (.iaload, 1) := by decide +kernel
theorem dX3_hasOrdersOf_16 : decode cX3_hasOrdersOf 16 = .ok (.aload_n 1, 1) := by decide +kernel
theorem dX3_hasOrdersOf_17 : decode cX3_hasOrdersOf 17 = .ok (.getfield 18, 3) := by decide +kernel
theorem dX3_hasOrdersOf_20 : decode cX3_hasOrdersOf 20 = .ok (.iload_n 2, 1) := by decide +kernel
theorem dX3_hasOrdersOf_21 : decode cX3_hasOrdersOf 21 = .ok (.iaload, 1) := by decide +kernel
theorem dX3_hasOrdersOf_22 : decode cX3_hasOrdersOf 22 = .ok (.if_icmp .ne 18, 3) := by decide +kernel
theorem dX3_hasOrdersOf_25 : decode cX3_hasOrdersOf 25 = .ok (.aload_n 0, 1) := by decide +kernel
theorem dX3_hasOrdersOf_26 : decode cX3_hasOrdersOf 26 = .ok (.getfield 21, 3) := by decide +kernel
theorem dX3_hasOrdersOf_29 : decode cX3_hasOrdersOf 29 = .ok (.iload_n 2, 1) := by decide +kernel
theorem dX3_hasOrdersOf_30 : decode cX3_hasOrdersOf 30 = .ok (.iaload, 1) := by decide +kernel
theorem dX3_hasOrdersOf_31 : decode cX3_hasOrdersOf 31 = .ok (.aload_n 1, 1) := by decide +kernel
theorem dX3_hasOrdersOf_32 : decode cX3_hasOrdersOf 32 = .ok (.getfield 21, 3) := by decide +kernel
theorem dX3_hasOrdersOf_35 : decode cX3_hasOrdersOf 35 = .ok (.iload_n 2, 1) := by decide +kernel
theorem dX3_hasOrdersOf_36 : decode cX3_hasOrdersOf 36 = .ok (.iaload, 1) := by decide +kernel
theorem dX3_hasOrdersOf_37 : decode cX3_hasOrdersOf 37 = .ok (.if_icmp .eq 5, 3) := by decide +kernel
theorem dX3_hasOrdersOf_40 : decode cX3_hasOrdersOf 40 = .ok (.iconst 0, 1) := by decide +kernel
theorem dX3_hasOrdersOf_41 : decode cX3_hasOrdersOf 41 = .ok (.ireturn, 1) := by decide +kernel
theorem dX3_hasOrdersOf_42 : decode cX3_hasOrdersOf 42 = .ok (.iinc 2 1, 3) := by decide +kernel
theorem dX3_hasOrdersOf_45 : decode cX3_hasOrdersOf 45 = .ok (.goto (-43), 3) := by decide +kernel
theorem dX3_hasOrdersOf_48 : decode cX3_hasOrdersOf 48 = .ok (.iconst 1, 1) := by decide +kernel
theorem dX3_hasOrdersOf_49 : decode cX3_hasOrdersOf 49 = .ok (.ireturn, 1) := by decide +kernel
theorem dX3_hasSharesOf_0 : decode cX3_hasSharesOf 0 = .ok (.iconst 1, 1) := by decide +kernel
theorem dX3_hasSharesOf_1 : decode cX3_hasSharesOf 1 = .ok (.istore_n 2, 1) := by decide +kernel
theorem dX3_hasSharesOf_2 : decode cX3_hasSharesOf 2 = .ok (.iload_n 2, 1) := by decide +kernel
theorem dX3_hasSharesOf_3 : decode cX3_hasSharesOf 3 = .ok (.aload_n 0, 1) := by decide +kernel
theorem dX3_hasSharesOf_4 : decode cX3_hasSharesOf 4 = .ok (.getfield 34, 3) := by decide +kernel
theorem dX3_hasSharesOf_7 : decode cX3_hasSharesOf 7 = .ok (.if_icmp .ge 43, 3) := by decide +kernel
theorem dX3_hasSharesOf_10 : decode cX3_hasSharesOf 10 = .ok (.aload_n 0, 1) := by decide +kernel
theorem dX3_hasSharesOf_11 : decode cX3_hasSharesOf 11 = .ok (.iload_n 2, 1) := by decide +kernel
theorem dX3_hasSharesOf_12 : decode cX3_hasSharesOf 12 = .ok (.aload_n 1, 1) := by decide +kernel
theorem dX3_hasSharesOf_13 : decode cX3_hasSharesOf 13 = .ok (.invokevirtual 69, 3) := by decide +kernel
theorem dX3_hasSharesOf_16 : decode cX3_hasSharesOf 16 = .ok (.aload_n 1, 1) := by decide +kernel
theorem dX3_hasSharesOf_17 : decode cX3_hasSharesOf 17 = .ok (.iload_n 2, 1) := by decide +kernel
theorem dX3_hasSharesOf_18 : decode cX3_hasSharesOf 18 = .ok (.aload_n 0, 1) := by decide +kernel
theorem dX3_hasSharesOf_19 : decode cX3_hasSharesOf 19 = .ok (.invokevirtual 69, 3) := by decide +kernel
theorem dX3_hasSharesOf_22 : decode cX3_hasSharesOf 22 = .ok (.lcmp, 1) := by decide +kernel
theorem dX3_hasSharesOf_23 : decode cX3_hasSharesOf 23 = .ok (.ifCond .ne 19, 3) := by decide +kernel
theorem dX3_hasSharesOf_26 : decode cX3_hasSharesOf 26 = .ok (.aload_n 0, 1) := by decide +kernel
theorem dX3_hasSharesOf_27 : decode cX3_hasSharesOf 27 = .ok (.iload_n 2, 1) := by decide +kernel
theorem dX3_hasSharesOf_28 : decode cX3_hasSharesOf 28 = .ok (.aload_n 1, 1) := by decide +kernel
theorem dX3_hasSharesOf_29 : decode cX3_hasSharesOf 29 = .ok (.invokevirtual 73, 3) := by decide +kernel
theorem dX3_hasSharesOf_32 : decode cX3_hasSharesOf 32 = .ok (.aload_n 1, 1) := by decide +kernel
theorem dX3_hasSharesOf_33 : decode cX3_hasSharesOf 33 = .ok (.iload_n 2, 1) := by decide +kernel
theorem dX3_hasSharesOf_34 : decode cX3_hasSharesOf 34 = .ok (.aload_n 0, 1) := by decide +kernel
theorem dX3_hasSharesOf_35 : decode cX3_hasSharesOf 35 = .ok (.invokevirtual 73, 3) := by decide +kernel
theorem dX3_hasSharesOf_38 : decode cX3_hasSharesOf 38 = .ok (.lcmp, 1) := by decide +kernel
theorem dX3_hasSharesOf_39 : decode cX3_hasSharesOf 39 = .ok (.ifCond .eq 5, 3) := by decide +kernel
theorem dX3_hasSharesOf_42 : decode cX3_hasSharesOf 42 = .ok (.iconst 0, 1) := by decide +kernel
theorem dX3_hasSharesOf_43 : decode cX3_hasSharesOf 43 = .ok (.ireturn, 1) := by decide +kernel
theorem dX3_hasSharesOf_44 : decode cX3_hasSharesOf 44 = .ok (.iinc 2 1, 3) := by decide +kernel
theorem dX3_hasSharesOf_47 : decode cX3_hasSharesOf 47 = .ok (.goto (-45), 3) := by decide +kernel
theorem dX3_hasSharesOf_50 : decode cX3_hasSharesOf 50 = .ok (.iconst 1, 1) := by decide +kernel
theorem dX3_hasSharesOf_51 : decode cX3_hasSharesOf 51 = .ok (.ireturn, 1) := by decide +kernel
theorem dX3_productA_0 : decode cX3_productA 0 = .ok (.aload_n 0, 1) := by decide +kernel
theorem dX3_productA_1 : decode cX3_productA 1 = .ok (.getfield 9, 3) := by decide +kernel
theorem dX3_productA_4 : decode cX3_productA 4 = .ok (.iload_n 1, 1) := by decide +kernel
theorem dX3_productA_5 : decode cX3_productA 5 = .ok (.iaload, 1) := by decide +kernel
theorem dX3_productA_6 : decode cX3_productA 6 = .ok (.i2l, 1) := by decide +kernel
theorem dX3_productA_7 : decode cX3_productA 7 = .ok (.aload_n 2, 1) := by decide +kernel
theorem dX3_productA_8 : decode cX3_productA 8 = .ok (.getfield 9, 3) := by decide +kernel
theorem dX3_productA_11 : decode cX3_productA 11 = .ok (.iconst 0, 1) := by decide +kernel
theorem dX3_productA_12 : decode cX3_productA 12 = .ok (.iaload, 1) := by decide +kernel
theorem dX3_productA_13 : decode cX3_productA 13 = .ok (.i2l, 1) := by decide +kernel
theorem dX3_productA_14 : decode cX3_productA 14 = .ok (.lmul, 1) := by decide +kernel
theorem dX3_productA_15 : decode cX3_productA 15 = .ok (.aload_n 0, 1) := by decide +kernel
theorem dX3_productA_16 : decode cX3_productA 16 = .ok (.getfield 35, 3) := by decide +kernel
theorem dX3_productA_19 : decode cX3_productA 19 = .ok (.i2l, 1) := by decide +kernel
theorem dX3_productA_20 : decode cX3_productA 20 = .ok (.aload_n 0, 1) := by decide +kernel
theorem dX3_productA_21 : decode cX3_productA 21 = .ok (.getfield 15, 3) := by decide +kernel
theorem dX3_productA_24 : decode cX3_productA 24 = .ok (.iload_n 1, 1) := by decide +kernel
theorem dX3_productA_25 : decode cX3_productA 25 = .ok (.iaload, 1) := by decide +kernel
theorem dX3_productA_26 : decode cX3_productA 26 = .ok (.i2l, 1) := by decide +kernel
theorem dX3_productA_27 : decode cX3_productA 27 = .ok (.lmul, 1) := by decide +kernel
theorem dX3_productA_28 : decode cX3_productA 28 = .ok (.aload_n 2, 1) := by decide +kernel
theorem dX3_productA_29 : decode cX3_productA 29 = .ok (.getfield 15, 3) := by decide +kernel
theorem dX3_productA_32 : decode cX3_productA 32 = .ok (.iconst 0, 1) := by decide +kernel
theorem dX3_productA_33 : decode cX3_productA 33 = .ok (.iaload, 1) := by decide +kernel
theorem dX3_productA_34 : decode cX3_productA 34 = .ok (.i2l, 1) := by decide +kernel
theorem dX3_productA_35 : decode cX3_productA 35 = .ok (.lmul, 1) := by decide +kernel
theorem dX3_productA_36 : decode cX3_productA 36 = .ok (.ladd, 1) := by decide +kernel
theorem dX3_productA_37 : decode cX3_productA 37 = .ok (.lreturn, 1) := by decide +kernel
theorem dX3_productB_0 : decode cX3_productB 0 = .ok (.aload_n 0, 1) := by decide +kernel
theorem dX3_productB_1 : decode cX3_productB 1 = .ok (.getfield 9, 3) := by decide +kernel
theorem dX3_productB_4 : decode cX3_productB 4 = .ok (.iload_n 1, 1) := by decide +kernel
theorem dX3_productB_5 : decode cX3_productB 5 = .ok (.iaload, 1) := by decide +kernel
theorem dX3_productB_6 : decode cX3_productB 6 = .ok (.i2l, 1) := by decide +kernel
theorem dX3_productB_7 : decode cX3_productB 7 = .ok (.aload_n 2, 1) := by decide +kernel
theorem dX3_productB_8 : decode cX3_productB 8 = .ok (.getfield 15, 3) := by decide +kernel
theorem dX3_productB_11 : decode cX3_productB 11 = .ok (.iconst 0, 1) := by decide +kernel
theorem dX3_productB_12 : decode cX3_productB 12 = .ok (.iaload, 1) := by decide +kernel
theorem dX3_productB_13 : decode cX3_productB 13 = .ok (.i2l, 1) := by decide +kernel
theorem dX3_productB_14 : decode cX3_productB 14 = .ok (.lmul, 1) := by decide +kernel
theorem dX3_productB_15 : decode cX3_productB 15 = .ok (.aload_n 0, 1) := by decide +kernel
theorem dX3_productB_16 : decode cX3_productB 16 = .ok (.getfield 15, 3) := by decide +kernel
theorem dX3_productB_19 : decode cX3_productB 19 = .ok (.iload_n 1, 1) := by decide +kernel
theorem dX3_productB_20 : decode cX3_productB 20 = .ok (.iaload, 1) := by decide +kernel
theorem dX3_productB_21 : decode cX3_productB 21 = .ok (.i2l, 1) := by decide +kernel
theorem dX3_productB_22 : decode cX3_productB 22 = .ok (.aload_n 2, 1) := by decide +kernel
theorem dX3_productB_23 : decode cX3_productB 23 = .ok (.getfield 9, 3) := by decide +kernel
theorem dX3_productB_26 : decode cX3_productB 26 = .ok (.iconst 0, 1) := by decide +kernel
theorem dX3_productB_27 : decode cX3_productB 27 = .ok (.iaload, 1) := by decide +kernel
theorem dX3_productB_28 : decode cX3_productB 28 = .ok (.i2l, 1) := by decide +kernel
theorem dX3_productB_29 : decode cX3_productB 29 = .ok (.lmul, 1) := by decide +kernel
theorem dX3_productB_30 : decode cX3_productB 30 = .ok (.ladd, 1) := by decide +kernel
theorem dX3_productB_31 : decode cX3_productB 31 = .ok (.lreturn, 1) := by decide +kernel
theorem dX3_isSpentBy_0 : decode cX3_isSpentBy 0 = .ok (.aload_n 0, 1) := by decide +kernel
theorem dX3_isSpentBy_1 : decode cX3_isSpentBy 1 = .ok (.getfield 9, 3) := by decide +kernel
theorem dX3_isSpentBy_4 : decode cX3_isSpentBy 4 = .ok (.iload_n 1, 1) := by decide +kernel
theorem dX3_isSpentBy_5 : decode cX3_isSpentBy 5 = .ok (.iaload, 1) := by decide +kernel
theorem dX3_isSpentBy_6 : decode cX3_isSpentBy 6 = .ok (.aload_n 0, 1) := by decide +kernel
theorem dX3_isSpentBy_7 : decode cX3_isSpentBy 7 = .ok (.getfield 9, 3) := by decide +kernel
theorem dX3_isSpentBy_10 : decode cX3_isSpentBy 10 = .ok (.iload_n 2, 1) := by decide +kernel
theorem dX3_isSpentBy_11 : decode cX3_isSpentBy 11 = .ok (.iaload, 1) := by decide +kernel
theorem dX3_isSpentBy_12 : decode cX3_isSpentBy 12 = .ok (.isub, 1) := by decide +kernel
theorem dX3_isSpentBy_13 : decode cX3_isSpentBy 13 = .ok (.i2l, 1) := by decide +kernel
theorem dX3_isSpentBy_14 : decode cX3_isSpentBy 14 = .ok (.sipush 16384, 3) := by decide +kernel
theorem dX3_isSpentBy_17 : decode cX3_isSpentBy 17 = .ok (.invokestatic 76, 3) := by decide +kernel
theorem dX3_isSpentBy_20 : decode cX3_isSpentBy 20 = .ok (.ifCond .eq 26, 3) := by decide +kernel
theorem dX3_isSpentBy_23 : decode cX3_isSpentBy 23 = .ok (.aload_n 0, 1) := by decide +kernel
theorem dX3_isSpentBy_24 : decode cX3_isSpentBy 24 = .ok (.getfield 15, 3) := by decide +kernel
theorem dX3_isSpentBy_27 : decode cX3_isSpentBy 27 = .ok (.iload_n 1, 1) := by decide +kernel
theorem dX3_isSpentBy_28 : decode cX3_isSpentBy 28 = .ok (.iaload, 1) := by decide +kernel
theorem dX3_isSpentBy_29 : decode cX3_isSpentBy 29 = .ok (.aload_n 0, 1) := by decide +kernel
theorem dX3_isSpentBy_30 : decode cX3_isSpentBy 30 = .ok (.getfield 15, 3) := by decide +kernel
theorem dX3_isSpentBy_33 : decode cX3_isSpentBy 33 = .ok (.iload_n 2, 1) := by decide +kernel
theorem dX3_isSpentBy_34 : decode cX3_isSpentBy 34 = .ok (.iaload, 1) := by decide +kernel
theorem dX3_isSpentBy_35 : decode cX3_isSpentBy 35 = .ok (.isub, 1) := by decide +kernel
theorem dX3_isSpentBy_36 : decode cX3_isSpentBy 36 = .ok (.i2l, 1) := by decide +kernel
theorem dX3_isSpentBy_37 : decode cX3_isSpentBy 37 = .ok (.sipush 16384, 3) := by decide +kernel
theorem dX3_isSpentBy_40 : decode cX3_isSpentBy 40 = .ok (.invokestatic 76, 3) := by decide +kernel
theorem dX3_isSpentBy_43 : decode cX3_isSpentBy 43 = .ok (.ifCond .ne 5, 3) := by decide +kernel
theorem dX3_isSpentBy_46 : decode cX3_isSpentBy 46 = .ok (.iconst 1, 1) := by decide +kernel
theorem dX3_isSpentBy_47 : decode cX3_isSpentBy 47 = .ok (.ireturn, 1) := by decide +kernel
theorem dX3_isSpentBy_48 : decode cX3_isSpentBy 48 = .ok (.iconst 0, 1) := by decide +kernel
theorem dX3_isSpentBy_49 : decode cX3_isSpentBy 49 = .ok (.istore_n 3, 1) := by decide +kernel
theorem dX3_isSpentBy_50 : decode cX3_isSpentBy 50 = .ok (.iload_n 3, 1) := by decide +kernel
theorem dX3_isSpentBy_51 : decode cX3_isSpentBy 51 = .ok (.aload_n 0, 1) := by decide +kernel
theorem dX3_isSpentBy_52 : decode cX3_isSpentBy 52 = .ok (.getfield 34, 3) := by decide +kernel
theorem dX3_isSpentBy_55 : decode cX3_isSpentBy 55 = .ok (.if_icmp .ge 43, 3) := by decide +kernel
theorem dX3_isSpentBy_58 : decode cX3_isSpentBy 58 = .ok (.iload_n 3, 1) := by decide +kernel
theorem dX3_isSpentBy_59 : decode cX3_isSpentBy 59 = .ok (.bipush 8, 2) := by decide +kernel
theorem dX3_isSpentBy_61 : decode cX3_isSpentBy 61 = .ok (.imul, 1) := by decide +kernel
theorem dX3_isSpentBy_62 : decode cX3_isSpentBy 62 = .ok (.istore 4, 2) := by decide +kernel
theorem dX3_isSpentBy_64 : decode cX3_isSpentBy 64 = .ok (.aload_n 0, 1) := by decide +kernel
theorem dX3_isSpentBy_65 : decode cX3_isSpentBy 65 = .ok (.getfield 24, 3) := by decide +kernel
theorem dX3_isSpentBy_68 : decode cX3_isSpentBy 68 = .ok (.iload 4, 2) := by decide +kernel
theorem dX3_isSpentBy_70 : decode cX3_isSpentBy 70 = .ok (.iload_n 1, 1) := by decide +kernel
theorem dX3_isSpentBy_71 : decode cX3_isSpentBy 71 = .ok (.iadd, 1) := by decide +kernel
theorem dX3_isSpentBy_72 : decode cX3_isSpentBy 72 = .ok (.laload, 1) := by decide +kernel
theorem dX3_isSpentBy_73 : decode cX3_isSpentBy 73 = .ok (.aload_n 0, 1) := by decide +kernel
theorem dX3_isSpentBy_74 : decode cX3_isSpentBy 74 = .ok (.getfield 24, 3) := by decide +kernel
theorem dX3_isSpentBy_77 : decode cX3_isSpentBy 77 = .ok (.iload 4, 2) := by decide +kernel
theorem dX3_isSpentBy_79 : decode cX3_isSpentBy 79 = .ok (.iload_n 2, 1) := by decide +kernel
theorem dX3_isSpentBy_80 : decode cX3_isSpentBy 80 = .ok (.iadd, 1) := by decide +kernel
theorem dX3_isSpentBy_81 : decode cX3_isSpentBy 81 = .ok (.laload, 1) := by decide +kernel
theorem dX3_isSpentBy_82 : decode cX3_isSpentBy 82 = .ok (.ladd, 1) := by decide +kernel
theorem dX3_isSpentBy_83 : decode cX3_isSpentBy 83 = .ok (.ldc2_w 80, 3) := by decide +kernel
theorem dX3_isSpentBy_86 : decode cX3_isSpentBy 86 = .ok (.lcmp, 1) := by decide +kernel
theorem dX3_isSpentBy_87 : decode cX3_isSpentBy 87 = .ok (.ifCond .le 5, 3) := by decide +kernel
theorem dX3_isSpentBy_90 : decode cX3_isSpentBy 90 = .ok (.iconst 1, 1) := by decide +kernel
theorem dX3_isSpentBy_91 : decode cX3_isSpentBy 91 = .ok (.ireturn, 1) := by decide +kernel
theorem dX3_isSpentBy_92 : decode cX3_isSpentBy 92 = .ok (.iinc 3 1, 3) := by decide +kernel
theorem dX3_isSpentBy_95 : decode cX3_isSpentBy 95 = .ok (.goto (-45), 3) := by decide +kernel
theorem dX3_isSpentBy_98 : decode cX3_isSpentBy 98 = .ok (.iconst 0, 1) := by decide +kernel
theorem dX3_isSpentBy_99 : decode cX3_isSpentBy 99 = .ok (.ireturn, 1) := by decide +kernel
theorem dX3_shorten_0 : decode cX3_shorten 0 = .ok (.aload_n 0, 1) := by decide +kernel
theorem dX3_shorten_1 : decode cX3_shorten 1 = .ok (.getfield 9, 3) := by decide +kernel
theorem dX3_shorten_4 : decode cX3_shorten 4 = .ok (.iload_n 1, 1) := by decide +kernel
theorem dX3_shorten_5 : decode cX3_shorten 5 = .ok (.dup2, 1) := by decide +kernel
theorem dX3_shorten_6 : decode cX3_shorten 6 = .ok (.iaload, 1) := by decide +kernel
theorem dX3_shorten_7 : decode cX3_shorten 7 = .ok (.aload_n 0, 1) := by decide +kernel
theorem dX3_shorten_8 : decode cX3_shorten 8 = .ok (.getfield 9, 3) := by decide +kernel
theorem dX3_shorten_11 : decode cX3_shorten 11 = .ok (.iload_n 2, 1) := by decide +kernel
theorem dX3_shorten_12 : decode cX3_shorten 12 = .ok (.iaload, 1) := by decide +kernel
theorem dX3_shorten_13 : decode cX3_shorten 13 = .ok (.isub, 1) := by decide +kernel
theorem dX3_shorten_14 : decode cX3_shorten 14 = .ok (.iastore, 1) := by decide +kernel
theorem dX3_shorten_15 : decode cX3_shorten 15 = .ok (.aload_n 0, 1) := by decide +kernel
theorem dX3_shorten_16 : decode cX3_shorten 16 = .ok (.getfield 15, 3) := by decide +kernel
theorem dX3_shorten_19 : decode cX3_shorten 19 = .ok (.iload_n 1, 1) := by decide +kernel
theorem dX3_shorten_20 : decode cX3_shorten 20 = .ok (.dup2, 1) := by decide +kernel
theorem dX3_shorten_21 : decode cX3_shorten 21 = .ok (.iaload, 1) := by decide +kernel
theorem dX3_shorten_22 : decode cX3_shorten 22 = .ok (.aload_n 0, 1) := by decide +kernel
theorem dX3_shorten_23 : decode cX3_shorten 23 = .ok (.getfield 15, 3) := by decide +kernel
theorem dX3_shorten_26 : decode cX3_shorten 26 = .ok (.iload_n 2, 1) := by decide +kernel
theorem dX3_shorten_27 : decode cX3_shorten 27 = .ok (.iaload, 1) := by decide +kernel
theorem dX3_shorten_28 : decode cX3_shorten 28 = .ok (.isub, 1) := by decide +kernel
theorem dX3_shorten_29 : decode cX3_shorten 29 = .ok (.iastore, 1) := by decide +kernel
theorem dX3_shorten_30 : decode cX3_shorten 30 = .ok (.iconst 0, 1) := by decide +kernel
theorem dX3_shorten_31 : decode cX3_shorten 31 = .ok (.istore_n 3, 1) := by decide +kernel
theorem dX3_shorten_32 : decode cX3_shorten 32 = .ok (.iload_n 3, 1) := by decide +kernel
theorem dX3_shorten_33 : decode cX3_shorten 33 = .ok (.aload_n 0, 1) := by decide +kernel
theorem dX3_shorten_34 : decode cX3_shorten 34 = .ok (.getfield 34, 3) := by decide +kernel
theorem dX3_shorten_37 : decode cX3_shorten 37 = .ok (.if_icmp .ge 36, 3) := by decide +kernel
theorem dX3_shorten_40 : decode cX3_shorten 40 = .ok (.iload_n 3, 1) := by decide +kernel
theorem dX3_shorten_41 : decode cX3_shorten 41 = .ok (.bipush 8, 2) := by decide +kernel
theorem dX3_shorten_43 : decode cX3_shorten 43 = .ok (.imul, 1) := by decide +kernel
theorem dX3_shorten_44 : decode cX3_shorten 44 = .ok (.istore 4, 2) := by decide +kernel
theorem dX3_shorten_46 : decode cX3_shorten 46 = .ok (.aload_n 0, 1) := by decide +kernel
theorem dX3_shorten_47 : decode cX3_shorten 47 = .ok (.getfield 24, 3) := by decide +kernel
theorem dX3_shorten_50 : decode cX3_shorten 50 = .ok (.iload 4, 2) := by decide +kernel
theorem dX3_shorten_52 : decode cX3_shorten 52 = .ok (.iload_n 2, 1) := by decide +kernel
theorem dX3_shorten_53 : decode cX3_shorten 53 = .ok (.iadd, 1) := by decide +kernel
theorem dX3_shorten_54 : decode cX3_shorten 54 = .ok (.dup2, 1) := by decide +kernel
theorem dX3_shorten_55 : decode cX3_shorten 55 = .ok (.laload, 1) := by decide +kernel
theorem dX3_shorten_56 : decode cX3_shorten 56 = .ok (.aload_n 0, 1) := by decide +kernel
theorem dX3_shorten_57 : decode cX3_shorten 57 = .ok (.getfield 24, 3) := by decide +kernel
theorem dX3_shorten_60 : decode cX3_shorten 60 = .ok (.iload 4, 2) := by decide +kernel
theorem dX3_shorten_62 : decode cX3_shorten 62 = .ok (.iload_n 1, 1) := by decide +kernel
theorem dX3_shorten_63 : decode cX3_shorten 63 = .ok (.iadd, 1) := by decide +kernel
theorem dX3_shorten_64 : decode cX3_shorten 64 = .ok (.laload, 1) := by decide +kernel
theorem dX3_shorten_65 : decode cX3_shorten 65 = .ok (.ladd, 1) := by decide +kernel
theorem dX3_shorten_66 : decode cX3_shorten 66 = .ok (.lastore, 1) := by decide +kernel
theorem dX3_shorten_67 : decode cX3_shorten 67 = .ok (.iinc 3 1, 3) := by decide +kernel
theorem dX3_shorten_70 : decode cX3_shorten 70 = .ok (.goto (-38), 3) := by decide +kernel
theorem dX3_shorten_73 : decode cX3_shorten 73 = .ok (.return_, 1) := by decide +kernel
theorem dX3_bringLastBehind_0 : decode cX3_bringLastBehind 0 = .ok (.aload_n 2, 1) := by decide +kernel
theorem dX3_bringLastBehind_1 : decode cX3_bringLastBehind 1 = .ok (.aload_n 0, 1) := by decide +kernel
theorem dX3_bringLastBehind_2 : decode cX3_bringLastBehind 2 = .ok (.getfield 34, 3) := by decide +kernel
theorem dX3_bringLastBehind_5 : decode cX3_bringLastBehind 5 = .ok (.iconst 1, 1) := by decide +kernel
theorem dX3_bringLastBehind_6 : decode cX3_bringLastBehind 6 = .ok (.isub, 1) := by decide +kernel
theorem dX3_bringLastBehind_7 : decode cX3_bringLastBehind 7 = .ok (.iaload, 1) := by decide +kernel
theorem dX3_bringLastBehind_8 : decode cX3_bringLastBehind 8 = .ok (.istore_n 3, 1) := by decide +kernel
theorem dX3_bringLastBehind_9 : decode cX3_bringLastBehind 9 = .ok (.aload_n 0, 1) := by decide +kernel
theorem dX3_bringLastBehind_10 : decode cX3_bringLastBehind 10 = .ok (.getfield 34, 3) := by decide +kernel
theorem dX3_bringLastBehind_13 : decode cX3_bringLastBehind 13 = .ok (.iconst 1, 1) := by decide +kernel
theorem dX3_bringLastBehind_14 : decode cX3_bringLastBehind 14 = .ok (.isub, 1) := by decide +kernel
theorem dX3_bringLastBehind_15 : decode cX3_bringLastBehind 15 = .ok (.istore 4, 2) := by decide +kernel
theorem dX3_bringLastBehind_17 : decode cX3_bringLastBehind 17 = .ok (.iload 4, 2) := by decide +kernel
theorem dX3_bringLastBehind_19 : decode cX3_bringLastBehind 19 = .ok (.ifCond .le 29, 3) := by decide +kernel
theorem dX3_bringLastBehind_22 : decode cX3_bringLastBehind 22 = .ok (.aload_n 2, 1) := by decide +kernel
theorem dX3_bringLastBehind_23 : decode cX3_bringLastBehind 23 = .ok (.iload 4, 2) := by decide +kernel
theorem dX3_bringLastBehind_25 : decode cX3_bringLastBehind 25 = .ok (.iconst 1, 1) := by decide +kernel
theorem dX3_bringLastBehind_26 : decode cX3_bringLastBehind 26 = .ok (.isub, 1) := by decide +kernel
theorem dX3_bringLastBehind_27 : decode cX3_bringLastBehind 27 = .ok (.iaload, 1) := by decide +kernel
theorem dX3_bringLastBehind_28 : decode cX3_bringLastBehind 28 = .ok (.iload_n 1, 1) := by decide +kernel
theorem dX3_bringLastBehind_29 : decode cX3_bringLastBehind 29 = .ok (.if_icmp .eq 19, 3) := by decide +kernel
theorem dX3_bringLastBehind_32 : decode cX3_bringLastBehind 32 = .ok (.aload_n 2, 1) := by decide +kernel
theorem dX3_bringLastBehind_33 : decode cX3_bringLastBehind 33 = .ok (.iload 4, 2) := by decide +kernel
theorem dX3_bringLastBehind_35 : decode cX3_bringLastBehind 35 = .ok (.aload_n 2, 1) := by decide +kernel
theorem dX3_bringLastBehind_36 : decode cX3_bringLastBehind 36 = .ok (.iload 4, 2) := by decide +kernel
theorem dX3_bringLastBehind_38 : decode cX3_bringLastBehind 38 = .ok (.iconst 1, 1) := by decide +kernel
theorem dX3_bringLastBehind_39 : decode cX3_bringLastBehind 39 = .ok (.isub, 1) := by decide +kernel
theorem dX3_bringLastBehind_40 : decode cX3_bringLastBehind 40 = .ok (.iaload, 1) := by decide +kernel
theorem dX3_bringLastBehind_41 : decode cX3_bringLastBehind 41 = .ok (.iastore, 1) := by decide +kernel
theorem dX3_bringLastBehind_42 : decode cX3_bringLastBehind 42 = .ok (.iinc 4 (-1), 3) := by decide +kernel
theorem dX3_bringLastBehind_45 : decode cX3_bringLastBehind 45 = .ok (.goto (-28), 3) := by decide +kernel
theorem dX3_bringLastBehind_48 : decode cX3_bringLastBehind 48 = .ok (.aload_n 2, 1) := by decide +kernel
theorem dX3_bringLastBehind_49 : decode cX3_bringLastBehind 49 = .ok (.iload 4, 2) := by decide +kernel
theorem dX3_bringLastBehind_51 : decode cX3_bringLastBehind 51 = .ok (.iload_n 3, 1) := by decide +kernel
theorem dX3_bringLastBehind_52 : decode cX3_bringLastBehind 52 = .ok (.iastore, 1) := by decide +kernel
theorem dX3_bringLastBehind_53 : decode cX3_bringLastBehind 53 = .ok (.return_, 1) := by decide +kernel
theorem dX4_init_0 : decode cX4_init 0 = .ok (.aload_n 0, 1) := by decide +kernel
theorem dX4_init_1 : decode cX4_init 1 = .ok (.invokespecial 3, 3) := by decide +kernel
theorem dX4_init_4 : decode cX4_init 4 = .ok (.aload_n 0, 1) := by decide +kernel
theorem dX4_init_5 : decode cX4_init 5 = .ok (.bipush 8, 2) := by decide +kernel
theorem dX4_init_7 : decode cX4_init 7 = .ok (.newarray .int, 2) := by decide +kernel
theorem dX4_init_9 : decode cX4_init 9 = .ok (.putfield 9, 3) := by decide +kernel
theorem dX4_init_12 : decode cX4_init 12 = .ok (.aload_n 0, 1) := by decide +kernel
theorem dX4_init_13 : decode cX4_init 13 = .ok (.bipush 8, 2) := by decide +kernel
theorem dX4_init_15 : decode cX4_init 15 = .ok (.newarray .int, 2) := by decide +kernel
theorem dX4_init_17 : decode cX4_init 17 = .ok (.putfield 15, 3) := by decide +kernel
theorem dX4_init_20 : decode cX4_init 20 = .ok (.aload_n 0, 1) := by decide +kernel
theorem dX4_init_21 : decode cX4_init 21 = .ok (.bipush 8, 2) := by decide +kernel
theorem dX4_init_23 : decode cX4_init 23 = .ok (.newarray .int, 2) := by decide +kernel
theorem dX4_init_25 : decode cX4_init 25 = .ok (.putfield 18, 3) := by decide +kernel
theorem dX4_init_28 : decode cX4_init 28 = .ok (.return_, 1) := by decide +kernel
theorem dX4_clear_0 : decode cX4_clear 0 = .ok (.aload_n 0, 1) := by decide +kernel
theorem dX4_clear_1 : decode cX4_clear 1 = .ok (.iconst 0, 1) := by decide +kernel
theorem dX4_clear_2 : decode cX4_clear 2 = .ok (.putfield 21, 3) := by decide +kernel
theorem dX4_clear_5 : decode cX4_clear 5 = .ok (.iconst 0, 1) := by decide +kernel
theorem dX4_clear_6 : decode cX4_clear 6 = .ok (.istore_n 1, 1) := by decide +kernel
theorem dX4_clear_7 : decode cX4_clear 7 = .ok (.iload_n 1, 1) := by decide +kernel
theorem dX4_clear_8 : decode cX4_clear 8 = .ok (.bipush 8, 2) := by decide +kernel
theorem dX4_clear_10 : decode cX4_clear 10 = .ok (.if_icmp .ge 23, 3) := by decide +kernel
theorem dX4_clear_13 : decode cX4_clear 13 = .ok (.aload_n 0, 1) := by decide +kernel
theorem dX4_clear_14 : decode cX4_clear 14 = .ok (.getfield 9, 3) := by decide +kernel
theorem dX4_clear_17 : decode cX4_clear 17 = .ok (.iload_n 1, 1) := by decide +kernel
theorem dX4_clear_18 : decode cX4_clear 18 = .ok (.iconst 0, 1) := by decide +kernel
theorem dX4_clear_19 : decode cX4_clear 19 = .ok (.iastore, 1) := by decide +kernel
theorem dX4_clear_20 : decode cX4_clear 20 = .ok (.aload_n 0, 1) := by decide +kernel
theorem dX4_clear_21 : decode cX4_clear 21 = .ok (.getfield 15, 3) := by decide +kernel
theorem dX4_clear_24 : decode cX4_clear 24 = .ok (.iload_n 1, 1) := by decide +kernel
theorem dX4_clear_25 : decode cX4_clear 25 = .ok (.iconst 0, 1) := by decide +kernel
theorem dX4_clear_26 : decode cX4_clear 26 = .ok (.iastore, 1) := by decide +kernel
theorem dX4_clear_27 : decode cX4_clear 27 = .ok (.iinc 1 1, 3) := by decide +kernel
theorem dX4_clear_30 : decode cX4_clear 30 = .ok (.goto (-23), 3) := by decide +kernel
theorem dX4_clear_33 : decode cX4_clear 33 = .ok (.return_, 1) := by decide +kernel
theorem dX4_takeOrder_0 : decode cX4_takeOrder 0 = .ok (.iload_n 1, 1) := by decide +kernel
theorem dX4_takeOrder_1 : decode cX4_takeOrder 1 = .ok (.iconst 2, 1) := by decide +kernel
theorem dX4_takeOrder_2 : decode cX4_takeOrder 2 = .ok (.if_icmp .lt 9, 3) := by decide +kernel
theorem dX4_takeOrder_5 : decode cX4_takeOrder 5 = .ok (.iload_n 1, 1) := by decide +kernel
theorem dX4_takeOrder_6 : decode cX4_takeOrder 6 = .ok (.bipush 8, 2) := by decide +kernel
theorem dX4_takeOrder_8 : decode cX4_takeOrder 8 = .ok (.if_icmp .le 5, 3) := by decide +kernel
theorem dX4_takeOrder_11 : decode cX4_takeOrder 11 = .ok (.iconst 0, 1) := by decide +kernel
theorem dX4_takeOrder_12 : decode cX4_takeOrder 12 = .ok (.ireturn, 1) := by decide +kernel
theorem dX4_takeOrder_13 : decode cX4_takeOrder 13 = .ok (.iconst 0, 1) := by decide +kernel
theorem dX4_takeOrder_14 : decode cX4_takeOrder 14 = .ok (.istore_n 3, 1) := by decide +kernel
theorem dX4_takeOrder_15 : decode cX4_takeOrder 15 = .ok (.iconst 0, 1) := by decide +kernel
theorem dX4_takeOrder_16 : decode cX4_takeOrder 16 = .ok (.istore 4, 2) := by decide +kernel
theorem dX4_takeOrder_18 : decode cX4_takeOrder 18 = .ok (.iload 4, 2) := by decide +kernel
theorem dX4_takeOrder_20 : decode cX4_takeOrder 20 = .ok (.iload_n 1, 1) := by decide +kernel
theorem dX4_takeOrder_21 : decode cX4_takeOrder 21 = .ok (.if_icmp .ge 20, 3) := by decide +kernel
theorem dX4_takeOrder_24 : decode cX4_takeOrder 24 = .ok (.iload_n 3, 1) := by decide +kernel
theorem dX4_takeOrder_25 : decode cX4_takeOrder 25 = .ok (.iconst 1, 1) := by decide +kernel
theorem dX4_takeOrder_26 : decode cX4_takeOrder 26 = .ok (.iload_n 2, 1) := by decide +kernel
theorem dX4_takeOrder_27 : decode cX4_takeOrder 27 = .ok (.iload 4, 2) := by decide +kernel
theorem dX4_takeOrder_29 : decode cX4_takeOrder 29 = .ok (.invokestatic 25, 3) := by decide +kernel
theorem dX4_takeOrder_32 : decode cX4_takeOrder 32 = .ok (.ishl, 1) := by decide +kernel
theorem dX4_takeOrder_33 : decode cX4_takeOrder 33 = .ok (.ior, 1) := by decide +kernel
theorem dX4_takeOrder_34 : decode cX4_takeOrder 34 = .ok (.istore_n 3, 1) := by decide +kernel
theorem dX4_takeOrder_35 : decode cX4_takeOrder 35 = .ok (.iinc 4 1, 3) := by decide +kernel
theorem dX4_takeOrder_38 : decode cX4_takeOrder 38 = .ok (.goto (-20), 3) := by decide +kernel
theorem dX4_takeOrder_41 : decode cX4_takeOrder 41 = .ok (.iload_n 3, 1) := by decide +kernel
theorem dX4_takeOrder_42 : decode cX4_takeOrder 42 = .ok (.iconst 1, 1) := by decide +kernel
theorem dX4_takeOrder_43 : decode cX4_takeOrder 43 = .ok (.iload_n 1, 1) := by decide +kernel
theorem dX4_takeOrder_44 : decode cX4_takeOrder 44 = .ok (.ishl, 1) := by decide +kernel
theorem dX4_takeOrder_45 : decode cX4_takeOrder 45 = .ok (.iconst 1, 1) := by decide +kernel
theorem dX4_takeOrder_46 : decode cX4_takeOrder 46 = .ok (.isub, 1) := by decide +kernel
theorem dX4_takeOrder_47 : decode cX4_takeOrder 47 = .ok (.if_icmp .eq 5, 3) := by decide +kernel
theorem dX4_takeOrder_50 : decode cX4_takeOrder 50 = .ok (.iconst 0, 1) := by decide +kernel
theorem dX4_takeOrder_51 : decode cX4_takeOrder 51 = .ok (.ireturn, 1) := by decide +kernel
theorem dX4_takeOrder_52 : decode cX4_takeOrder 52 = .ok (.iconst 0, 1) := by decide +kernel
theorem dX4_takeOrder_53 : decode cX4_takeOrder 53 = .ok (.istore 4, 2) := by decide +kernel
theorem dX4_takeOrder_55 : decode cX4_takeOrder 55 = .ok (.iload 4, 2) := by decide +kernel
theorem dX4_takeOrder_57 : decode cX4_takeOrder 57 = .ok (.iload_n 1, 1) := by decide +kernel
theorem dX4_takeOrder_58 : decode cX4_takeOrder 58 = .ok (.if_icmp .ge 22, 3) := by decide +kernel
theorem dX4_takeOrder_61 : decode cX4_takeOrder 61 = .ok (.aload_n 0, 1) := by decide +kernel
theorem dX4_takeOrder_62 : decode cX4_takeOrder 62 = .ok (.getfield 18, 3) := by decide +kernel
theorem dX4_takeOrder_65 : decode cX4_takeOrder 65 = .ok (.iload 4, 2) := by decide +kernel
theorem dX4_takeOrder_67 : decode cX4_takeOrder 67 = .ok (.iload_n 2, 1) := by decide +kernel
theorem dX4_takeOrder_68 : decode cX4_takeOrder 68 = .ok (.iload 4, 2) := by decide +kernel
theorem dX4_takeOrder_70 : decode cX4_takeOrder 70 = .ok (.invokestatic 25, 3) := by decide +kernel
theorem dX4_takeOrder_73 : decode cX4_takeOrder 73 = .ok (.iastore, 1) := by decide +kernel
theorem dX4_takeOrder_74 : decode cX4_takeOrder 74 = .ok (.iinc 4 1, 3) := by decide +kernel
theorem dX4_takeOrder_77 : decode cX4_takeOrder 77 = .ok (.goto (-22), 3) := by decide +kernel
theorem dX4_takeOrder_80 : decode cX4_takeOrder 80 = .ok (.aload_n 0, 1) := by decide +kernel
theorem dX4_takeOrder_81 : decode cX4_takeOrder 81 = .ok (.iload_n 1, 1) := by decide +kernel
theorem dX4_takeOrder_82 : decode cX4_takeOrder 82 = .ok (.putfield 21, 3) := by decide +kernel
theorem dX4_takeOrder_85 : decode cX4_takeOrder 85 = .ok (.iconst 1, 1) := by decide +kernel
theorem dX4_takeOrder_86 : decode cX4_takeOrder 86 = .ok (.ireturn, 1) := by decide +kernel
theorem dX4_hasAllLengths_0 : decode cX4_hasAllLengths 0 = .ok (.iconst 0, 1) := by decide +kernel
theorem dX4_hasAllLengths_1 : decode cX4_hasAllLengths 1 = .ok (.istore_n 1, 1) := by decide +kernel
theorem dX4_hasAllLengths_2 : decode cX4_hasAllLengths 2 = .ok (.iload_n 1, 1) := by decide +kernel
theorem dX4_hasAllLengths_3 : decode cX4_hasAllLengths 3 = .ok (.aload_n 0, 1) := by decide +kernel
theorem dX4_hasAllLengths_4 : decode cX4_hasAllLengths 4 = .ok (.getfield 21, 3) := by decide +kernel
theorem dX4_hasAllLengths_7 : decode cX4_hasAllLengths 7 = .ok (.if_icmp .ge 29, 3) := by decide +kernel
theorem dX4_hasAllLengths_10 : decode cX4_hasAllLengths 10 = .ok (.aload_n 0, 1) := by decide +kernel
theorem dX4_hasAllLengths_11 : decode cX4_hasAllLengths 11 = .ok (.getfield 9, 3) := by decide +kernel
theorem dX4_hasAllLengths_14 : decode cX4_hasAllLengths 14 = .ok (.iload_n 1, 1) := by decide +kernel
theorem dX4_hasAllLengths_15 : decode cX4_hasAllLengths 15 = .ok (.iaload, 1) := by decide +kernel
theorem dX4_hasAllLengths_16 : decode cX4_hasAllLengths 16 = .ok (.ifCond .ne 14, 3) := by decide +kernel
theorem dX4_hasAllLengths_19 : decode cX4_hasAllLengths 19 = .ok (.aload_n 0, 1) := by decide +kernel
theorem dX4_hasAllLengths_20 : decode cX4_hasAllLengths 20 = .ok (.getfield 15, 3) := by decide +kernel
theorem dX4_hasAllLengths_23 : decode cX4_hasAllLengths 23 = .ok (.iload_n 1, 1) := by decide +kernel
theorem dX4_hasAllLengths_24 : decode cX4_hasAllLengths 24 = .ok (.iaload, 1) := by decide +kernel
theorem dX4_hasAllLengths_25 : decode cX4_hasAllLengths 25 = .ok (.ifCond .ne 5, 3) := by decide +kernel
theorem dX4_hasAllLengths_28 : decode cX4_hasAllLengths 28 = .ok (.iconst 0, 1) := by decide +kernel
theorem dX4_hasAllLengths_29 : decode cX4_hasAllLengths 29 = .ok (.ireturn, 1) := by decide +kernel
end
section
theorem dX4_hasAllLengths_30 : decode cX4_hasAllLengths 30 = .ok (.iinc 1 1, 3) := by decide +kernel
theorem dX4_hasAllLengths_33 : decode cX4_hasAllLengths 33 = .ok (.goto (-31), 3) := by decide +kernel
theorem dX4_hasAllLengths_36 : decode cX4_hasAllLengths 36 = .ok (.iconst 1, 1) := by decide +kernel
theorem dX4_hasAllLengths_37 : decode cX4_hasAllLengths 37 = .ok (.ireturn, 1) := by decide +kernel
theorem dX4_nibble_0 : decode cX4_nibble 0 = .ok (.iload_n 0, 1) := by decide +kernel
theorem dX4_nibble_1 : decode cX4_nibble 1 = .ok (.iconst 4, 1) := by decide +kernel
theorem dX4_nibble_2 : decode cX4_nibble 2 = .ok (.iload_n 1, 1) := by decide +kernel
theorem dX4_nibble_3 : decode cX4_nibble 3 = .ok (.imul, 1) := by decide +kernel
theorem dX4_nibble_4 : decode cX4_nibble 4 = .ok (.iushr, 1) := by decide +kernel
theorem dX4_nibble_5 : decode cX4_nibble 5 = .ok (.bipush 15, 2) := by decide +kernel
theorem dX4_nibble_7 : decode cX4_nibble 7 = .ok (.iand, 1) := by decide +kernel
theorem dX4_nibble_8 : decode cX4_nibble 8 = .ok (.ireturn, 1) := by decide +kernel
theorem dX5_init_0 : decode cX5_init 0 = .ok (.aload_n 0, 1) := by decide +kernel
theorem dX5_init_1 : decode cX5_init 1 = .ok (.invokespecial 1, 3) := by decide +kernel
theorem dX5_init_4 : decode cX5_init 4 = .ok (.return_, 1) := by decide +kernel
theorem dX5_put_0 : decode cX5_put 0 = .ok (.aload_n 0, 1) := by decide +kernel
theorem dX5_put_1 : decode cX5_put 1 = .ok (.iconst 1, 1) := by decide +kernel
theorem dX5_put_2 : decode cX5_put 2 = .ok (.putfield 7, 3) := by decide +kernel
theorem dX5_put_5 : decode cX5_put 5 = .ok (.aload_n 0, 1) := by decide +kernel
theorem dX5_put_6 : decode cX5_put 6 = .ok (.lload_n 1, 1) := by decide +kernel
theorem dX5_put_7 : decode cX5_put 7 = .ok (.putfield 13, 3) := by decide +kernel
theorem dX5_put_10 : decode cX5_put 10 = .ok (.aload_n 0, 1) := by decide +kernel
theorem dX5_put_11 : decode cX5_put 11 = .ok (.lload_n 3, 1) := by decide +kernel
theorem dX5_put_12 : decode cX5_put 12 = .ok (.putfield 17, 3) := by decide +kernel
theorem dX5_put_15 : decode cX5_put 15 = .ok (.return_, 1) := by decide +kernel
theorem dX6_init_0 : decode cX6_init 0 = .ok (.aload_n 0, 1) := by decide +kernel
theorem dX6_init_1 : decode cX6_init 1 = .ok (.invokespecial 3, 3) := by decide +kernel
theorem dX6_init_4 : decode cX6_init 4 = .ok (.aload_n 0, 1) := by decide +kernel
theorem dX6_init_5 : decode cX6_init 5 = .ok (.bipush 8, 2) := by decide +kernel
theorem dX6_init_7 : decode cX6_init 7 = .ok (.newarray .int, 2) := by decide +kernel
theorem dX6_init_9 : decode cX6_init 9 = .ok (.putfield 9, 3) := by decide +kernel
theorem dX6_init_12 : decode cX6_init 12 = .ok (.aload_n 0, 1) := by decide +kernel
theorem dX6_init_13 : decode cX6_init 13 = .ok (.bipush 9, 2) := by decide +kernel
theorem dX6_init_15 : decode cX6_init 15 = .ok (.newarray .long, 2) := by decide +kernel
theorem dX6_init_17 : decode cX6_init 17 = .ok (.putfield 15, 3) := by decide +kernel
theorem dX6_init_20 : decode cX6_init 20 = .ok (.aload_n 0, 1) := by decide +kernel
theorem dX6_init_21 : decode cX6_init 21 = .ok (.bipush 9, 2) := by decide +kernel
theorem dX6_init_23 : decode cX6_init 23 = .ok (.newarray .long, 2) := by decide +kernel
theorem dX6_init_25 : decode cX6_init 25 = .ok (.putfield 19, 3) := by decide +kernel
theorem dX6_init_28 : decode cX6_init 28 = .ok (.aload_n 0, 1) := by decide +kernel
theorem dX6_init_29 : decode cX6_init 29 = .ok (.bipush 8, 2) := by decide +kernel
theorem dX6_init_31 : decode cX6_init 31 = .ok (.newarray .long, 2) := by decide +kernel
theorem dX6_init_33 : decode cX6_init 33 = .ok (.putfield 22, 3) := by decide +kernel
theorem dX6_init_36 : decode cX6_init 36 = .ok (.aload_n 0, 1) := by decide +kernel
theorem dX6_init_37 : decode cX6_init 37 = .ok (.bipush 8, 2) := by decide +kernel
theorem dX6_init_39 : decode cX6_init 39 = .ok (.newarray .long, 2) := by decide +kernel
theorem dX6_init_41 : decode cX6_init 41 = .ok (.putfield 25, 3) := by decide +kernel
theorem dX6_init_44 : decode cX6_init 44 = .ok (.return_, 1) := by decide +kernel
theorem dX6_draw_0 : decode cX6_draw 0 = .ok (.aload_n 0, 1) := by decide +kernel
theorem dX6_draw_1 : decode cX6_draw 1 = .ok (.aload_n 1, 1) := by decide +kernel
theorem dX6_draw_2 : decode cX6_draw 2 = .ok (.getfield 28, 3) := by decide +kernel
theorem dX6_draw_5 : decode cX6_draw 5 = .ok (.putfield 34, 3) := by decide +kernel
theorem dX6_draw_8 : decode cX6_draw 8 = .ok (.aload_n 0, 1) := by decide +kernel
theorem dX6_draw_9 : decode cX6_draw 9 = .ok (.aload_n 1, 1) := by decide +kernel
theorem dX6_draw_10 : decode cX6_draw 10 = .ok (.getfield 35, 3) := by decide +kernel
theorem dX6_draw_13 : decode cX6_draw 13 = .ok (.putfield 38, 3) := by decide +kernel
theorem dX6_draw_16 : decode cX6_draw 16 = .ok (.lconst 0, 1) := by decide +kernel
theorem dX6_draw_17 : decode cX6_draw 17 = .ok (.lstore 4, 2) := by decide +kernel
theorem dX6_draw_19 : decode cX6_draw 19 = .ok (.lconst 0, 1) := by decide +kernel
theorem dX6_draw_20 : decode cX6_draw 20 = .ok (.lstore 6, 2) := by decide +kernel
theorem dX6_draw_22 : decode cX6_draw 22 = .ok (.iconst 0, 1) := by decide +kernel
theorem dX6_draw_23 : decode cX6_draw 23 = .ok (.istore 8, 2) := by decide +kernel
theorem dX6_draw_25 : decode cX6_draw 25 = .ok (.iload 8, 2) := by decide +kernel
theorem dX6_draw_27 : decode cX6_draw 27 = .ok (.aload_n 0, 1) := by decide +kernel
theorem dX6_draw_28 : decode cX6_draw 28 = .ok (.getfield 34, 3) := by decide +kernel
theorem dX6_draw_31 : decode cX6_draw 31 = .ok (.if_icmp .ge 59, 3) := by decide +kernel
theorem dX6_draw_34 : decode cX6_draw 34 = .ok (.aload_n 3, 1) := by decide +kernel
theorem dX6_draw_35 : decode cX6_draw 35 = .ok (.iload 8, 2) := by decide +kernel
theorem dX6_draw_37 : decode cX6_draw 37 = .ok (.iaload, 1) := by decide +kernel
theorem dX6_draw_38 : decode cX6_draw 38 = .ok (.istore 9, 2) := by decide +kernel
theorem dX6_draw_40 : decode cX6_draw 40 = .ok (.aload_n 0, 1) := by decide +kernel
theorem dX6_draw_41 : decode cX6_draw 41 = .ok (.getfield 22, 3) := by decide +kernel
theorem dX6_draw_44 : decode cX6_draw 44 = .ok (.iload 9, 2) := by decide +kernel
theorem dX6_draw_46 : decode cX6_draw 46 = .ok (.lload 4, 2) := by decide +kernel
theorem dX6_draw_48 : decode cX6_draw 48 = .ok (.lastore, 1) := by decide +kernel
theorem dX6_draw_49 : decode cX6_draw 49 = .ok (.aload_n 0, 1) := by decide +kernel
theorem dX6_draw_50 : decode cX6_draw 50 = .ok (.getfield 25, 3) := by decide +kernel
theorem dX6_draw_53 : decode cX6_draw 53 = .ok (.iload 9, 2) := by decide +kernel
theorem dX6_draw_55 : decode cX6_draw 55 = .ok (.lload 6, 2) := by decide +kernel
theorem dX6_draw_57 : decode cX6_draw 57 = .ok (.lastore, 1) := by decide +kernel
theorem dX6_draw_58 : decode cX6_draw 58 = .ok (.lload 4, 2) := by decide +kernel
theorem dX6_draw_60 : decode cX6_draw 60 = .ok (.aload_n 1, 1) := by decide +kernel
theorem dX6_draw_61 : decode cX6_draw 61 = .ok (.getfield 39, 3) := by decide +kernel
theorem dX6_draw_64 : decode cX6_draw 64 = .ok (.iload 9, 2) := by decide +kernel
theorem dX6_draw_66 : decode cX6_draw 66 = .ok (.iaload, 1) := by decide +kernel
theorem dX6_draw_67 : decode cX6_draw 67 = .ok (.i2l, 1) := by decide +kernel
theorem dX6_draw_68 : decode cX6_draw 68 = .ok (.ladd, 1) := by decide +kernel
theorem dX6_draw_69 : decode cX6_draw 69 = .ok (.lstore 4, 2) := by decide +kernel
theorem dX6_draw_71 : decode cX6_draw 71 = .ok (.lload 6, 2) := by decide +kernel
theorem dX6_draw_73 : decode cX6_draw 73 = .ok (.aload_n 1, 1) := by decide +kernel
theorem dX6_draw_74 : decode cX6_draw 74 = .ok (.getfield 42, 3) := by decide +kernel
theorem dX6_draw_77 : decode cX6_draw 77 = .ok (.iload 9, 2) := by decide +kernel
theorem dX6_draw_79 : decode cX6_draw 79 = .ok (.iaload, 1) := by decide +kernel
theorem dX6_draw_80 : decode cX6_draw 80 = .ok (.i2l, 1) := by decide +kernel
theorem dX6_draw_81 : decode cX6_draw 81 = .ok (.ladd, 1) := by decide +kernel
theorem dX6_draw_82 : decode cX6_draw 82 = .ok (.lstore 6, 2) := by decide +kernel
theorem dX6_draw_84 : decode cX6_draw 84 = .ok (.iinc 8 1, 3) := by decide +kernel
theorem dX6_draw_87 : decode cX6_draw 87 = .ok (.goto (-62), 3) := by decide +kernel
theorem dX6_draw_90 : decode cX6_draw 90 = .ok (.lconst 0, 1) := by decide +kernel
theorem dX6_draw_91 : decode cX6_draw 91 = .ok (.lstore 4, 2) := by decide +kernel
theorem dX6_draw_93 : decode cX6_draw 93 = .ok (.lconst 0, 1) := by decide +kernel
theorem dX6_draw_94 : decode cX6_draw 94 = .ok (.lstore 6, 2) := by decide +kernel
theorem dX6_draw_96 : decode cX6_draw 96 = .ok (.iconst 0, 1) := by decide +kernel
theorem dX6_draw_97 : decode cX6_draw 97 = .ok (.istore 8, 2) := by decide +kernel
theorem dX6_draw_99 : decode cX6_draw 99 = .ok (.iload 8, 2) := by decide +kernel
theorem dX6_draw_101 : decode cX6_draw 101 = .ok (.aload_n 0, 1) := by decide +kernel
theorem dX6_draw_102 : decode cX6_draw 102 = .ok (.getfield 34, 3) := by decide +kernel
theorem dX6_draw_105 : decode cX6_draw 105 = .ok (.if_icmp .ge 92, 3) := by decide +kernel
theorem dX6_draw_108 : decode cX6_draw 108 = .ok (.aload_n 2, 1) := by decide +kernel
theorem dX6_draw_109 : decode cX6_draw 109 = .ok (.iload 8, 2) := by decide +kernel
theorem dX6_draw_111 : decode cX6_draw 111 = .ok (.iaload, 1) := by decide +kernel
theorem dX6_draw_112 : decode cX6_draw 112 = .ok (.istore 9, 2) := by decide +kernel
theorem dX6_draw_114 : decode cX6_draw 114 = .ok (.aload_n 0, 1) := by decide +kernel
theorem dX6_draw_115 : decode cX6_draw 115 = .ok (.getfield 9, 3) := by decide +kernel
theorem dX6_draw_118 : decode cX6_draw 118 = .ok (.iload 8, 2) := by decide +kernel
theorem dX6_draw_120 : decode cX6_draw 120 = .ok (.iload 9, 2) := by decide +kernel
theorem dX6_draw_122 : decode cX6_draw 122 = .ok (.iastore, 1) := by decide +kernel
theorem dX6_draw_123 : decode cX6_draw 123 = .ok (.aload_n 0, 1) := by decide +kernel
theorem dX6_draw_124 : decode cX6_draw 124 = .ok (.getfield 15, 3) := by decide +kernel
theorem dX6_draw_127 : decode cX6_draw 127 = .ok (.iload 8, 2) := by decide +kernel
theorem dX6_draw_129 : decode cX6_draw 129 = .ok (.lload 4, 2) := by decide +kernel
theorem dX6_draw_131 : decode cX6_draw 131 = .ok (.lastore, 1) := by decide +kernel
theorem dX6_draw_132 : decode cX6_draw 132 = .ok (.aload_n 0, 1) := by decide +kernel
theorem dX6_draw_133 : decode cX6_draw 133 = .ok (.getfield 19, 3) := by decide +kernel
theorem dX6_draw_136 : decode cX6_draw 136 = .ok (.iload 8, 2) := by decide +kernel
theorem dX6_draw_138 : decode cX6_draw 138 = .ok (.lload 6, 2) := by decide +kernel
theorem dX6_draw_140 : decode cX6_draw 140 = .ok (.lastore, 1) := by decide +kernel
theorem dX6_draw_141 : decode cX6_draw 141 = .ok (.aload_n 0, 1) := by decide +kernel
theorem dX6_draw_142 : decode cX6_draw 142 = .ok (.getfield 22, 3) := by decide +kernel
theorem dX6_draw_145 : decode cX6_draw 145 = .ok (.iload 9, 2) := by decide +kernel
theorem dX6_draw_147 : decode cX6_draw 147 = .ok (.dup2, 1) := by decide +kernel
theorem dX6_draw_148 : decode cX6_draw 148 = .ok (.laload, 1) := by decide +kernel
theorem dX6_draw_149 : decode cX6_draw 149 = .ok (.lload 4, 2) := by decide +kernel
theorem dX6_draw_151 : decode cX6_draw 151 = .ok (.lsub, 1) := by decide +kernel
theorem dX6_draw_152 : decode cX6_draw 152 = .ok (.lastore, 1) := by decide +kernel
theorem dX6_draw_153 : decode cX6_draw 153 = .ok (.aload_n 0, 1) := by decide +kernel
theorem dX6_draw_154 : decode cX6_draw 154 = .ok (.getfield 25, 3) := by decide +kernel
theorem dX6_draw_157 : decode cX6_draw 157 = .ok (.iload 9, 2) := by decide +kernel
theorem dX6_draw_159 : decode cX6_draw 159 = .ok (.dup2, 1) := by decide +kernel
theorem dX6_draw_160 : decode cX6_draw 160 = .ok (.laload, 1) := by decide +kernel
theorem dX6_draw_161 : decode cX6_draw 161 = .ok (.lload 6, 2) := by decide +kernel
theorem dX6_draw_163 : decode cX6_draw 163 = .ok (.lsub, 1) := by decide +kernel
theorem dX6_draw_164 : decode cX6_draw 164 = .ok (.lastore, 1) := by decide +kernel
theorem dX6_draw_165 : decode cX6_draw 165 = .ok (.lload 4, 2) := by decide +kernel
theorem dX6_draw_167 : decode cX6_draw 167 = .ok (.aload_n 1, 1) := by decide +kernel
theorem dX6_draw_168 : decode cX6_draw 168 = .ok (.getfield 39, 3) := by decide +kernel
theorem dX6_draw_171 : decode cX6_draw 171 = .ok (.iload 9, 2) := by decide +kernel
theorem dX6_draw_173 : decode cX6_draw 173 = .ok (.iaload, 1) := by decide +kernel
theorem dX6_draw_174 : decode cX6_draw 174 = .ok (.i2l, 1) := by decide +kernel
theorem dX6_draw_175 : decode cX6_draw 175 = .ok (.ladd, 1) := by decide +kernel
theorem dX6_draw_176 : decode cX6_draw 176 = .ok (.lstore 4, 2) := by decide +kernel
theorem dX6_draw_178 : decode cX6_draw 178 = .ok (.lload 6, 2) := by decide +kernel
theorem dX6_draw_180 : decode cX6_draw 180 = .ok (.aload_n 1, 1) := by decide +kernel
theorem dX6_draw_181 : decode cX6_draw 181 = .ok (.getfield 42, 3) := by decide +kernel
theorem dX6_draw_184 : decode cX6_draw 184 = .ok (.iload 9, 2) := by decide +kernel
theorem dX6_draw_186 : decode cX6_draw 186 = .ok (.iaload, 1) := by decide +kernel
theorem dX6_draw_187 : decode cX6_draw 187 = .ok (.i2l, 1) := by decide +kernel
theorem dX6_draw_188 : decode cX6_draw 188 = .ok (.ladd, 1) := by decide +kernel
theorem dX6_draw_189 : decode cX6_draw 189 = .ok (.lstore 6, 2) := by decide +kernel
theorem dX6_draw_191 : decode cX6_draw 191 = .ok (.iinc 8 1, 3) := by decide +kernel
theorem dX6_draw_194 : decode cX6_draw 194 = .ok (.goto (-95), 3) := by decide +kernel
theorem dX6_draw_197 : decode cX6_draw 197 = .ok (.aload_n 0, 1) := by decide +kernel
theorem dX6_draw_198 : decode cX6_draw 198 = .ok (.getfield 15, 3) := by decide +kernel
theorem dX6_draw_201 : decode cX6_draw 201 = .ok (.aload_n 0, 1) := by decide +kernel
theorem dX6_draw_202 : decode cX6_draw 202 = .ok (.getfield 34, 3) := by decide +kernel
theorem dX6_draw_205 : decode cX6_draw 205 = .ok (.lload 4, 2) := by decide +kernel
theorem dX6_draw_207 : decode cX6_draw 207 = .ok (.lastore, 1) := by decide +kernel
theorem dX6_draw_208 : decode cX6_draw 208 = .ok (.aload_n 0, 1) := by decide +kernel
theorem dX6_draw_209 : decode cX6_draw 209 = .ok (.getfield 19, 3) := by decide +kernel
theorem dX6_draw_212 : decode cX6_draw 212 = .ok (.aload_n 0, 1) := by decide +kernel
theorem dX6_draw_213 : decode cX6_draw 213 = .ok (.getfield 34, 3) := by decide +kernel
theorem dX6_draw_216 : decode cX6_draw 216 = .ok (.lload 6, 2) := by decide +kernel
theorem dX6_draw_218 : decode cX6_draw 218 = .ok (.lastore, 1) := by decide +kernel
theorem dX6_draw_219 : decode cX6_draw 219 = .ok (.return_, 1) := by decide +kernel
theorem dX6_covers_0 : decode cX6_covers 0 = .ok (.lload_n 1, 1) := by decide +kernel
theorem dX6_covers_1 : decode cX6_covers 1 = .ok (.lload_n 3, 1) := by decide +kernel
theorem dX6_covers_2 : decode cX6_covers 2 = .ok (.aload_n 0, 1) := by decide +kernel
theorem dX6_covers_3 : decode cX6_covers 3 = .ok (.getfield 38, 3) := by decide +kernel
theorem dX6_covers_6 : decode cX6_covers 6 = .ok (.invokestatic 45, 3) := by decide +kernel
theorem dX6_covers_9 : decode cX6_covers 9 = .ok (.ifCond .lt 20, 3) := by decide +kernel
theorem dX6_covers_12 : decode cX6_covers 12 = .ok (.aload_n 0, 1) := by decide +kernel
theorem dX6_covers_13 : decode cX6_covers 13 = .ok (.lload_n 1, 1) := by decide +kernel
theorem dX6_covers_14 : decode cX6_covers 14 = .ok (.lload_n 3, 1) := by decide +kernel
theorem dX6_covers_15 : decode cX6_covers 15 = .ok (.aload_n 0, 1) := by decide +kernel
theorem dX6_covers_16 : decode cX6_covers 16 = .ok (.getfield 34, 3) := by decide +kernel
theorem dX6_covers_19 : decode cX6_covers 19 = .ok (.invokevirtual 49, 3) := by decide +kernel
theorem dX6_covers_22 : decode cX6_covers 22 = .ok (.ifCond .eq 7, 3) := by decide +kernel
theorem dX6_covers_25 : decode cX6_covers 25 = .ok (.iconst 1, 1) := by decide +kernel
theorem dX6_covers_26 : decode cX6_covers 26 = .ok (.goto 4, 3) := by decide +kernel
theorem dX6_covers_29 : decode cX6_covers 29 = .ok (.iconst 0, 1) := by decide +kernel
theorem dX6_covers_30 : decode cX6_covers 30 = .ok (.ireturn, 1) := by decide +kernel
theorem dX6_spanAt_0 : decode cX6_spanAt 0 = .ok (.iconst 0, 1) := by decide +kernel
theorem dX6_spanAt_1 : decode cX6_spanAt 1 = .ok (.istore_n 2, 1) := by decide +kernel
theorem dX6_spanAt_2 : decode cX6_spanAt 2 = .ok (.iload_n 2, 1) := by decide +kernel
theorem dX6_spanAt_3 : decode cX6_spanAt 3 = .ok (.aload_n 0, 1) := by decide +kernel
theorem dX6_spanAt_4 : decode cX6_spanAt 4 = .ok (.getfield 34, 3) := by decide +kernel
theorem dX6_spanAt_7 : decode cX6_spanAt 7 = .ok (.iconst 1, 1) := by decide +kernel
theorem dX6_spanAt_8 : decode cX6_spanAt 8 = .ok (.isub, 1) := by decide +kernel
theorem dX6_spanAt_9 : decode cX6_spanAt 9 = .ok (.if_icmp .ge 27, 3) := by decide +kernel
theorem dX6_spanAt_12 : decode cX6_spanAt 12 = .ok (.aload_n 0, 1) := by decide +kernel
theorem dX6_spanAt_13 : decode cX6_spanAt 13 = .ok (.aload_n 1, 1) := by decide +kernel
theorem dX6_spanAt_14 : decode cX6_spanAt 14 = .ok (.getfield 53, 3) := by decide +kernel
theorem dX6_spanAt_17 : decode cX6_spanAt 17 = .ok (.aload_n 1, 1) := by decide +kernel
theorem dX6_spanAt_18 : decode cX6_spanAt 18 = .ok (.getfield 59, 3) := by decide +kernel
theorem dX6_spanAt_21 : decode cX6_spanAt 21 = .ok (.iload_n 2, 1) := by decide +kernel
theorem dX6_spanAt_22 : decode cX6_spanAt 22 = .ok (.iconst 1, 1) := by decide +kernel
theorem dX6_spanAt_23 : decode cX6_spanAt 23 = .ok (.iadd, 1) := by decide +kernel
theorem dX6_spanAt_24 : decode cX6_spanAt 24 = .ok (.invokevirtual 49, 3) := by decide +kernel
theorem dX6_spanAt_27 : decode cX6_spanAt 27 = .ok (.ifCond .ne 9, 3) := by decide +kernel
theorem dX6_spanAt_30 : decode cX6_spanAt 30 = .ok (.iinc 2 1, 3) := by decide +kernel
theorem dX6_spanAt_33 : decode cX6_spanAt 33 = .ok (.goto (-31), 3) := by decide +kernel
theorem dX6_spanAt_36 : decode cX6_spanAt 36 = .ok (.aload_n 0, 1) := by decide +kernel
theorem dX6_spanAt_37 : decode cX6_spanAt 37 = .ok (.getfield 9, 3) := by decide +kernel
theorem dX6_spanAt_40 : decode cX6_spanAt 40 = .ok (.iload_n 2, 1) := by decide +kernel
theorem dX6_spanAt_41 : decode cX6_spanAt 41 = .ok (.iaload, 1) := by decide +kernel
theorem dX6_spanAt_42 : decode cX6_spanAt 42 = .ok (.ireturn, 1) := by decide +kernel
theorem dX6_carry_0 : decode cX6_carry 0 = .ok (.aload_n 0, 1) := by decide +kernel
theorem dX6_carry_1 : decode cX6_carry 1 = .ok (.aload_n 1, 1) := by decide +kernel
theorem dX6_carry_2 : decode cX6_carry 2 = .ok (.aload_n 0, 1) := by decide +kernel
theorem dX6_carry_3 : decode cX6_carry 3 = .ok (.aload_n 1, 1) := by decide +kernel
theorem dX6_carry_4 : decode cX6_carry 4 = .ok (.invokevirtual 62, 3) := by decide +kernel
theorem dX6_carry_7 : decode cX6_carry 7 = .ok (.invokevirtual 66, 3) := by decide +kernel
theorem dX6_carry_10 : decode cX6_carry 10 = .ok (.ireturn, 1) := by decide +kernel
theorem dX6_shift_0 : decode cX6_shift 0 = .ok (.aload_n 1, 1) := by decide +kernel
theorem dX6_shift_1 : decode cX6_shift 1 = .ok (.dup, 1) := by decide +kernel
theorem dX6_shift_2 : decode cX6_shift 2 = .ok (.getfield 53, 3) := by decide +kernel
theorem dX6_shift_5 : decode cX6_shift 5 = .ok (.aload_n 0, 1) := by decide +kernel
theorem dX6_shift_6 : decode cX6_shift 6 = .ok (.getfield 22, 3) := by decide +kernel
theorem dX6_shift_9 : decode cX6_shift 9 = .ok (.iload_n 2, 1) := by decide +kernel
theorem dX6_shift_10 : decode cX6_shift 10 = .ok (.laload, 1) := by decide +kernel
theorem dX6_shift_11 : decode cX6_shift 11 = .ok (.ladd, 1) := by decide +kernel
theorem dX6_shift_12 : decode cX6_shift 12 = .ok (.putfield 53, 3) := by decide +kernel
theorem dX6_shift_15 : decode cX6_shift 15 = .ok (.aload_n 1, 1) := by decide +kernel
theorem dX6_shift_16 : decode cX6_shift 16 = .ok (.dup, 1) := by decide +kernel
theorem dX6_shift_17 : decode cX6_shift 17 = .ok (.getfield 59, 3) := by decide +kernel
theorem dX6_shift_20 : decode cX6_shift 20 = .ok (.aload_n 0, 1) := by decide +kernel
theorem dX6_shift_21 : decode cX6_shift 21 = .ok (.getfield 25, 3) := by decide +kernel
theorem dX6_shift_24 : decode cX6_shift 24 = .ok (.iload_n 2, 1) := by decide +kernel
theorem dX6_shift_25 : decode cX6_shift 25 = .ok (.laload, 1) := by decide +kernel
theorem dX6_shift_26 : decode cX6_shift 26 = .ok (.ladd, 1) := by decide +kernel
theorem dX6_shift_27 : decode cX6_shift 27 = .ok (.putfield 59, 3) := by decide +kernel
theorem dX6_shift_30 : decode cX6_shift 30 = .ok (.aload_n 1, 1) := by decide +kernel
theorem dX6_shift_31 : decode cX6_shift 31 = .ok (.getfield 53, 3) := by decide +kernel
theorem dX6_shift_34 : decode cX6_shift 34 = .ok (.ldc 70, 2) := by decide +kernel
theorem dX6_shift_36 : decode cX6_shift 36 = .ok (.invokestatic 71, 3) := by decide +kernel
theorem dX6_shift_39 : decode cX6_shift 39 = .ok (.ifCond .eq 19, 3) := by decide +kernel
theorem dX6_shift_42 : decode cX6_shift 42 = .ok (.aload_n 1, 1) := by decide +kernel
theorem dX6_shift_43 : decode cX6_shift 43 = .ok (.getfield 59, 3) := by decide +kernel
theorem dX6_shift_46 : decode cX6_shift 46 = .ok (.ldc 70, 2) := by decide +kernel
theorem dX6_shift_48 : decode cX6_shift 48 = .ok (.invokestatic 71, 3) := by decide +kernel
theorem dX6_shift_51 : decode cX6_shift 51 = .ok (.ifCond .eq 7, 3) := by decide +kernel
theorem dX6_shift_54 : decode cX6_shift 54 = .ok (.iconst 1, 1) := by decide +kernel
theorem dX6_shift_55 : decode cX6_shift 55 = .ok (.goto 4, 3) := by decide +kernel
theorem dX6_shift_58 : decode cX6_shift 58 = .ok (.iconst 0, 1) := by decide +kernel
theorem dX6_shift_59 : decode cX6_shift 59 = .ok (.ireturn, 1) := by decide +kernel
theorem dX6_isLeftEnd_0 : decode cX6_isLeftEnd 0 = .ok (.iconst 0, 1) := by decide +kernel
theorem dX6_isLeftEnd_1 : decode cX6_isLeftEnd 1 = .ok (.istore_n 2, 1) := by decide +kernel
theorem dX6_isLeftEnd_2 : decode cX6_isLeftEnd 2 = .ok (.iload_n 2, 1) := by decide +kernel
theorem dX6_isLeftEnd_3 : decode cX6_isLeftEnd 3 = .ok (.aload_n 0, 1) := by decide +kernel
theorem dX6_isLeftEnd_4 : decode cX6_isLeftEnd 4 = .ok (.getfield 34, 3) := by decide +kernel
theorem dX6_isLeftEnd_7 : decode cX6_isLeftEnd 7 = .ok (.if_icmp .ge 39, 3) := by decide +kernel
theorem dX6_isLeftEnd_10 : decode cX6_isLeftEnd 10 = .ok (.aload_n 0, 1) := by decide +kernel
theorem dX6_isLeftEnd_11 : decode cX6_isLeftEnd 11 = .ok (.getfield 15, 3) := by decide +kernel
theorem dX6_isLeftEnd_14 : decode cX6_isLeftEnd 14 = .ok (.iload_n 2, 1) := by decide +kernel
theorem dX6_isLeftEnd_15 : decode cX6_isLeftEnd 15 = .ok (.laload, 1) := by decide +kernel
theorem dX6_isLeftEnd_16 : decode cX6_isLeftEnd 16 = .ok (.aload_n 1, 1) := by decide +kernel
theorem dX6_isLeftEnd_17 : decode cX6_isLeftEnd 17 = .ok (.getfield 53, 3) := by decide +kernel
theorem dX6_isLeftEnd_20 : decode cX6_isLeftEnd 20 = .ok (.lcmp, 1) := by decide +kernel
theorem dX6_isLeftEnd_21 : decode cX6_isLeftEnd 21 = .ok (.ifCond .ne 19, 3) := by decide +kernel
theorem dX6_isLeftEnd_24 : decode cX6_isLeftEnd 24 = .ok (.aload_n 0, 1) := by decide +kernel
theorem dX6_isLeftEnd_25 : decode cX6_isLeftEnd 25 = .ok (.getfield 19, 3) := by decide +kernel
theorem dX6_isLeftEnd_28 : decode cX6_isLeftEnd 28 = .ok (.iload_n 2, 1) := by decide +kernel
theorem dX6_isLeftEnd_29 : decode cX6_isLeftEnd 29 = .ok (.laload, 1) := by decide +kernel
theorem dX6_isLeftEnd_30 : decode cX6_isLeftEnd 30 = .ok (.aload_n 1, 1) := by decide +kernel
theorem dX6_isLeftEnd_31 : decode cX6_isLeftEnd 31 = .ok (.getfield 59, 3) := by decide +kernel
theorem dX6_isLeftEnd_34 : decode cX6_isLeftEnd 34 = .ok (.lcmp, 1) := by decide +kernel
theorem dX6_isLeftEnd_35 : decode cX6_isLeftEnd 35 = .ok (.ifCond .ne 5, 3) := by decide +kernel
theorem dX6_isLeftEnd_38 : decode cX6_isLeftEnd 38 = .ok (.iconst 1, 1) := by decide +kernel
theorem dX6_isLeftEnd_39 : decode cX6_isLeftEnd 39 = .ok (.ireturn, 1) := by decide +kernel
theorem dX6_isLeftEnd_40 : decode cX6_isLeftEnd 40 = .ok (.iinc 2 1, 3) := by decide +kernel
theorem dX6_isLeftEnd_43 : decode cX6_isLeftEnd 43 = .ok (.goto (-41), 3) := by decide +kernel
theorem dX6_isLeftEnd_46 : decode cX6_isLeftEnd 46 = .ok (.iconst 0, 1) := by decide +kernel
theorem dX6_isLeftEnd_47 : decode cX6_isLeftEnd 47 = .ok (.ireturn, 1) := by decide +kernel
theorem dX6_isLeftOf_0 : decode cX6_isLeftOf 0 = .ok (.lload_n 1, 1) := by decide +kernel
theorem dX6_isLeftOf_1 : decode cX6_isLeftOf 1 = .ok (.aload_n 0, 1) := by decide +kernel
theorem dX6_isLeftOf_2 : decode cX6_isLeftOf 2 = .ok (.getfield 15, 3) := by decide +kernel
theorem dX6_isLeftOf_5 : decode cX6_isLeftOf 5 = .ok (.iload 5, 2) := by decide +kernel
theorem dX6_isLeftOf_7 : decode cX6_isLeftOf 7 = .ok (.laload, 1) := by decide +kernel
theorem dX6_isLeftOf_8 : decode cX6_isLeftOf 8 = .ok (.lsub, 1) := by decide +kernel
theorem dX6_isLeftOf_9 : decode cX6_isLeftOf 9 = .ok (.lload_n 3, 1) := by decide +kernel
theorem dX6_isLeftOf_10 : decode cX6_isLeftOf 10 = .ok (.aload_n 0, 1) := by decide +kernel
theorem dX6_isLeftOf_11 : decode cX6_isLeftOf 11 = .ok (.getfield 19, 3) := by decide +kernel
theorem dX6_isLeftOf_14 : decode cX6_isLeftOf 14 = .ok (.iload 5, 2) := by decide +kernel
theorem dX6_isLeftOf_16 : decode cX6_isLeftOf 16 = .ok (.laload, 1) := by decide +kernel
theorem dX6_isLeftOf_17 : decode cX6_isLeftOf 17 = .ok (.lsub, 1) := by decide +kernel
theorem dX6_isLeftOf_18 : decode cX6_isLeftOf 18 = .ok (.aload_n 0, 1) := by decide +kernel
theorem dX6_isLeftOf_19 : decode cX6_isLeftOf 19 = .ok (.getfield 38, 3) := by decide +kernel
theorem dX6_isLeftOf_22 : decode cX6_isLeftOf 22 = .ok (.invokestatic 45, 3) := by decide +kernel
theorem dX6_isLeftOf_25 : decode cX6_isLeftOf 25 = .ok (.ifCond .ge 7, 3) := by decide +kernel
theorem dX6_isLeftOf_28 : decode cX6_isLeftOf 28 = .ok (.iconst 1, 1) := by decide +kernel
theorem dX6_isLeftOf_29 : decode cX6_isLeftOf 29 = .ok (.goto 4, 3) := by decide +kernel
theorem dX6_isLeftOf_32 : decode cX6_isLeftOf 32 = .ok (.iconst 0, 1) := by decide +kernel
theorem dX6_isLeftOf_33 : decode cX6_isLeftOf 33 = .ok (.ireturn, 1) := by decide +kernel
theorem dX7_init_0 : decode cX7_init 0 = .ok (.aload_n 0, 1) := by decide +kernel
theorem dX7_init_1 : decode cX7_init 1 = .ok (.invokespecial 1, 3) := by decide +kernel
theorem dX7_init_4 : decode cX7_init 4 = .ok (.aload_n 0, 1) := by decide +kernel
theorem dX7_init_5 : decode cX7_init 5 = .ok (.iconst 0, 1) := by decide +kernel
theorem dX7_init_6 : decode cX7_init 6 = .ok (.putfield 7, 3) := by decide +kernel
theorem dX7_init_9 : decode cX7_init 9 = .ok (.aload_n 0, 1) := by decide +kernel
theorem dX7_init_10 : decode cX7_init 10 = .ok (.new 13, 3) := by decide +kernel
theorem dX7_init_13 : decode cX7_init 13 = .ok (.dup, 1) := by decide +kernel
theorem dX7_init_14 : decode cX7_init 14 = .ok (.invokespecial 15, 3) := by decide +kernel
theorem dX7_init_17 : decode cX7_init 17 = .ok (.putfield 16, 3) := by decide +kernel
theorem dX7_init_20 : decode cX7_init 20 = .ok (.aload_n 0, 1) := by decide +kernel
theorem dX7_init_21 : decode cX7_init 21 = .ok (.new 20, 3) := by decide +kernel
theorem dX7_init_24 : decode cX7_init 24 = .ok (.dup, 1) := by decide +kernel
theorem dX7_init_25 : decode cX7_init 25 = .ok (.invokespecial 22, 3) := by decide +kernel
theorem dX7_init_28 : decode cX7_init 28 = .ok (.putfield 23, 3) := by decide +kernel
theorem dX7_init_31 : decode cX7_init 31 = .ok (.aload_n 0, 1) := by decide +kernel
theorem dX7_init_32 : decode cX7_init 32 = .ok (.new 20, 3) := by decide +kernel
theorem dX7_init_35 : decode cX7_init 35 = .ok (.dup, 1) := by decide +kernel
theorem dX7_init_36 : decode cX7_init 36 = .ok (.invokespecial 22, 3) := by decide +kernel
theorem dX7_init_39 : decode cX7_init 39 = .ok (.putfield 27, 3) := by decide +kernel
theorem dX7_init_42 : decode cX7_init 42 = .ok (.aload_n 0, 1) := by decide +kernel
theorem dX7_init_43 : decode cX7_init 43 = .ok (.new 30, 3) := by decide +kernel
theorem dX7_init_46 : decode cX7_init 46 = .ok (.dup, 1) := by decide +kernel
theorem dX7_init_47 : decode cX7_init 47 = .ok (.invokespecial 32, 3) := by decide +kernel
theorem dX7_init_50 : decode cX7_init 50 = .ok (.putfield 33, 3) := by decide +kernel
theorem dX7_init_53 : decode cX7_init 53 = .ok (.aload_n 0, 1) := by decide +kernel
theorem dX7_init_54 : decode cX7_init 54 = .ok (.new 30, 3) := by decide +kernel
theorem dX7_init_57 : decode cX7_init 57 = .ok (.dup, 1) := by decide +kernel
theorem dX7_init_58 : decode cX7_init 58 = .ok (.invokespecial 32, 3) := by decide +kernel
theorem dX7_init_61 : decode cX7_init 61 = .ok (.putfield 37, 3) := by decide +kernel
theorem dX7_init_64 : decode cX7_init 64 = .ok (.aload_n 0, 1) := by decide +kernel
theorem dX7_init_65 : decode cX7_init 65 = .ok (.new 40, 3) := by decide +kernel
theorem dX7_init_68 : decode cX7_init 68 = .ok (.dup, 1) := by decide +kernel
theorem dX7_init_69 : decode cX7_init 69 = .ok (.invokespecial 42, 3) := by decide +kernel
theorem dX7_init_72 : decode cX7_init 72 = .ok (.putfield 43, 3) := by decide +kernel
theorem dX7_init_75 : decode cX7_init 75 = .ok (.aload_n 0, 1) := by decide +kernel
theorem dX7_init_76 : decode cX7_init 76 = .ok (.new 40, 3) := by decide +kernel
theorem dX7_init_79 : decode cX7_init 79 = .ok (.dup, 1) := by decide +kernel
theorem dX7_init_80 : decode cX7_init 80 = .ok (.invokespecial 42, 3) := by decide +kernel
theorem dX7_init_83 : decode cX7_init 83 = .ok (.putfield 47, 3) := by decide +kernel
theorem dX7_init_86 : decode cX7_init 86 = .ok (.aload_n 0, 1) := by decide +kernel
theorem dX7_init_87 : decode cX7_init 87 = .ok (.new 50, 3) := by decide +kernel
theorem dX7_init_90 : decode cX7_init 90 = .ok (.dup, 1) := by decide +kernel
theorem dX7_init_91 : decode cX7_init 91 = .ok (.invokespecial 52, 3) := by decide +kernel
theorem dX7_init_94 : decode cX7_init 94 = .ok (.putfield 53, 3) := by decide +kernel
theorem dX7_init_97 : decode cX7_init 97 = .ok (.aload_n 0, 1) := by decide +kernel
theorem dX7_init_98 : decode cX7_init 98 = .ok (.new 57, 3) := by decide +kernel
theorem dX7_init_101 : decode cX7_init 101 = .ok (.dup, 1) := by decide +kernel
theorem dX7_init_102 : decode cX7_init 102 = .ok (.invokespecial 59, 3) := by decide +kernel
theorem dX7_init_105 : decode cX7_init 105 = .ok (.putfield 60, 3) := by decide +kernel
theorem dX7_init_108 : decode cX7_init 108 = .ok (.aload_n 0, 1) := by decide +kernel
theorem dX7_init_109 : decode cX7_init 109 = .ok (.new 64, 3) := by decide +kernel
theorem dX7_init_112 : decode cX7_init 112 = .ok (.dup, 1) := by decide +kernel
theorem dX7_init_113 : decode cX7_init 113 = .ok (.invokespecial 66, 3) := by decide +kernel
theorem dX7_init_116 : decode cX7_init 116 = .ok (.putfield 67, 3) := by decide +kernel
theorem dX7_init_119 : decode cX7_init 119 = .ok (.return_, 1) := by decide +kernel
theorem dX7_root_0 : decode cX7_root 0 = .ok (.iload_n 1, 1) := by decide +kernel
theorem dX7_root_1 : decode cX7_root 1 = .ok (.ifCond .eq 26, 3) := by decide +kernel
theorem dX7_root_4 : decode cX7_root 4 = .ok (.iload_n 1, 1) := by decide +kernel
theorem dX7_root_5 : decode cX7_root 5 = .ok (.iconst 2, 1) := by decide +kernel
theorem dX7_root_6 : decode cX7_root 6 = .ok (.if_icmp .eq 21, 3) := by decide +kernel
theorem dX7_root_9 : decode cX7_root 9 = .ok (.iload_n 1, 1) := by decide +kernel
theorem dX7_root_10 : decode cX7_root 10 = .ok (.iconst 3, 1) := by decide +kernel
theorem dX7_root_11 : decode cX7_root 11 = .ok (.if_icmp .eq 16, 3) := by decide +kernel
theorem dX7_root_14 : decode cX7_root 14 = .ok (.iload_n 1, 1) := by decide +kernel
theorem dX7_root_15 : decode cX7_root 15 = .ok (.iconst 5, 1) := by decide +kernel
theorem dX7_root_16 : decode cX7_root 16 = .ok (.if_icmp .eq 11, 3) := by decide +kernel
theorem dX7_root_19 : decode cX7_root 19 = .ok (.iload_n 1, 1) := by decide +kernel
theorem dX7_root_20 : decode cX7_root 20 = .ok (.bipush 7, 2) := by decide +kernel
theorem dX7_root_22 : decode cX7_root 22 = .ok (.if_icmp .eq 5, 3) := by decide +kernel
theorem dX7_root_25 : decode cX7_root 25 = .ok (.iconst 0, 1) := by decide +kernel
theorem dX7_root_26 : decode cX7_root 26 = .ok (.ireturn, 1) := by decide +kernel
theorem dX7_root_27 : decode cX7_root 27 = .ok (.aload_n 0, 1) := by decide +kernel
theorem dX7_root_28 : decode cX7_root 28 = .ok (.iload_n 1, 1) := by decide +kernel
theorem dX7_root_29 : decode cX7_root 29 = .ok (.putfield 7, 3) := by decide +kernel
theorem dX7_root_32 : decode cX7_root 32 = .ok (.aload_n 0, 1) := by decide +kernel
theorem dX7_root_33 : decode cX7_root 33 = .ok (.getfield 16, 3) := by decide +kernel
theorem dX7_root_36 : decode cX7_root 36 = .ok (.invokevirtual 71, 3) := by decide +kernel
theorem dX7_root_39 : decode cX7_root 39 = .ok (.aload_n 0, 1) := by decide +kernel
theorem dX7_root_40 : decode cX7_root 40 = .ok (.getfield 23, 3) := by decide +kernel
theorem dX7_root_43 : decode cX7_root 43 = .ok (.iconst 0, 1) := by decide +kernel
theorem dX7_root_44 : decode cX7_root 44 = .ok (.putfield 74, 3) := by decide +kernel
theorem dX7_root_47 : decode cX7_root 47 = .ok (.aload_n 0, 1) := by decide +kernel
theorem dX7_root_48 : decode cX7_root 48 = .ok (.getfield 43, 3) := by decide +kernel
theorem dX7_root_51 : decode cX7_root 51 = .ok (.iconst 0, 1) := by decide +kernel
theorem dX7_root_52 : decode cX7_root 52 = .ok (.putfield 77, 3) := by decide +kernel
theorem dX7_root_55 : decode cX7_root 55 = .ok (.iconst 1, 1) := by decide +kernel
theorem dX7_root_56 : decode cX7_root 56 = .ok (.ireturn, 1) := by decide +kernel
theorem dX7_length_0 : decode cX7_length 0 = .ok (.iload_n 1, 1) := by decide +kernel
theorem dX7_length_1 : decode cX7_length 1 = .ok (.ifCond .lt 35, 3) := by decide +kernel
theorem dX7_length_4 : decode cX7_length 4 = .ok (.iload_n 1, 1) := by decide +kernel
theorem dX7_length_5 : decode cX7_length 5 = .ok (.bipush 8, 2) := by decide +kernel
theorem dX7_length_7 : decode cX7_length 7 = .ok (.if_icmp .ge 29, 3) := by decide +kernel
theorem dX7_length_10 : decode cX7_length 10 = .ok (.aload_n 0, 1) := by decide +kernel
theorem dX7_length_11 : decode cX7_length 11 = .ok (.iload_n 2, 1) := by decide +kernel
theorem dX7_length_12 : decode cX7_length 12 = .ok (.iload_n 3, 1) := by decide +kernel
theorem dX7_length_13 : decode cX7_length 13 = .ok (.sipush 16384, 3) := by decide +kernel
theorem dX7_length_16 : decode cX7_length 16 = .ok (.invokevirtual 81, 3) := by decide +kernel
theorem dX7_length_19 : decode cX7_length 19 = .ok (.ifCond .eq 17, 3) := by decide +kernel
theorem dX7_length_22 : decode cX7_length 22 = .ok (.iload_n 2, 1) := by decide +kernel
theorem dX7_length_23 : decode cX7_length 23 = .ok (.i2l, 1) := by decide +kernel
theorem dX7_length_24 : decode cX7_length 24 = .ok (.iload_n 3, 1) := by decide +kernel
theorem dX7_length_25 : decode cX7_length 25 = .ok (.i2l, 1) := by decide +kernel
theorem dX7_length_26 : decode cX7_length 26 = .ok (.aload_n 0, 1) := by decide +kernel
theorem dX7_length_27 : decode cX7_length 27 = .ok (.getfield 7, 3) := by decide +kernel
theorem dX7_length_30 : decode cX7_length 30 = .ok (.invokestatic 85, 3) := by decide +kernel
theorem dX7_length_33 : decode cX7_length 33 = .ok (.ifCond .gt 5, 3) := by decide +kernel
theorem dX7_length_36 : decode cX7_length 36 = .ok (.iconst 0, 1) := by decide +kernel
theorem dX7_length_37 : decode cX7_length 37 = .ok (.ireturn, 1) := by decide +kernel
theorem dX7_length_38 : decode cX7_length 38 = .ok (.aload_n 0, 1) := by decide +kernel
theorem dX7_length_39 : decode cX7_length 39 = .ok (.getfield 16, 3) := by decide +kernel
theorem dX7_length_42 : decode cX7_length 42 = .ok (.getfield 89, 3) := by decide +kernel
theorem dX7_length_45 : decode cX7_length 45 = .ok (.iload_n 1, 1) := by decide +kernel
theorem dX7_length_46 : decode cX7_length 46 = .ok (.iload_n 2, 1) := by decide +kernel
theorem dX7_length_47 : decode cX7_length 47 = .ok (.iastore, 1) := by decide +kernel
theorem dX7_length_48 : decode cX7_length 48 = .ok (.aload_n 0, 1) := by decide +kernel
theorem dX7_length_49 : decode cX7_length 49 = .ok (.getfield 16, 3) := by decide +kernel
theorem dX7_length_52 : decode cX7_length 52 = .ok (.getfield 93, 3) := by decide +kernel
theorem dX7_length_55 : decode cX7_length 55 = .ok (.iload_n 1, 1) := by decide +kernel
theorem dX7_length_56 : decode cX7_length 56 = .ok (.iload_n 3, 1) := by decide +kernel
theorem dX7_length_57 : decode cX7_length 57 = .ok (.iastore, 1) := by decide +kernel
theorem dX7_length_58 : decode cX7_length 58 = .ok (.iconst 1, 1) := by decide +kernel
theorem dX7_length_59 : decode cX7_length 59 = .ok (.ireturn, 1) := by decide +kernel
theorem dX7_below_0 : decode cX7_below 0 = .ok (.aload_n 0, 1) := by decide +kernel
theorem dX7_below_1 : decode cX7_below 1 = .ok (.getfield 16, 3) := by decide +kernel
theorem dX7_below_4 : decode cX7_below 4 = .ok (.iload_n 1, 1) := by decide +kernel
theorem dX7_below_5 : decode cX7_below 5 = .ok (.iload_n 2, 1) := by decide +kernel
theorem dX7_below_6 : decode cX7_below 6 = .ok (.invokevirtual 96, 3) := by decide +kernel
theorem dX7_below_9 : decode cX7_below 9 = .ok (.ireturn, 1) := by decide +kernel
theorem dX7_lay_0 : decode cX7_lay 0 = .ok (.aload_n 0, 1) := by decide +kernel
theorem dX7_lay_1 : decode cX7_lay 1 = .ok (.getfield 16, 3) := by decide +kernel
theorem dX7_lay_4 : decode cX7_lay 4 = .ok (.getfield 100, 3) := by decide +kernel
theorem dX7_lay_7 : decode cX7_lay 7 = .ok (.ifCond .ne 5, 3) := by decide +kernel
theorem dX7_lay_10 : decode cX7_lay 10 = .ok (.iconst (-1), 1) := by decide +kernel
theorem dX7_lay_11 : decode cX7_lay 11 = .ok (.ireturn, 1) := by decide +kernel
theorem dX7_lay_12 : decode cX7_lay 12 = .ok (.aload_n 0, 1) := by decide +kernel
theorem dX7_lay_13 : decode cX7_lay 13 = .ok (.getfield 16, 3) := by decide +kernel
theorem dX7_lay_16 : decode cX7_lay 16 = .ok (.invokevirtual 101, 3) := by decide +kernel
theorem dX7_lay_19 : decode cX7_lay 19 = .ok (.ifCond .ne 6, 3) := by decide +kernel
theorem dX7_lay_22 : decode cX7_lay 22 = .ok (.bipush (-2), 2) := by decide +kernel
theorem dX7_lay_24 : decode cX7_lay 24 = .ok (.ireturn, 1) := by decide +kernel
theorem dX7_lay_25 : decode cX7_lay 25 = .ok (.aload_n 0, 1) := by decide +kernel
theorem dX7_lay_26 : decode cX7_lay 26 = .ok (.getfield 23, 3) := by decide +kernel
theorem dX7_lay_29 : decode cX7_lay 29 = .ok (.aload_n 0, 1) := by decide +kernel
theorem dX7_lay_30 : decode cX7_lay 30 = .ok (.getfield 16, 3) := by decide +kernel
theorem dX7_lay_33 : decode cX7_lay 33 = .ok (.aload_n 0, 1) := by decide +kernel
theorem dX7_lay_34 : decode cX7_lay 34 = .ok (.getfield 7, 3) := by decide +kernel
theorem dX7_lay_37 : decode cX7_lay 37 = .ok (.invokevirtual 105, 3) := by decide +kernel
theorem dX7_lay_40 : decode cX7_lay 40 = .ok (.aload_n 0, 1) := by decide +kernel
theorem dX7_lay_41 : decode cX7_lay 41 = .ok (.invokevirtual 109, 3) := by decide +kernel
theorem dX7_lay_44 : decode cX7_lay 44 = .ok (.aload_n 0, 1) := by decide +kernel
theorem dX7_lay_45 : decode cX7_lay 45 = .ok (.getfield 43, 3) := by decide +kernel
theorem dX7_lay_48 : decode cX7_lay 48 = .ok (.iconst 0, 1) := by decide +kernel
theorem dX7_lay_49 : decode cX7_lay 49 = .ok (.putfield 77, 3) := by decide +kernel
theorem dX7_lay_52 : decode cX7_lay 52 = .ok (.aload_n 0, 1) := by decide +kernel
theorem dX7_lay_53 : decode cX7_lay 53 = .ok (.getfield 23, 3) := by decide +kernel
theorem dX7_lay_56 : decode cX7_lay 56 = .ok (.getfield 74, 3) := by decide +kernel
theorem dX7_lay_59 : decode cX7_lay 59 = .ok (.ireturn, 1) := by decide +kernel
theorem dX7_of_0 : decode cX7_of 0 = .ok (.aload_n 0, 1) := by decide +kernel
theorem dX7_of_1 : decode cX7_of 1 = .ok (.getfield 23, 3) := by decide +kernel
theorem dX7_of_4 : decode cX7_of 4 = .ok (.getfield 74, 3) := by decide +kernel
theorem dX7_of_7 : decode cX7_of 7 = .ok (.ifCond .ne 5, 3) := by decide +kernel
theorem dX7_of_10 : decode cX7_of 10 = .ok (.iconst (-1), 1) := by decide +kernel
theorem dX7_of_11 : decode cX7_of 11 = .ok (.ireturn, 1) := by decide +kernel
theorem dX7_of_12 : decode cX7_of 12 = .ok (.iload_n 1, 1) := by decide +kernel
theorem dX7_of_13 : decode cX7_of 13 = .ok (.tableswitch 63 0 3 #[31, 39, 47, 55], 31) := by decide +kernel
theorem dX7_of_44 : decode cX7_of 44 = .ok (.aload_n 0, 1) := by decide +kernel
theorem dX7_of_45 : decode cX7_of 45 = .ok (.getfield 23, 3) := by decide +kernel
theorem dX7_of_48 : decode cX7_of 48 = .ok (.getfield 74, 3) := by decide +kernel
theorem dX7_of_51 : decode cX7_of 51 = .ok (.ireturn, 1) := by decide +kernel
theorem dX7_of_52 : decode cX7_of 52 = .ok (.aload_n 0, 1) := by decide +kernel
theorem dX7_of_53 : decode cX7_of 53 = .ok (.getfield 23, 3) := by decide +kernel
theorem dX7_of_56 : decode cX7_of 56 = .ok (.getfield 112, 3) := by decide +kernel
theorem dX7_of_59 : decode cX7_of 59 = .ok (.ireturn, 1) := by decide +kernel
theorem dX7_of_60 : decode cX7_of 60 = .ok (.aload_n 0, 1) := by decide +kernel
theorem dX7_of_61 : decode cX7_of 61 = .ok (.getfield 23, 3) := by decide +kernel
theorem dX7_of_64 : decode cX7_of 64 = .ok (.invokevirtual 115, 3) := by decide +kernel
theorem dX7_of_67 : decode cX7_of 67 = .ok (.ireturn, 1) := by decide +kernel
theorem dX7_of_68 : decode cX7_of 68 = .ok (.aload_n 0, 1) := by decide +kernel
theorem dX7_of_69 : decode cX7_of 69 = .ok (.getfield 23, 3) := by decide +kernel
theorem dX7_of_72 : decode cX7_of 72 = .ok (.getfield 119, 3) := by decide +kernel
theorem dX7_of_75 : decode cX7_of 75 = .ok (.ireturn, 1) := by decide +kernel
theorem dX7_of_76 : decode cX7_of 76 = .ok (.iconst (-1), 1) := by decide +kernel
theorem dX7_of_77 : decode cX7_of 77 = .ok (.ireturn, 1) := by decide +kernel
theorem dX7_spans_0 : decode cX7_spans 0 = .ok (.iload_n 1, 1) := by decide +kernel
theorem dX7_spans_1 : decode cX7_spans 1 = .ok (.ifCond .lt 33, 3) := by decide +kernel
theorem dX7_spans_4 : decode cX7_spans 4 = .ok (.iload_n 1, 1) := by decide +kernel
theorem dX7_spans_5 : decode cX7_spans 5 = .ok (.aload_n 0, 1) := by decide +kernel
theorem dX7_spans_6 : decode cX7_spans 6 = .ok (.getfield 23, 3) := by decide +kernel
theorem dX7_spans_9 : decode cX7_spans 9 = .ok (.getfield 74, 3) := by decide +kernel
theorem dX7_spans_12 : decode cX7_spans 12 = .ok (.if_icmp .gt 22, 3) := by decide +kernel
theorem dX7_spans_15 : decode cX7_spans 15 = .ok (.aload_n 0, 1) := by decide +kernel
theorem dX7_spans_16 : decode cX7_spans 16 = .ok (.getfield 23, 3) := by decide +kernel
theorem dX7_spans_19 : decode cX7_spans 19 = .ok (.getfield 74, 3) := by decide +kernel
theorem dX7_spans_22 : decode cX7_spans 22 = .ok (.ifCond .eq 12, 3) := by decide +kernel
theorem dX7_spans_25 : decode cX7_spans 25 = .ok (.iload_n 2, 1) := by decide +kernel
theorem dX7_spans_26 : decode cX7_spans 26 = .ok (.ifCond .lt 8, 3) := by decide +kernel
theorem dX7_spans_29 : decode cX7_spans 29 = .ok (.iload_n 2, 1) := by decide +kernel
theorem dX7_spans_30 : decode cX7_spans 30 = .ok (.iconst 1, 1) := by decide +kernel
theorem dX7_spans_31 : decode cX7_spans 31 = .ok (.if_icmp .le 5, 3) := by decide +kernel
theorem dX7_spans_34 : decode cX7_spans 34 = .ok (.lconst 0, 1) := by decide +kernel
theorem dX7_spans_35 : decode cX7_spans 35 = .ok (.lreturn, 1) := by decide +kernel
theorem dX7_spans_36 : decode cX7_spans 36 = .ok (.iload_n 1, 1) := by decide +kernel
theorem dX7_spans_37 : decode cX7_spans 37 = .ok (.aload_n 0, 1) := by decide +kernel
theorem dX7_spans_38 : decode cX7_spans 38 = .ok (.getfield 23, 3) := by decide +kernel
theorem dX7_spans_41 : decode cX7_spans 41 = .ok (.getfield 74, 3) := by decide +kernel
theorem dX7_spans_44 : decode cX7_spans 44 = .ok (.if_icmp .ne 29, 3) := by decide +kernel
theorem dX7_spans_47 : decode cX7_spans 47 = .ok (.iload_n 2, 1) := by decide +kernel
theorem dX7_spans_48 : decode cX7_spans 48 = .ok (.ifCond .ne 15, 3) := by decide +kernel
theorem dX7_spans_51 : decode cX7_spans 51 = .ok (.aload_n 0, 1) := by decide +kernel
theorem dX7_spans_52 : decode cX7_spans 52 = .ok (.getfield 33, 3) := by decide +kernel
theorem dX7_spans_55 : decode cX7_spans 55 = .ok (.getfield 122, 3) := by decide +kernel
theorem dX7_spans_58 : decode cX7_spans 58 = .ok (.iload_n 1, 1) := by decide +kernel
theorem dX7_spans_59 : decode cX7_spans 59 = .ok (.laload, 1) := by decide +kernel
theorem dX7_spans_60 : decode cX7_spans 60 = .ok (.goto 12, 3) := by decide +kernel
theorem dX7_spans_63 : decode cX7_spans 63 = .ok (.aload_n 0, 1) := by decide +kernel
theorem dX7_spans_64 : decode cX7_spans 64 = .ok (.getfield 33, 3) := by decide +kernel
theorem dX7_spans_67 : decode cX7_spans 67 = .ok (.getfield 126, 3) := by decide +kernel
theorem dX7_spans_70 : decode cX7_spans 70 = .ok (.iload_n 1, 1) := by decide +kernel
theorem dX7_spans_71 : decode cX7_spans 71 = .ok (.laload, 1) := by decide +kernel
theorem dX7_spans_72 : decode cX7_spans 72 = .ok (.lreturn, 1) := by decide +kernel
theorem dX7_spans_73 : decode cX7_spans 73 = .ok (.iload_n 2, 1) := by decide +kernel
theorem dX7_spans_74 : decode cX7_spans 74 = .ok (.ifCond .ne 16, 3) := by decide +kernel
theorem dX7_spans_77 : decode cX7_spans 77 = .ok (.aload_n 0, 1) := by decide +kernel
theorem dX7_spans_78 : decode cX7_spans 78 = .ok (.getfield 23, 3) := by decide +kernel
theorem dX7_spans_81 : decode cX7_spans 81 = .ok (.getfield 129, 3) := by decide +kernel
theorem dX7_spans_84 : decode cX7_spans 84 = .ok (.iload_n 1, 1) := by decide +kernel
theorem dX7_spans_85 : decode cX7_spans 85 = .ok (.iaload, 1) := by decide +kernel
theorem dX7_spans_86 : decode cX7_spans 86 = .ok (.i2l, 1) := by decide +kernel
theorem dX7_spans_87 : decode cX7_spans 87 = .ok (.goto 13, 3) := by decide +kernel
theorem dX7_spans_90 : decode cX7_spans 90 = .ok (.aload_n 0, 1) := by decide +kernel
theorem dX7_spans_91 : decode cX7_spans 91 = .ok (.getfield 23, 3) := by decide +kernel
theorem dX7_spans_94 : decode cX7_spans 94 = .ok (.getfield 130, 3) := by decide +kernel
theorem dX7_spans_97 : decode cX7_spans 97 = .ok (.iload_n 1, 1) := by decide +kernel
theorem dX7_spans_98 : decode cX7_spans 98 = .ok (.iaload, 1) := by decide +kernel
theorem dX7_spans_99 : decode cX7_spans 99 = .ok (.i2l, 1) := by decide +kernel
theorem dX7_spans_100 : decode cX7_spans 100 = .ok (.lreturn, 1) := by decide +kernel
theorem dX7_order_0 : decode cX7_order 0 = .ok (.iload_n 1, 1) := by decide +kernel
theorem dX7_order_1 : decode cX7_order 1 = .ok (.ifCond .lt 23, 3) := by decide +kernel
theorem dX7_order_4 : decode cX7_order 4 = .ok (.iload_n 1, 1) := by decide +kernel
theorem dX7_order_5 : decode cX7_order 5 = .ok (.iconst 1, 1) := by decide +kernel
theorem dX7_order_6 : decode cX7_order 6 = .ok (.if_icmp .gt 18, 3) := by decide +kernel
theorem dX7_order_9 : decode cX7_order 9 = .ok (.iload_n 2, 1) := by decide +kernel
theorem dX7_order_10 : decode cX7_order 10 = .ok (.ifCond .lt 14, 3) := by decide +kernel
theorem dX7_order_13 : decode cX7_order 13 = .ok (.iload_n 2, 1) := by decide +kernel
theorem dX7_order_14 : decode cX7_order 14 = .ok (.aload_n 0, 1) := by decide +kernel
theorem dX7_order_15 : decode cX7_order 15 = .ok (.getfield 23, 3) := by decide +kernel
theorem dX7_order_18 : decode cX7_order 18 = .ok (.getfield 74, 3) := by decide +kernel
theorem dX7_order_21 : decode cX7_order 21 = .ok (.if_icmp .lt 5, 3) := by decide +kernel
theorem dX7_order_24 : decode cX7_order 24 = .ok (.iconst (-1), 1) := by decide +kernel
theorem dX7_order_25 : decode cX7_order 25 = .ok (.ireturn, 1) := by decide +kernel
theorem dX7_order_26 : decode cX7_order 26 = .ok (.iload_n 1, 1) := by decide +kernel
theorem dX7_order_27 : decode cX7_order 27 = .ok (.ifCond .ne 15, 3) := by decide +kernel
theorem dX7_order_30 : decode cX7_order 30 = .ok (.aload_n 0, 1) := by decide +kernel
theorem dX7_order_31 : decode cX7_order 31 = .ok (.getfield 23, 3) := by decide +kernel
theorem dX7_order_34 : decode cX7_order 34 = .ok (.getfield 131, 3) := by decide +kernel
theorem dX7_order_37 : decode cX7_order 37 = .ok (.iload_n 2, 1) := by decide +kernel
theorem dX7_order_38 : decode cX7_order 38 = .ok (.iaload, 1) := by decide +kernel
theorem dX7_order_39 : decode cX7_order 39 = .ok (.goto 12, 3) := by decide +kernel
theorem dX7_order_42 : decode cX7_order 42 = .ok (.aload_n 0, 1) := by decide +kernel
theorem dX7_order_43 : decode cX7_order 43 = .ok (.getfield 23, 3) := by decide +kernel
theorem dX7_order_46 : decode cX7_order 46 = .ok (.getfield 134, 3) := by decide +kernel
theorem dX7_order_49 : decode cX7_order 49 = .ok (.iload_n 2, 1) := by decide +kernel
theorem dX7_order_50 : decode cX7_order 50 = .ok (.iaload, 1) := by decide +kernel
theorem dX7_order_51 : decode cX7_order 51 = .ok (.ireturn, 1) := by decide +kernel
theorem dX7_point_0 : decode cX7_point 0 = .ok (.aload_n 0, 1) := by decide +kernel
theorem dX7_point_1 : decode cX7_point 1 = .ok (.getfield 23, 3) := by decide +kernel
theorem dX7_point_4 : decode cX7_point 4 = .ok (.getfield 74, 3) := by decide +kernel
theorem dX7_point_7 : decode cX7_point 7 = .ok (.ifCond .eq 28, 3) := by decide +kernel
theorem dX7_point_10 : decode cX7_point 10 = .ok (.aload_n 0, 1) := by decide +kernel
theorem dX7_point_11 : decode cX7_point 11 = .ok (.iload_n 1, 1) := by decide +kernel
theorem dX7_point_12 : decode cX7_point 12 = .ok (.iload_n 2, 1) := by decide +kernel
theorem dX7_point_13 : decode cX7_point 13 = .ok (.ldc 137, 2) := by decide +kernel
theorem dX7_point_15 : decode cX7_point 15 = .ok (.invokevirtual 81, 3) := by decide +kernel
theorem dX7_point_18 : decode cX7_point 18 = .ok (.ifCond .eq 17, 3) := by decide +kernel
theorem dX7_point_21 : decode cX7_point 21 = .ok (.aload_n 0, 1) := by decide +kernel
theorem dX7_point_22 : decode cX7_point 22 = .ok (.getfield 33, 3) := by decide +kernel
theorem dX7_point_25 : decode cX7_point 25 = .ok (.iload_n 1, 1) := by decide +kernel
theorem dX7_point_26 : decode cX7_point 26 = .ok (.i2l, 1) := by decide +kernel
theorem dX7_point_27 : decode cX7_point 27 = .ok (.iload_n 2, 1) := by decide +kernel
theorem dX7_point_28 : decode cX7_point 28 = .ok (.i2l, 1) := by decide +kernel
theorem dX7_point_29 : decode cX7_point 29 = .ok (.invokevirtual 138, 3) := by decide +kernel
theorem dX7_point_32 : decode cX7_point 32 = .ok (.ifCond .ne 5, 3) := by decide +kernel
theorem dX7_point_35 : decode cX7_point 35 = .ok (.iconst (-1), 1) := by decide +kernel
theorem dX7_point_36 : decode cX7_point 36 = .ok (.ireturn, 1) := by decide +kernel
theorem dX7_point_37 : decode cX7_point 37 = .ok (.aload_n 0, 1) := by decide +kernel
theorem dX7_point_38 : decode cX7_point 38 = .ok (.getfield 43, 3) := by decide +kernel
theorem dX7_point_41 : decode cX7_point 41 = .ok (.iload_n 1, 1) := by decide +kernel
theorem dX7_point_42 : decode cX7_point 42 = .ok (.i2l, 1) := by decide +kernel
theorem dX7_point_43 : decode cX7_point 43 = .ok (.iload_n 2, 1) := by decide +kernel
theorem dX7_point_44 : decode cX7_point 44 = .ok (.i2l, 1) := by decide +kernel
theorem dX7_point_45 : decode cX7_point 45 = .ok (.invokevirtual 142, 3) := by decide +kernel
theorem dX7_point_48 : decode cX7_point 48 = .ok (.aload_n 0, 1) := by decide +kernel
theorem dX7_point_49 : decode cX7_point 49 = .ok (.getfield 33, 3) := by decide +kernel
theorem dX7_point_52 : decode cX7_point 52 = .ok (.aload_n 0, 1) := by decide +kernel
theorem dX7_point_53 : decode cX7_point 53 = .ok (.getfield 43, 3) := by decide +kernel
theorem dX7_point_56 : decode cX7_point 56 = .ok (.invokevirtual 146, 3) := by decide +kernel
theorem dX7_point_59 : decode cX7_point 59 = .ok (.ireturn, 1) := by decide +kernel
theorem dX7_move_0 : decode cX7_move 0 = .ok (.aload_n 0, 1) := by decide +kernel
theorem dX7_move_1 : decode cX7_move 1 = .ok (.getfield 43, 3) := by decide +kernel
theorem dX7_move_4 : decode cX7_move 4 = .ok (.getfield 77, 3) := by decide +kernel
theorem dX7_move_7 : decode cX7_move 7 = .ok (.ifCond .eq 17, 3) := by decide +kernel
theorem dX7_move_10 : decode cX7_move 10 = .ok (.iload_n 1, 1) := by decide +kernel
theorem dX7_move_11 : decode cX7_move 11 = .ok (.sipush (-1000), 3) := by decide +kernel
theorem dX7_move_14 : decode cX7_move 14 = .ok (.if_icmp .lt 10, 3) := by decide +kernel
theorem dX7_move_17 : decode cX7_move 17 = .ok (.iload_n 1, 1) := by decide +kernel
theorem dX7_move_18 : decode cX7_move 18 = .ok (.sipush 1000, 3) := by decide +kernel
theorem dX7_move_21 : decode cX7_move 21 = .ok (.if_icmp .le 5, 3) := by decide +kernel
theorem dX7_move_24 : decode cX7_move 24 = .ok (.iconst (-1), 1) := by decide +kernel
theorem dX7_move_25 : decode cX7_move 25 = .ok (.ireturn, 1) := by decide +kernel
theorem dX7_move_26 : decode cX7_move 26 = .ok (.iload_n 1, 1) := by decide +kernel
theorem dX7_move_27 : decode cX7_move 27 = .ok (.ifCond .ge 10, 3) := by decide +kernel
theorem dX7_move_30 : decode cX7_move 30 = .ok (.aload_n 0, 1) := by decide +kernel
theorem dX7_move_31 : decode cX7_move 31 = .ok (.getfield 37, 3) := by decide +kernel
theorem dX7_move_34 : decode cX7_move 34 = .ok (.goto 7, 3) := by decide +kernel
theorem dX7_move_37 : decode cX7_move 37 = .ok (.aload_n 0, 1) := by decide +kernel
theorem dX7_move_38 : decode cX7_move 38 = .ok (.getfield 33, 3) := by decide +kernel
theorem dX7_move_41 : decode cX7_move 41 = .ok (.astore_n 2, 1) := by decide +kernel
theorem dX7_move_42 : decode cX7_move 42 = .ok (.iload_n 1, 1) := by decide +kernel
theorem dX7_move_43 : decode cX7_move 43 = .ok (.ifCond .ge 8, 3) := by decide +kernel
theorem dX7_move_46 : decode cX7_move 46 = .ok (.iload_n 1, 1) := by decide +kernel
theorem dX7_move_47 : decode cX7_move 47 = .ok (.ineg, 1) := by decide +kernel
theorem dX7_move_48 : decode cX7_move 48 = .ok (.goto 4, 3) := by decide +kernel
theorem dX7_move_51 : decode cX7_move 51 = .ok (.iload_n 1, 1) := by decide +kernel
theorem dX7_move_52 : decode cX7_move 52 = .ok (.istore_n 3, 1) := by decide +kernel
theorem dX7_move_53 : decode cX7_move 53 = .ok (.aload_n 0, 1) := by decide +kernel
theorem dX7_move_54 : decode cX7_move 54 = .ok (.getfield 47, 3) := by decide +kernel
theorem dX7_move_57 : decode cX7_move 57 = .ok (.aload_n 0, 1) := by decide +kernel
theorem dX7_move_58 : decode cX7_move 58 = .ok (.getfield 43, 3) := by decide +kernel
theorem dX7_move_61 : decode cX7_move 61 = .ok (.getfield 150, 3) := by decide +kernel
theorem dX7_move_64 : decode cX7_move 64 = .ok (.aload_n 0, 1) := by decide +kernel
theorem dX7_move_65 : decode cX7_move 65 = .ok (.getfield 43, 3) := by decide +kernel
theorem dX7_move_68 : decode cX7_move 68 = .ok (.getfield 154, 3) := by decide +kernel
theorem dX7_move_71 : decode cX7_move 71 = .ok (.invokevirtual 142, 3) := by decide +kernel
theorem dX7_move_74 : decode cX7_move 74 = .ok (.iconst 0, 1) := by decide +kernel
theorem dX7_move_75 : decode cX7_move 75 = .ok (.istore 4, 2) := by decide +kernel
theorem dX7_move_77 : decode cX7_move 77 = .ok (.iload 4, 2) := by decide +kernel
theorem dX7_move_79 : decode cX7_move 79 = .ok (.iload_n 3, 1) := by decide +kernel
theorem dX7_move_80 : decode cX7_move 80 = .ok (.if_icmp .ge 22, 3) := by decide +kernel
theorem dX7_move_83 : decode cX7_move 83 = .ok (.aload_n 2, 1) := by decide +kernel
theorem dX7_move_84 : decode cX7_move 84 = .ok (.aload_n 0, 1) := by decide +kernel
theorem dX7_move_85 : decode cX7_move 85 = .ok (.getfield 47, 3) := by decide +kernel
theorem dX7_move_88 : decode cX7_move 88 = .ok (.invokevirtual 157, 3) := by decide +kernel
theorem dX7_move_91 : decode cX7_move 91 = .ok (.ifCond .ne 5, 3) := by decide +kernel
theorem dX7_move_94 : decode cX7_move 94 = .ok (.iconst (-1), 1) := by decide +kernel
theorem dX7_move_95 : decode cX7_move 95 = .ok (.ireturn, 1) := by decide +kernel
theorem dX7_move_96 : decode cX7_move 96 = .ok (.iinc 4 1, 3) := by decide +kernel
theorem dX7_move_99 : decode cX7_move 99 = .ok (.goto (-22), 3) := by decide +kernel
theorem dX7_move_102 : decode cX7_move 102 = .ok (.aload_n 0, 1) := by decide +kernel
theorem dX7_move_103 : decode cX7_move 103 = .ok (.getfield 43, 3) := by decide +kernel
theorem dX7_move_106 : decode cX7_move 106 = .ok (.aload_n 0, 1) := by decide +kernel
theorem dX7_move_107 : decode cX7_move 107 = .ok (.getfield 47, 3) := by decide +kernel
theorem dX7_move_110 : decode cX7_move 110 = .ok (.getfield 150, 3) := by decide +kernel
theorem dX7_move_113 : decode cX7_move 113 = .ok (.aload_n 0, 1) := by decide +kernel
theorem dX7_move_114 : decode cX7_move 114 = .ok (.getfield 47, 3) := by decide +kernel
theorem dX7_move_117 : decode cX7_move 117 = .ok (.getfield 154, 3) := by decide +kernel
theorem dX7_move_120 : decode cX7_move 120 = .ok (.invokevirtual 142, 3) := by decide +kernel
theorem dX7_move_123 : decode cX7_move 123 = .ok (.aload_n 0, 1) := by decide +kernel
theorem dX7_move_124 : decode cX7_move 124 = .ok (.getfield 33, 3) := by decide +kernel
theorem dX7_move_127 : decode cX7_move 127 = .ok (.aload_n 0, 1) := by decide +kernel
theorem dX7_move_128 : decode cX7_move 128 = .ok (.getfield 43, 3) := by decide +kernel
theorem dX7_move_131 : decode cX7_move 131 = .ok (.invokevirtual 146, 3) := by decide +kernel
theorem dX7_move_134 : decode cX7_move 134 = .ok (.ireturn, 1) := by decide +kernel
theorem dX7_where_0 : decode cX7_where 0 = .ok (.aload_n 0, 1) := by decide +kernel
theorem dX7_where_1 : decode cX7_where 1 = .ok (.getfield 43, 3) := by decide +kernel
theorem dX7_where_4 : decode cX7_where 4 = .ok (.getfield 77, 3) := by decide +kernel
theorem dX7_where_7 : decode cX7_where 7 = .ok (.ifCond .eq 12, 3) := by decide +kernel
theorem dX7_where_10 : decode cX7_where 10 = .ok (.iload_n 1, 1) := by decide +kernel
theorem dX7_where_11 : decode cX7_where 11 = .ok (.ifCond .lt 8, 3) := by decide +kernel
theorem dX7_where_14 : decode cX7_where 14 = .ok (.iload_n 1, 1) := by decide +kernel
theorem dX7_where_15 : decode cX7_where 15 = .ok (.iconst 1, 1) := by decide +kernel
theorem dX7_where_16 : decode cX7_where 16 = .ok (.if_icmp .le 7, 3) := by decide +kernel
theorem dX7_where_19 : decode cX7_where 19 = .ok (.ldc2_w 161, 3) := by decide +kernel
theorem dX7_where_22 : decode cX7_where 22 = .ok (.lreturn, 1) := by decide +kernel
theorem dX7_where_23 : decode cX7_where 23 = .ok (.iload_n 1, 1) := by decide +kernel
theorem dX7_where_24 : decode cX7_where 24 = .ok (.ifCond .ne 13, 3) := by decide +kernel
theorem dX7_where_27 : decode cX7_where 27 = .ok (.aload_n 0, 1) := by decide +kernel
theorem dX7_where_28 : decode cX7_where 28 = .ok (.getfield 43, 3) := by decide +kernel
theorem dX7_where_31 : decode cX7_where 31 = .ok (.getfield 150, 3) := by decide +kernel
theorem dX7_where_34 : decode cX7_where 34 = .ok (.goto 10, 3) := by decide +kernel
theorem dX7_where_37 : decode cX7_where 37 = .ok (.aload_n 0, 1) := by decide +kernel
theorem dX7_where_38 : decode cX7_where 38 = .ok (.getfield 43, 3) := by decide +kernel
theorem dX7_where_41 : decode cX7_where 41 = .ok (.getfield 154, 3) := by decide +kernel
theorem dX7_where_44 : decode cX7_where 44 = .ok (.lreturn, 1) := by decide +kernel
theorem dX7_back_0 : decode cX7_back 0 = .ok (.aload_n 0, 1) := by decide +kernel
theorem dX7_back_1 : decode cX7_back 1 = .ok (.getfield 43, 3) := by decide +kernel
theorem dX7_back_4 : decode cX7_back 4 = .ok (.getfield 77, 3) := by decide +kernel
theorem dX7_back_7 : decode cX7_back 7 = .ok (.ifCond .eq 28, 3) := by decide +kernel
theorem dX7_back_10 : decode cX7_back 10 = .ok (.aload_n 0, 1) := by decide +kernel
theorem dX7_back_11 : decode cX7_back 11 = .ok (.iload_n 1, 1) := by decide +kernel
theorem dX7_back_12 : decode cX7_back 12 = .ok (.iload_n 2, 1) := by decide +kernel
theorem dX7_back_13 : decode cX7_back 13 = .ok (.ldc 137, 2) := by decide +kernel
theorem dX7_back_15 : decode cX7_back 15 = .ok (.invokevirtual 81, 3) := by decide +kernel
theorem dX7_back_18 : decode cX7_back 18 = .ok (.ifCond .eq 17, 3) := by decide +kernel
theorem dX7_back_21 : decode cX7_back 21 = .ok (.iload_n 1, 1) := by decide +kernel
theorem dX7_back_22 : decode cX7_back 22 = .ok (.i2l, 1) := by decide +kernel
theorem dX7_back_23 : decode cX7_back 23 = .ok (.iload_n 2, 1) := by decide +kernel
theorem dX7_back_24 : decode cX7_back 24 = .ok (.i2l, 1) := by decide +kernel
theorem dX7_back_25 : decode cX7_back 25 = .ok (.aload_n 0, 1) := by decide +kernel
theorem dX7_back_26 : decode cX7_back 26 = .ok (.getfield 7, 3) := by decide +kernel
theorem dX7_back_29 : decode cX7_back 29 = .ok (.invokestatic 85, 3) := by decide +kernel
theorem dX7_back_32 : decode cX7_back 32 = .ok (.ifCond .gt 5, 3) := by decide +kernel
theorem dX7_back_35 : decode cX7_back 35 = .ok (.iconst (-1), 1) := by decide +kernel
theorem dX7_back_36 : decode cX7_back 36 = .ok (.ireturn, 1) := by decide +kernel
theorem dX7_back_37 : decode cX7_back 37 = .ok (.aload_n 0, 1) := by decide +kernel
theorem dX7_back_38 : decode cX7_back 38 = .ok (.getfield 47, 3) := by decide +kernel
theorem dX7_back_41 : decode cX7_back 41 = .ok (.aload_n 0, 1) := by decide +kernel
theorem dX7_back_42 : decode cX7_back 42 = .ok (.getfield 43, 3) := by decide +kernel
theorem dX7_back_45 : decode cX7_back 45 = .ok (.getfield 150, 3) := by decide +kernel
theorem dX7_back_48 : decode cX7_back 48 = .ok (.aload_n 0, 1) := by decide +kernel
theorem dX7_back_49 : decode cX7_back 49 = .ok (.getfield 43, 3) := by decide +kernel
theorem dX7_back_52 : decode cX7_back 52 = .ok (.getfield 154, 3) := by decide +kernel
theorem dX7_back_55 : decode cX7_back 55 = .ok (.invokevirtual 142, 3) := by decide +kernel
theorem dX7_back_58 : decode cX7_back 58 = .ok (.iconst 1, 1) := by decide +kernel
theorem dX7_back_59 : decode cX7_back 59 = .ok (.istore_n 3, 1) := by decide +kernel
theorem dX7_back_60 : decode cX7_back 60 = .ok (.iload_n 3, 1) := by decide +kernel
theorem dX7_back_61 : decode cX7_back 61 = .ok (.sipush 1000, 3) := by decide +kernel
theorem dX7_back_64 : decode cX7_back 64 = .ok (.if_icmp .gt 79, 3) := by decide +kernel
theorem dX7_back_67 : decode cX7_back 67 = .ok (.aload_n 0, 1) := by decide +kernel
theorem dX7_back_68 : decode cX7_back 68 = .ok (.getfield 33, 3) := by decide +kernel
theorem dX7_back_71 : decode cX7_back 71 = .ok (.aload_n 0, 1) := by decide +kernel
theorem dX7_back_72 : decode cX7_back 72 = .ok (.getfield 47, 3) := by decide +kernel
theorem dX7_back_75 : decode cX7_back 75 = .ok (.invokevirtual 157, 3) := by decide +kernel
theorem dX7_back_78 : decode cX7_back 78 = .ok (.ifCond .ne 6, 3) := by decide +kernel
theorem dX7_back_81 : decode cX7_back 81 = .ok (.bipush (-2), 2) := by decide +kernel
theorem dX7_back_83 : decode cX7_back 83 = .ok (.ireturn, 1) := by decide +kernel
theorem dX7_back_84 : decode cX7_back 84 = .ok (.aload_n 0, 1) := by decide +kernel
theorem dX7_back_85 : decode cX7_back 85 = .ok (.getfield 47, 3) := by decide +kernel
theorem dX7_back_88 : decode cX7_back 88 = .ok (.getfield 150, 3) := by decide +kernel
theorem dX7_back_91 : decode cX7_back 91 = .ok (.iload_n 1, 1) := by decide +kernel
theorem dX7_back_92 : decode cX7_back 92 = .ok (.i2l, 1) := by decide +kernel
theorem dX7_back_93 : decode cX7_back 93 = .ok (.lsub, 1) := by decide +kernel
theorem dX7_back_94 : decode cX7_back 94 = .ok (.aload_n 0, 1) := by decide +kernel
theorem dX7_back_95 : decode cX7_back 95 = .ok (.getfield 47, 3) := by decide +kernel
theorem dX7_back_98 : decode cX7_back 98 = .ok (.getfield 154, 3) := by decide +kernel
theorem dX7_back_101 : decode cX7_back 101 = .ok (.iload_n 2, 1) := by decide +kernel
theorem dX7_back_102 : decode cX7_back 102 = .ok (.i2l, 1) := by decide +kernel
theorem dX7_back_103 : decode cX7_back 103 = .ok (.lsub, 1) := by decide +kernel
theorem dX7_back_104 : decode cX7_back 104 = .ok (.aload_n 0, 1) := by decide +kernel
theorem dX7_back_105 : decode cX7_back 105 = .ok (.getfield 7, 3) := by decide +kernel
theorem dX7_back_108 : decode cX7_back 108 = .ok (.invokestatic 85, 3) := by decide +kernel
theorem dX7_back_111 : decode cX7_back 111 = .ok (.ifCond .ge 26, 3) := by decide +kernel
theorem dX7_back_114 : decode cX7_back 114 = .ok (.aload_n 0, 1) := by decide +kernel
theorem dX7_back_115 : decode cX7_back 115 = .ok (.getfield 43, 3) := by decide +kernel
theorem dX7_back_118 : decode cX7_back 118 = .ok (.aload_n 0, 1) := by decide +kernel
theorem dX7_back_119 : decode cX7_back 119 = .ok (.getfield 47, 3) := by decide +kernel
theorem dX7_back_122 : decode cX7_back 122 = .ok (.getfield 150, 3) := by decide +kernel
theorem dX7_back_125 : decode cX7_back 125 = .ok (.aload_n 0, 1) := by decide +kernel
theorem dX7_back_126 : decode cX7_back 126 = .ok (.getfield 47, 3) := by decide +kernel
theorem dX7_back_129 : decode cX7_back 129 = .ok (.getfield 154, 3) := by decide +kernel
theorem dX7_back_132 : decode cX7_back 132 = .ok (.invokevirtual 142, 3) := by decide +kernel
theorem dX7_back_135 : decode cX7_back 135 = .ok (.iload_n 3, 1) := by decide +kernel
theorem dX7_back_136 : decode cX7_back 136 = .ok (.ireturn, 1) := by decide +kernel
theorem dX7_back_137 : decode cX7_back 137 = .ok (.iinc 3 1, 3) := by decide +kernel
theorem dX7_back_140 : decode cX7_back 140 = .ok (.goto (-80), 3) := by decide +kernel
theorem dX7_back_143 : decode cX7_back 143 = .ok (.bipush (-2), 2) := by decide +kernel
theorem dX7_back_145 : decode cX7_back 145 = .ok (.ireturn, 1) := by decide +kernel
theorem dX7_visits_0 : decode cX7_visits 0 = .ok (.aload_n 0, 1) := by decide +kernel
theorem dX7_visits_1 : decode cX7_visits 1 = .ok (.getfield 43, 3) := by decide +kernel
theorem dX7_visits_4 : decode cX7_visits 4 = .ok (.getfield 77, 3) := by decide +kernel
theorem dX7_visits_7 : decode cX7_visits 7 = .ok (.ifCond .eq 30, 3) := by decide +kernel
theorem dX7_visits_10 : decode cX7_visits 10 = .ok (.iload_n 1, 1) := by decide +kernel
theorem dX7_visits_11 : decode cX7_visits 11 = .ok (.ifCond .lt 26, 3) := by decide +kernel
theorem dX7_visits_14 : decode cX7_visits 14 = .ok (.iload_n 1, 1) := by decide +kernel
theorem dX7_visits_15 : decode cX7_visits 15 = .ok (.aload_n 0, 1) := by decide +kernel
theorem dX7_visits_16 : decode cX7_visits 16 = .ok (.getfield 23, 3) := by decide +kernel
theorem dX7_visits_19 : decode cX7_visits 19 = .ok (.getfield 74, 3) := by decide +kernel
theorem dX7_visits_22 : decode cX7_visits 22 = .ok (.if_icmp .ge 15, 3) := by decide +kernel
theorem dX7_visits_25 : decode cX7_visits 25 = .ok (.iload_n 2, 1) := by decide +kernel
theorem dX7_visits_26 : decode cX7_visits 26 = .ok (.iconst 1, 1) := by decide +kernel
theorem dX7_visits_27 : decode cX7_visits 27 = .ok (.if_icmp .lt 10, 3) := by decide +kernel
theorem dX7_visits_30 : decode cX7_visits 30 = .ok (.iload_n 2, 1) := by decide +kernel
theorem dX7_visits_31 : decode cX7_visits 31 = .ok (.sipush 1000, 3) := by decide +kernel
theorem dX7_visits_34 : decode cX7_visits 34 = .ok (.if_icmp .le 5, 3) := by decide +kernel
theorem dX7_visits_37 : decode cX7_visits 37 = .ok (.iconst (-1), 1) := by decide +kernel
theorem dX7_visits_38 : decode cX7_visits 38 = .ok (.ireturn, 1) := by decide +kernel
theorem dX7_visits_39 : decode cX7_visits 39 = .ok (.iconst 0, 1) := by decide +kernel
theorem dX7_visits_40 : decode cX7_visits 40 = .ok (.istore_n 3, 1) := by decide +kernel
theorem dX7_visits_41 : decode cX7_visits 41 = .ok (.aload_n 0, 1) := by decide +kernel
theorem dX7_visits_42 : decode cX7_visits 42 = .ok (.getfield 47, 3) := by decide +kernel
theorem dX7_visits_45 : decode cX7_visits 45 = .ok (.aload_n 0, 1) := by decide +kernel
theorem dX7_visits_46 : decode cX7_visits 46 = .ok (.getfield 43, 3) := by decide +kernel
theorem dX7_visits_49 : decode cX7_visits 49 = .ok (.getfield 150, 3) := by decide +kernel
theorem dX7_visits_52 : decode cX7_visits 52 = .ok (.aload_n 0, 1) := by decide +kernel
theorem dX7_visits_53 : decode cX7_visits 53 = .ok (.getfield 43, 3) := by decide +kernel
theorem dX7_visits_56 : decode cX7_visits 56 = .ok (.getfield 154, 3) := by decide +kernel
theorem dX7_visits_59 : decode cX7_visits 59 = .ok (.invokevirtual 142, 3) := by decide +kernel
theorem dX7_visits_62 : decode cX7_visits 62 = .ok (.iconst 1, 1) := by decide +kernel
theorem dX7_visits_63 : decode cX7_visits 63 = .ok (.istore 4, 2) := by decide +kernel
theorem dX7_visits_65 : decode cX7_visits 65 = .ok (.iload 4, 2) := by decide +kernel
theorem dX7_visits_67 : decode cX7_visits 67 = .ok (.iload_n 2, 1) := by decide +kernel
theorem dX7_visits_68 : decode cX7_visits 68 = .ok (.if_icmp .gt 55, 3) := by decide +kernel
theorem dX7_visits_71 : decode cX7_visits 71 = .ok (.aload_n 0, 1) := by decide +kernel
theorem dX7_visits_72 : decode cX7_visits 72 = .ok (.getfield 33, 3) := by decide +kernel
theorem dX7_visits_75 : decode cX7_visits 75 = .ok (.aload_n 0, 1) := by decide +kernel
theorem dX7_visits_76 : decode cX7_visits 76 = .ok (.getfield 47, 3) := by decide +kernel
theorem dX7_visits_79 : decode cX7_visits 79 = .ok (.invokevirtual 146, 3) := by decide +kernel
theorem dX7_visits_82 : decode cX7_visits 82 = .ok (.istore 5, 2) := by decide +kernel
theorem dX7_visits_84 : decode cX7_visits 84 = .ok (.iload 5, 2) := by decide +kernel
theorem dX7_visits_86 : decode cX7_visits 86 = .ok (.iload_n 1, 1) := by decide +kernel
theorem dX7_visits_87 : decode cX7_visits 87 = .ok (.if_icmp .ne 6, 3) := by decide +kernel
theorem dX7_visits_90 : decode cX7_visits 90 = .ok (.iinc 3 1, 3) := by decide +kernel
theorem dX7_visits_93 : decode cX7_visits 93 = .ok (.iload 4, 2) := by decide +kernel
theorem dX7_visits_95 : decode cX7_visits 95 = .ok (.iload_n 2, 1) := by decide +kernel
theorem dX7_visits_96 : decode cX7_visits 96 = .ok (.if_icmp .ge 21, 3) := by decide +kernel
theorem dX7_visits_99 : decode cX7_visits 99 = .ok (.aload_n 0, 1) := by decide +kernel
theorem dX7_visits_100 : decode cX7_visits 100 = .ok (.getfield 33, 3) := by decide +kernel
theorem dX7_visits_103 : decode cX7_visits 103 = .ok (.aload_n 0, 1) := by decide +kernel
theorem dX7_visits_104 : decode cX7_visits 104 = .ok (.getfield 47, 3) := by decide +kernel
theorem dX7_visits_107 : decode cX7_visits 107 = .ok (.iload 5, 2) := by decide +kernel
theorem dX7_visits_109 : decode cX7_visits 109 = .ok (.invokevirtual 163, 3) := by decide +kernel
theorem dX7_visits_112 : decode cX7_visits 112 = .ok (.ifCond .ne 5, 3) := by decide +kernel
theorem dX7_visits_115 : decode cX7_visits 115 = .ok (.iconst (-1), 1) := by decide +kernel
theorem dX7_visits_116 : decode cX7_visits 116 = .ok (.ireturn, 1) := by decide +kernel
theorem dX7_visits_117 : decode cX7_visits 117 = .ok (.iinc 4 1, 3) := by decide +kernel
theorem dX7_visits_120 : decode cX7_visits 120 = .ok (.goto (-55), 3) := by decide +kernel
theorem dX7_visits_123 : decode cX7_visits 123 = .ok (.iload_n 3, 1) := by decide +kernel
theorem dX7_visits_124 : decode cX7_visits 124 = .ok (.ireturn, 1) := by decide +kernel
theorem dX7_step_0 : decode cX7_step 0 = .ok (.aload_n 0, 1) := by decide +kernel
theorem dX7_step_1 : decode cX7_step 1 = .ok (.getfield 23, 3) := by decide +kernel
theorem dX7_step_4 : decode cX7_step 4 = .ok (.invokevirtual 167, 3) := by decide +kernel
theorem dX7_step_7 : decode cX7_step 7 = .ok (.istore_n 1, 1) := by decide +kernel
theorem dX7_step_8 : decode cX7_step 8 = .ok (.iload_n 1, 1) := by decide +kernel
theorem dX7_step_9 : decode cX7_step 9 = .ok (.ifCond .lt 7, 3) := by decide +kernel
theorem dX7_step_12 : decode cX7_step 12 = .ok (.aload_n 0, 1) := by decide +kernel
theorem dX7_step_13 : decode cX7_step 13 = .ok (.invokevirtual 170, 3) := by decide +kernel
theorem dX7_step_16 : decode cX7_step 16 = .ok (.iload_n 1, 1) := by decide +kernel
theorem dX7_step_17 : decode cX7_step 17 = .ok (.ireturn, 1) := by decide +kernel
theorem dX7_steps_0 : decode cX7_steps 0 = .ok (.aload_n 0, 1) := by decide +kernel
theorem dX7_steps_1 : decode cX7_steps 1 = .ok (.getfield 23, 3) := by decide +kernel
theorem dX7_steps_4 : decode cX7_steps 4 = .ok (.getfield 74, 3) := by decide +kernel
theorem dX7_steps_7 : decode cX7_steps 7 = .ok (.ifCond .eq 15, 3) := by decide +kernel
theorem dX7_steps_10 : decode cX7_steps 10 = .ok (.iload_n 1, 1) := by decide +kernel
theorem dX7_steps_11 : decode cX7_steps 11 = .ok (.iconst 1, 1) := by decide +kernel
theorem dX7_steps_12 : decode cX7_steps 12 = .ok (.if_icmp .lt 10, 3) := by decide +kernel
theorem dX7_steps_15 : decode cX7_steps 15 = .ok (.iload_n 1, 1) := by decide +kernel
theorem dX7_steps_16 : decode cX7_steps 16 = .ok (.sipush 1000, 3) := by decide +kernel
theorem dX7_steps_19 : decode cX7_steps 19 = .ok (.if_icmp .le 5, 3) := by decide +kernel
theorem dX7_steps_22 : decode cX7_steps 22 = .ok (.iconst (-1), 1) := by decide +kernel
theorem dX7_steps_23 : decode cX7_steps 23 = .ok (.ireturn, 1) := by decide +kernel
theorem dX7_steps_24 : decode cX7_steps 24 = .ok (.iconst 0, 1) := by decide +kernel
theorem dX7_steps_25 : decode cX7_steps 25 = .ok (.istore_n 2, 1) := by decide +kernel
theorem dX7_steps_26 : decode cX7_steps 26 = .ok (.iload_n 2, 1) := by decide +kernel
theorem dX7_steps_27 : decode cX7_steps 27 = .ok (.iload_n 1, 1) := by decide +kernel
theorem dX7_steps_28 : decode cX7_steps 28 = .ok (.if_icmp .ge 19, 3) := by decide +kernel
theorem dX7_steps_31 : decode cX7_steps 31 = .ok (.aload_n 0, 1) := by decide +kernel
theorem dX7_steps_32 : decode cX7_steps 32 = .ok (.getfield 23, 3) := by decide +kernel
theorem dX7_steps_35 : decode cX7_steps 35 = .ok (.invokevirtual 167, 3) := by decide +kernel
theorem dX7_steps_38 : decode cX7_steps 38 = .ok (.ifCond .lt 9, 3) := by decide +kernel
theorem dX7_steps_41 : decode cX7_steps 41 = .ok (.iinc 2 1, 3) := by decide +kernel
theorem dX7_steps_44 : decode cX7_steps 44 = .ok (.goto (-18), 3) := by decide +kernel
theorem dX7_steps_47 : decode cX7_steps 47 = .ok (.aload_n 0, 1) := by decide +kernel
theorem dX7_steps_48 : decode cX7_steps 48 = .ok (.invokevirtual 170, 3) := by decide +kernel
theorem dX7_steps_51 : decode cX7_steps 51 = .ok (.iload_n 2, 1) := by decide +kernel
theorem dX7_steps_52 : decode cX7_steps 52 = .ok (.ireturn, 1) := by decide +kernel
theorem dX7_table_0 : decode cX7_table 0 = .ok (.iload_n 1, 1) := by decide +kernel
theorem dX7_table_1 : decode cX7_table 1 = .ok (.ifCond .lt 29, 3) := by decide +kernel
theorem dX7_table_4 : decode cX7_table 4 = .ok (.iload_n 1, 1) := by decide +kernel
theorem dX7_table_5 : decode cX7_table 5 = .ok (.aload_n 0, 1) := by decide +kernel
theorem dX7_table_6 : decode cX7_table 6 = .ok (.getfield 23, 3) := by decide +kernel
theorem dX7_table_9 : decode cX7_table 9 = .ok (.getfield 74, 3) := by decide +kernel
theorem dX7_table_12 : decode cX7_table 12 = .ok (.if_icmp .ge 18, 3) := by decide +kernel
theorem dX7_table_15 : decode cX7_table 15 = .ok (.iload_n 2, 1) := by decide +kernel
theorem dX7_table_16 : decode cX7_table 16 = .ok (.ifCond .lt 14, 3) := by decide +kernel
theorem dX7_table_19 : decode cX7_table 19 = .ok (.iload_n 2, 1) := by decide +kernel
theorem dX7_table_20 : decode cX7_table 20 = .ok (.aload_n 0, 1) := by decide +kernel
theorem dX7_table_21 : decode cX7_table 21 = .ok (.getfield 23, 3) := by decide +kernel
theorem dX7_table_24 : decode cX7_table 24 = .ok (.getfield 74, 3) := by decide +kernel
theorem dX7_table_27 : decode cX7_table 27 = .ok (.if_icmp .lt 7, 3) := by decide +kernel
theorem dX7_table_30 : decode cX7_table 30 = .ok (.ldc2_w 173, 3) := by decide +kernel
theorem dX7_table_33 : decode cX7_table 33 = .ok (.lreturn, 1) := by decide +kernel
theorem dX7_table_34 : decode cX7_table 34 = .ok (.aload_n 0, 1) := by decide +kernel
theorem dX7_table_35 : decode cX7_table 35 = .ok (.getfield 23, 3) := by decide +kernel
theorem dX7_table_38 : decode cX7_table 38 = .ok (.getfield 175, 3) := by decide +kernel
theorem dX7_table_41 : decode cX7_table 41 = .ok (.iload_n 1, 1) := by decide +kernel
theorem dX7_table_42 : decode cX7_table 42 = .ok (.bipush 8, 2) := by decide +kernel
theorem dX7_table_44 : decode cX7_table 44 = .ok (.imul, 1) := by decide +kernel
theorem dX7_table_45 : decode cX7_table 45 = .ok (.iload_n 2, 1) := by decide +kernel
theorem dX7_table_46 : decode cX7_table 46 = .ok (.iadd, 1) := by decide +kernel
theorem dX7_table_47 : decode cX7_table 47 = .ok (.laload, 1) := by decide +kernel
theorem dX7_table_48 : decode cX7_table 48 = .ok (.lreturn, 1) := by decide +kernel
theorem dX7_loop_0 : decode cX7_loop 0 = .ok (.aload_n 0, 1) := by decide +kernel
theorem dX7_loop_1 : decode cX7_loop 1 = .ok (.getfield 23, 3) := by decide +kernel
theorem dX7_loop_4 : decode cX7_loop 4 = .ok (.getfield 74, 3) := by decide +kernel
theorem dX7_loop_7 : decode cX7_loop 7 = .ok (.ifCond .ne 5, 3) := by decide +kernel
theorem dX7_loop_10 : decode cX7_loop 10 = .ok (.iconst (-1), 1) := by decide +kernel
theorem dX7_loop_11 : decode cX7_loop 11 = .ok (.ireturn, 1) := by decide +kernel
theorem dX7_loop_12 : decode cX7_loop 12 = .ok (.aload_n 0, 1) := by decide +kernel
theorem dX7_loop_13 : decode cX7_loop 13 = .ok (.getfield 27, 3) := by decide +kernel
theorem dX7_loop_16 : decode cX7_loop 16 = .ok (.aload_n 0, 1) := by decide +kernel
theorem dX7_loop_17 : decode cX7_loop 17 = .ok (.getfield 23, 3) := by decide +kernel
theorem dX7_loop_20 : decode cX7_loop 20 = .ok (.invokevirtual 178, 3) := by decide +kernel
theorem dX7_loop_23 : decode cX7_loop 23 = .ok (.iconst 1, 1) := by decide +kernel
theorem dX7_loop_24 : decode cX7_loop 24 = .ok (.istore_n 1, 1) := by decide +kernel
theorem dX7_loop_25 : decode cX7_loop 25 = .ok (.iload_n 1, 1) := by decide +kernel
theorem dX7_loop_26 : decode cX7_loop 26 = .ok (.sipush 300, 3) := by decide +kernel
theorem dX7_loop_29 : decode cX7_loop 29 = .ok (.if_icmp .gt 51, 3) := by decide +kernel
theorem dX7_loop_32 : decode cX7_loop 32 = .ok (.aload_n 0, 1) := by decide +kernel
theorem dX7_loop_33 : decode cX7_loop 33 = .ok (.getfield 27, 3) := by decide +kernel
theorem dX7_loop_36 : decode cX7_loop 36 = .ok (.invokevirtual 167, 3) := by decide +kernel
theorem dX7_loop_39 : decode cX7_loop 39 = .ok (.ifCond .ge 5, 3) := by decide +kernel
theorem dX7_loop_42 : decode cX7_loop 42 = .ok (.iconst 0, 1) := by decide +kernel
theorem dX7_loop_43 : decode cX7_loop 43 = .ok (.ireturn, 1) := by decide +kernel
theorem dX7_loop_44 : decode cX7_loop 44 = .ok (.aload_n 0, 1) := by decide +kernel
theorem dX7_loop_45 : decode cX7_loop 45 = .ok (.getfield 27, 3) := by decide +kernel
theorem dX7_loop_48 : decode cX7_loop 48 = .ok (.aload_n 0, 1) := by decide +kernel
theorem dX7_loop_49 : decode cX7_loop 49 = .ok (.getfield 23, 3) := by decide +kernel
theorem dX7_loop_52 : decode cX7_loop 52 = .ok (.invokevirtual 182, 3) := by decide +kernel
theorem dX7_loop_55 : decode cX7_loop 55 = .ok (.ifCond .eq 19, 3) := by decide +kernel
theorem dX7_loop_58 : decode cX7_loop 58 = .ok (.aload_n 0, 1) := by decide +kernel
theorem dX7_loop_59 : decode cX7_loop 59 = .ok (.getfield 27, 3) := by decide +kernel
theorem dX7_loop_62 : decode cX7_loop 62 = .ok (.aload_n 0, 1) := by decide +kernel
theorem dX7_loop_63 : decode cX7_loop 63 = .ok (.getfield 23, 3) := by decide +kernel
theorem dX7_loop_66 : decode cX7_loop 66 = .ok (.invokevirtual 186, 3) := by decide +kernel
theorem dX7_loop_69 : decode cX7_loop 69 = .ok (.ifCond .eq 5, 3) := by decide +kernel
theorem dX7_loop_72 : decode cX7_loop 72 = .ok (.iload_n 1, 1) := by decide +kernel
theorem dX7_loop_73 : decode cX7_loop 73 = .ok (.ireturn, 1) := by decide +kernel
theorem dX7_loop_74 : decode cX7_loop 74 = .ok (.iinc 1 1, 3) := by decide +kernel
theorem dX7_loop_77 : decode cX7_loop 77 = .ok (.goto (-52), 3) := by decide +kernel
theorem dX7_loop_80 : decode cX7_loop 80 = .ok (.iconst 0, 1) := by decide +kernel
theorem dX7_loop_81 : decode cX7_loop 81 = .ok (.ireturn, 1) := by decide +kernel
theorem dX7_rounds_0 : decode cX7_rounds 0 = .ok (.aload_n 0, 1) := by decide +kernel
theorem dX7_rounds_1 : decode cX7_rounds 1 = .ok (.getfield 23, 3) := by decide +kernel
theorem dX7_rounds_4 : decode cX7_rounds 4 = .ok (.getfield 74, 3) := by decide +kernel
theorem dX7_rounds_7 : decode cX7_rounds 7 = .ok (.ifCond .ne 5, 3) := by decide +kernel
theorem dX7_rounds_10 : decode cX7_rounds 10 = .ok (.iconst (-1), 1) := by decide +kernel
theorem dX7_rounds_11 : decode cX7_rounds 11 = .ok (.ireturn, 1) := by decide +kernel
theorem dX7_rounds_12 : decode cX7_rounds 12 = .ok (.aload_n 0, 1) := by decide +kernel
theorem dX7_rounds_13 : decode cX7_rounds 13 = .ok (.getfield 33, 3) := by decide +kernel
theorem dX7_rounds_16 : decode cX7_rounds 16 = .ok (.getfield 122, 3) := by decide +kernel
theorem dX7_rounds_19 : decode cX7_rounds 19 = .ok (.aload_n 0, 1) := by decide +kernel
theorem dX7_rounds_20 : decode cX7_rounds 20 = .ok (.getfield 23, 3) := by decide +kernel
theorem dX7_rounds_23 : decode cX7_rounds 23 = .ok (.getfield 74, 3) := by decide +kernel
theorem dX7_rounds_26 : decode cX7_rounds 26 = .ok (.laload, 1) := by decide +kernel
theorem dX7_rounds_27 : decode cX7_rounds 27 = .ok (.lstore_n 1, 1) := by decide +kernel
theorem dX7_rounds_28 : decode cX7_rounds 28 = .ok (.aload_n 0, 1) := by decide +kernel
theorem dX7_rounds_29 : decode cX7_rounds 29 = .ok (.getfield 7, 3) := by decide +kernel
theorem dX7_rounds_32 : decode cX7_rounds 32 = .ok (.ifCond .ne 11, 3) := by decide +kernel
theorem dX7_rounds_35 : decode cX7_rounds 35 = .ok (.lload_n 1, 1) := by decide +kernel
theorem dX7_rounds_36 : decode cX7_rounds 36 = .ok (.ldc2_w 189, 3) := by decide +kernel
theorem dX7_rounds_39 : decode cX7_rounds 39 = .ok (.lcmp, 1) := by decide +kernel
theorem dX7_rounds_40 : decode cX7_rounds 40 = .ok (.ifCond .le 6, 3) := by decide +kernel
theorem dX7_rounds_43 : decode cX7_rounds 43 = .ok (.bipush (-2), 2) := by decide +kernel
theorem dX7_rounds_45 : decode cX7_rounds 45 = .ok (.ireturn, 1) := by decide +kernel
theorem dX7_rounds_46 : decode cX7_rounds 46 = .ok (.aload_n 0, 1) := by decide +kernel
theorem dX7_rounds_47 : decode cX7_rounds 47 = .ok (.getfield 53, 3) := by decide +kernel
theorem dX7_rounds_50 : decode cX7_rounds 50 = .ok (.aload_n 0, 1) := by decide +kernel
theorem dX7_rounds_51 : decode cX7_rounds 51 = .ok (.getfield 33, 3) := by decide +kernel
theorem dX7_rounds_54 : decode cX7_rounds 54 = .ok (.lload_n 1, 1) := by decide +kernel
theorem dX7_rounds_55 : decode cX7_rounds 55 = .ok (.l2i, 1) := by decide +kernel
theorem dX7_rounds_56 : decode cX7_rounds 56 = .ok (.invokevirtual 191, 3) := by decide +kernel
theorem dX7_rounds_59 : decode cX7_rounds 59 = .ok (.aload_n 0, 1) := by decide +kernel
theorem dX7_rounds_60 : decode cX7_rounds 60 = .ok (.getfield 53, 3) := by decide +kernel
theorem dX7_rounds_63 : decode cX7_rounds 63 = .ok (.getfield 195, 3) := by decide +kernel
theorem dX7_rounds_66 : decode cX7_rounds 66 = .ok (.ireturn, 1) := by decide +kernel
theorem dX7_round_0 : decode cX7_round 0 = .ok (.iload_n 1, 1) := by decide +kernel
theorem dX7_round_1 : decode cX7_round 1 = .ok (.ifCond .lt 14, 3) := by decide +kernel
theorem dX7_round_4 : decode cX7_round 4 = .ok (.iload_n 1, 1) := by decide +kernel
theorem dX7_round_5 : decode cX7_round 5 = .ok (.aload_n 0, 1) := by decide +kernel
theorem dX7_round_6 : decode cX7_round 6 = .ok (.getfield 53, 3) := by decide +kernel
theorem dX7_round_9 : decode cX7_round 9 = .ok (.getfield 195, 3) := by decide +kernel
theorem dX7_round_12 : decode cX7_round 12 = .ok (.if_icmp .lt 5, 3) := by decide +kernel
theorem dX7_round_15 : decode cX7_round 15 = .ok (.iconst (-1), 1) := by decide +kernel
theorem dX7_round_16 : decode cX7_round 16 = .ok (.ireturn, 1) := by decide +kernel
theorem dX7_round_17 : decode cX7_round 17 = .ok (.iload_n 2, 1) := by decide +kernel
theorem dX7_round_18 : decode cX7_round 18 = .ok (.tableswitch 56 0 2 #[26, 36, 46], 26) := by decide +kernel
theorem dX7_round_44 : decode cX7_round 44 = .ok (.aload_n 0, 1) := by decide +kernel
theorem dX7_round_45 : decode cX7_round 45 = .ok (.getfield 53, 3) := by decide +kernel
theorem dX7_round_48 : decode cX7_round 48 = .ok (.getfield 196, 3) := by decide +kernel
theorem dX7_round_51 : decode cX7_round 51 = .ok (.iload_n 1, 1) := by decide +kernel
theorem dX7_round_52 : decode cX7_round 52 = .ok (.iaload, 1) := by decide +kernel
theorem dX7_round_53 : decode cX7_round 53 = .ok (.ireturn, 1) := by decide +kernel
theorem dX7_round_54 : decode cX7_round 54 = .ok (.aload_n 0, 1) := by decide +kernel
theorem dX7_round_55 : decode cX7_round 55 = .ok (.getfield 53, 3) := by decide +kernel
theorem dX7_round_58 : decode cX7_round 58 = .ok (.getfield 199, 3) := by decide +kernel
theorem dX7_round_61 : decode cX7_round 61 = .ok (.iload_n 1, 1) := by decide +kernel
theorem dX7_round_62 : decode cX7_round 62 = .ok (.iaload, 1) := by decide +kernel
theorem dX7_round_63 : decode cX7_round 63 = .ok (.ireturn, 1) := by decide +kernel
theorem dX7_round_64 : decode cX7_round 64 = .ok (.aload_n 0, 1) := by decide +kernel
theorem dX7_round_65 : decode cX7_round 65 = .ok (.getfield 53, 3) := by decide +kernel
theorem dX7_round_68 : decode cX7_round 68 = .ok (.getfield 202, 3) := by decide +kernel
theorem dX7_round_71 : decode cX7_round 71 = .ok (.iload_n 1, 1) := by decide +kernel
theorem dX7_round_72 : decode cX7_round 72 = .ok (.iaload, 1) := by decide +kernel
theorem dX7_round_73 : decode cX7_round 73 = .ok (.ireturn, 1) := by decide +kernel
theorem dX7_round_74 : decode cX7_round 74 = .ok (.iconst (-1), 1) := by decide +kernel
theorem dX7_round_75 : decode cX7_round 75 = .ok (.ireturn, 1) := by decide +kernel
theorem dX7_words_0 : decode cX7_words 0 = .ok (.aload_n 0, 1) := by decide +kernel
theorem dX7_words_1 : decode cX7_words 1 = .ok (.getfield 23, 3) := by decide +kernel
theorem dX7_words_4 : decode cX7_words 4 = .ok (.getfield 74, 3) := by decide +kernel
theorem dX7_words_7 : decode cX7_words 7 = .ok (.ifCond .ne 5, 3) := by decide +kernel
theorem dX7_words_10 : decode cX7_words 10 = .ok (.iconst (-1), 1) := by decide +kernel
theorem dX7_words_11 : decode cX7_words 11 = .ok (.ireturn, 1) := by decide +kernel
theorem dX7_words_12 : decode cX7_words 12 = .ok (.iload_n 1, 1) := by decide +kernel
theorem dX7_words_13 : decode cX7_words 13 = .ok (.iconst 1, 1) := by decide +kernel
theorem dX7_words_14 : decode cX7_words 14 = .ok (.if_icmp .lt 9, 3) := by decide +kernel
theorem dX7_words_17 : decode cX7_words 17 = .ok (.iload_n 1, 1) := by decide +kernel
theorem dX7_words_18 : decode cX7_words 18 = .ok (.bipush 10, 2) := by decide +kernel
theorem dX7_words_20 : decode cX7_words 20 = .ok (.if_icmp .le 6, 3) := by decide +kernel
theorem dX7_words_23 : decode cX7_words 23 = .ok (.bipush (-2), 2) := by decide +kernel
theorem dX7_words_25 : decode cX7_words 25 = .ok (.ireturn, 1) := by decide +kernel
theorem dX7_words_26 : decode cX7_words 26 = .ok (.iconst 0, 1) := by decide +kernel
theorem dX7_words_27 : decode cX7_words 27 = .ok (.istore_n 2, 1) := by decide +kernel
theorem dX7_words_28 : decode cX7_words 28 = .ok (.iconst 0, 1) := by decide +kernel
theorem dX7_words_29 : decode cX7_words 29 = .ok (.istore_n 3, 1) := by decide +kernel
theorem dX7_words_30 : decode cX7_words 30 = .ok (.iload_n 3, 1) := by decide +kernel
theorem dX7_words_31 : decode cX7_words 31 = .ok (.aload_n 0, 1) := by decide +kernel
theorem dX7_words_32 : decode cX7_words 32 = .ok (.getfield 23, 3) := by decide +kernel
theorem dX7_words_35 : decode cX7_words 35 = .ok (.getfield 74, 3) := by decide +kernel
theorem dX7_words_38 : decode cX7_words 38 = .ok (.if_icmp .ge 18, 3) := by decide +kernel
theorem dX7_words_41 : decode cX7_words 41 = .ok (.iload_n 2, 1) := by decide +kernel
theorem dX7_words_42 : decode cX7_words 42 = .ok (.aload_n 0, 1) := by decide +kernel
theorem dX7_words_43 : decode cX7_words 43 = .ok (.iload_n 3, 1) := by decide +kernel
theorem dX7_words_44 : decode cX7_words 44 = .ok (.iload_n 1, 1) := by decide +kernel
theorem dX7_words_45 : decode cX7_words 45 = .ok (.invokevirtual 205, 3) := by decide +kernel
theorem dX7_words_48 : decode cX7_words 48 = .ok (.iadd, 1) := by decide +kernel
theorem dX7_words_49 : decode cX7_words 49 = .ok (.istore_n 2, 1) := by decide +kernel
theorem dX7_words_50 : decode cX7_words 50 = .ok (.iinc 3 1, 3) := by decide +kernel
theorem dX7_words_53 : decode cX7_words 53 = .ok (.goto (-23), 3) := by decide +kernel
theorem dX7_words_56 : decode cX7_words 56 = .ok (.iload_n 2, 1) := by decide +kernel
theorem dX7_words_57 : decode cX7_words 57 = .ok (.ireturn, 1) := by decide +kernel
theorem dX7_classes_0 : decode cX7_classes 0 = .ok (.aload_n 0, 1) := by decide +kernel
theorem dX7_classes_1 : decode cX7_classes 1 = .ok (.getfield 23, 3) := by decide +kernel
theorem dX7_classes_4 : decode cX7_classes 4 = .ok (.getfield 74, 3) := by decide +kernel
theorem dX7_classes_7 : decode cX7_classes 7 = .ok (.ifCond .ne 5, 3) := by decide +kernel
theorem dX7_classes_10 : decode cX7_classes 10 = .ok (.iconst (-1), 1) := by decide +kernel
theorem dX7_classes_11 : decode cX7_classes 11 = .ok (.ireturn, 1) := by decide +kernel
theorem dX7_classes_12 : decode cX7_classes 12 = .ok (.aload_n 0, 1) := by decide +kernel
theorem dX7_classes_13 : decode cX7_classes 13 = .ok (.getfield 23, 3) := by decide +kernel
theorem dX7_classes_16 : decode cX7_classes 16 = .ok (.getfield 74, 3) := by decide +kernel
theorem dX7_classes_19 : decode cX7_classes 19 = .ok (.bipush 6, 2) := by decide +kernel
theorem dX7_classes_21 : decode cX7_classes 21 = .ok (.if_icmp .le 6, 3) := by decide +kernel
theorem dX7_classes_24 : decode cX7_classes 24 = .ok (.bipush (-2), 2) := by decide +kernel
theorem dX7_classes_26 : decode cX7_classes 26 = .ok (.ireturn, 1) := by decide +kernel
theorem dX7_classes_27 : decode cX7_classes 27 = .ok (.aload_n 0, 1) := by decide +kernel
theorem dX7_classes_28 : decode cX7_classes 28 = .ok (.getfield 60, 3) := by decide +kernel
theorem dX7_classes_31 : decode cX7_classes 31 = .ok (.aload_n 0, 1) := by decide +kernel
theorem dX7_classes_32 : decode cX7_classes 32 = .ok (.getfield 23, 3) := by decide +kernel
theorem dX7_classes_35 : decode cX7_classes 35 = .ok (.invokevirtual 209, 3) := by decide +kernel
theorem dX7_classes_38 : decode cX7_classes 38 = .ok (.ireturn, 1) := by decide +kernel
theorem dX7_ground_0 : decode cX7_ground 0 = .ok (.aload_n 0, 1) := by decide +kernel
theorem dX7_ground_1 : decode cX7_ground 1 = .ok (.getfield 23, 3) := by decide +kernel
theorem dX7_ground_4 : decode cX7_ground 4 = .ok (.getfield 74, 3) := by decide +kernel
theorem dX7_ground_7 : decode cX7_ground 7 = .ok (.ifCond .eq 12, 3) := by decide +kernel
theorem dX7_ground_10 : decode cX7_ground 10 = .ok (.iload_n 1, 1) := by decide +kernel
theorem dX7_ground_11 : decode cX7_ground 11 = .ok (.ifCond .lt 8, 3) := by decide +kernel
theorem dX7_ground_14 : decode cX7_ground 14 = .ok (.iload_n 1, 1) := by decide +kernel
theorem dX7_ground_15 : decode cX7_ground 15 = .ok (.iconst 3, 1) := by decide +kernel
theorem dX7_ground_16 : decode cX7_ground 16 = .ok (.if_icmp .le 5, 3) := by decide +kernel
theorem dX7_ground_19 : decode cX7_ground 19 = .ok (.iconst (-1), 1) := by decide +kernel
theorem dX7_ground_20 : decode cX7_ground 20 = .ok (.ireturn, 1) := by decide +kernel
theorem dX7_ground_21 : decode cX7_ground 21 = .ok (.aload_n 0, 1) := by decide +kernel
theorem dX7_ground_22 : decode cX7_ground 22 = .ok (.getfield 67, 3) := by decide +kernel
theorem dX7_ground_25 : decode cX7_ground 25 = .ok (.aload_n 0, 1) := by decide +kernel
theorem dX7_ground_26 : decode cX7_ground 26 = .ok (.getfield 23, 3) := by decide +kernel
theorem dX7_ground_29 : decode cX7_ground 29 = .ok (.invokevirtual 213, 3) := by decide +kernel
theorem dX7_ground_32 : decode cX7_ground 32 = .ok (.iload_n 1, 1) := by decide +kernel
theorem dX7_ground_33 : decode cX7_ground 33 = .ok (.tableswitch 63 0 2 #[27, 35, 55], 27) := by decide +kernel
theorem dX7_ground_60 : decode cX7_ground 60 = .ok (.aload_n 0, 1) := by decide +kernel
theorem dX7_ground_61 : decode cX7_ground 61 = .ok (.getfield 67, 3) := by decide +kernel
theorem dX7_ground_64 : decode cX7_ground 64 = .ok (.invokevirtual 216, 3) := by decide +kernel
theorem dX7_ground_67 : decode cX7_ground 67 = .ok (.ireturn, 1) := by decide +kernel
theorem dX7_ground_68 : decode cX7_ground 68 = .ok (.iconst 1, 1) := by decide +kernel
theorem dX7_ground_69 : decode cX7_ground 69 = .ok (.aload_n 0, 1) := by decide +kernel
theorem dX7_ground_70 : decode cX7_ground 70 = .ok (.getfield 23, 3) := by decide +kernel
theorem dX7_ground_73 : decode cX7_ground 73 = .ok (.getfield 74, 3) := by decide +kernel
theorem dX7_ground_76 : decode cX7_ground 76 = .ok (.iadd, 1) := by decide +kernel
theorem dX7_ground_77 : decode cX7_ground 77 = .ok (.aload_n 0, 1) := by decide +kernel
theorem dX7_ground_78 : decode cX7_ground 78 = .ok (.getfield 67, 3) := by decide +kernel
theorem dX7_ground_81 : decode cX7_ground 81 = .ok (.invokevirtual 216, 3) := by decide +kernel
theorem dX7_ground_84 : decode cX7_ground 84 = .ok (.isub, 1) := by decide +kernel
theorem dX7_ground_85 : decode cX7_ground 85 = .ok (.iconst 2, 1) := by decide +kernel
theorem dX7_ground_86 : decode cX7_ground 86 = .ok (.idiv, 1) := by decide +kernel
theorem dX7_ground_87 : decode cX7_ground 87 = .ok (.ireturn, 1) := by decide +kernel
theorem dX7_ground_88 : decode cX7_ground 88 = .ok (.aload_n 0, 1) := by decide +kernel
theorem dX7_ground_89 : decode cX7_ground 89 = .ok (.getfield 67, 3) := by decide +kernel
theorem dX7_ground_92 : decode cX7_ground 92 = .ok (.invokevirtual 219, 3) := by decide +kernel
theorem dX7_ground_95 : decode cX7_ground 95 = .ok (.ireturn, 1) := by decide +kernel
theorem dX7_ground_96 : decode cX7_ground 96 = .ok (.aload_n 0, 1) := by decide +kernel
theorem dX7_ground_97 : decode cX7_ground 97 = .ok (.getfield 67, 3) := by decide +kernel
theorem dX7_ground_100 : decode cX7_ground 100 = .ok (.invokevirtual 222, 3) := by decide +kernel
theorem dX7_ground_103 : decode cX7_ground 103 = .ok (.ireturn, 1) := by decide +kernel
theorem dX7_canBe_0 : decode cX7_canBe 0 = .ok (.iload_n 1, 1) := by decide +kernel
theorem dX7_canBe_1 : decode cX7_canBe 1 = .ok (.i2l, 1) := by decide +kernel
theorem dX7_canBe_2 : decode cX7_canBe 2 = .ok (.iload_n 3, 1) := by decide +kernel
theorem dX7_canBe_3 : decode cX7_canBe 3 = .ok (.invokestatic 225, 3) := by decide +kernel
theorem dX7_canBe_6 : decode cX7_canBe 6 = .ok (.ifCond .eq 27, 3) := by decide +kernel
theorem dX7_canBe_9 : decode cX7_canBe 9 = .ok (.iload_n 2, 1) := by decide +kernel
theorem dX7_canBe_10 : decode cX7_canBe 10 = .ok (.i2l, 1) := by decide +kernel
theorem dX7_canBe_11 : decode cX7_canBe 11 = .ok (.iload_n 3, 1) := by decide +kernel
theorem dX7_canBe_12 : decode cX7_canBe 12 = .ok (.invokestatic 225, 3) := by decide +kernel
theorem dX7_canBe_15 : decode cX7_canBe 15 = .ok (.ifCond .eq 18, 3) := by decide +kernel
theorem dX7_canBe_18 : decode cX7_canBe 18 = .ok (.aload_n 0, 1) := by decide +kernel
theorem dX7_canBe_19 : decode cX7_canBe 19 = .ok (.getfield 7, 3) := by decide +kernel
theorem dX7_canBe_22 : decode cX7_canBe 22 = .ok (.ifCond .ne 7, 3) := by decide +kernel
theorem dX7_canBe_25 : decode cX7_canBe 25 = .ok (.iload_n 2, 1) := by decide +kernel
theorem dX7_canBe_26 : decode cX7_canBe 26 = .ok (.ifCond .ne 7, 3) := by decide +kernel
theorem dX7_canBe_29 : decode cX7_canBe 29 = .ok (.iconst 1, 1) := by decide +kernel
theorem dX7_canBe_30 : decode cX7_canBe 30 = .ok (.goto 4, 3) := by decide +kernel
theorem dX7_canBe_33 : decode cX7_canBe 33 = .ok (.iconst 0, 1) := by decide +kernel
theorem dX7_canBe_34 : decode cX7_canBe 34 = .ok (.ireturn, 1) := by decide +kernel
theorem dX7_drawWays_0 : decode cX7_drawWays 0 = .ok (.aload_n 0, 1) := by decide +kernel
theorem dX7_drawWays_1 : decode cX7_drawWays 1 = .ok (.getfield 33, 3) := by decide +kernel
theorem dX7_drawWays_4 : decode cX7_drawWays 4 = .ok (.aload_n 0, 1) := by decide +kernel
theorem dX7_drawWays_5 : decode cX7_drawWays 5 = .ok (.getfield 23, 3) := by decide +kernel
theorem dX7_drawWays_8 : decode cX7_drawWays 8 = .ok (.aload_n 0, 1) := by decide +kernel
theorem dX7_drawWays_9 : decode cX7_drawWays 9 = .ok (.getfield 23, 3) := by decide +kernel
theorem dX7_drawWays_12 : decode cX7_drawWays 12 = .ok (.getfield 131, 3) := by decide +kernel
theorem dX7_drawWays_15 : decode cX7_drawWays 15 = .ok (.aload_n 0, 1) := by decide +kernel
theorem dX7_drawWays_16 : decode cX7_drawWays 16 = .ok (.getfield 23, 3) := by decide +kernel
theorem dX7_drawWays_19 : decode cX7_drawWays 19 = .ok (.getfield 134, 3) := by decide +kernel
theorem dX7_drawWays_22 : decode cX7_drawWays 22 = .ok (.invokevirtual 229, 3) := by decide +kernel
theorem dX7_drawWays_25 : decode cX7_drawWays 25 = .ok (.aload_n 0, 1) := by decide +kernel
theorem dX7_drawWays_26 : decode cX7_drawWays 26 = .ok (.getfield 37, 3) := by decide +kernel
theorem dX7_drawWays_29 : decode cX7_drawWays 29 = .ok (.aload_n 0, 1) := by decide +kernel
theorem dX7_drawWays_30 : decode cX7_drawWays 30 = .ok (.getfield 23, 3) := by decide +kernel
theorem dX7_drawWays_33 : decode cX7_drawWays 33 = .ok (.aload_n 0, 1) := by decide +kernel
theorem dX7_drawWays_34 : decode cX7_drawWays 34 = .ok (.getfield 23, 3) := by decide +kernel
theorem dX7_drawWays_37 : decode cX7_drawWays 37 = .ok (.getfield 134, 3) := by decide +kernel
theorem dX7_drawWays_40 : decode cX7_drawWays 40 = .ok (.aload_n 0, 1) := by decide +kernel
theorem dX7_drawWays_41 : decode cX7_drawWays 41 = .ok (.getfield 23, 3) := by decide +kernel
theorem dX7_drawWays_44 : decode cX7_drawWays 44 = .ok (.getfield 131, 3) := by decide +kernel
theorem dX7_drawWays_47 : decode cX7_drawWays 47 = .ok (.invokevirtual 229, 3) := by decide +kernel
theorem dX7_drawWays_50 : decode cX7_drawWays 50 = .ok (.return_, 1) := by decide +kernel
theorem dX7_followMover_0 : decode cX7_followMover 0 = .ok (.aload_n 0, 1) := by decide +kernel
theorem dX7_followMover_1 : decode cX7_followMover 1 = .ok (.invokevirtual 109, 3) := by decide +kernel
theorem dX7_followMover_4 : decode cX7_followMover 4 = .ok (.aload_n 0, 1) := by decide +kernel
theorem dX7_followMover_5 : decode cX7_followMover 5 = .ok (.getfield 43, 3) := by decide +kernel
theorem dX7_followMover_8 : decode cX7_followMover 8 = .ok (.aload_n 0, 1) := by decide +kernel
theorem dX7_followMover_9 : decode cX7_followMover 9 = .ok (.getfield 43, 3) := by decide +kernel
theorem dX7_followMover_12 : decode cX7_followMover 12 = .ok (.getfield 77, 3) := by decide +kernel
theorem dX7_followMover_15 : decode cX7_followMover 15 = .ok (.ifCond .eq 31, 3) := by decide +kernel
theorem dX7_followMover_18 : decode cX7_followMover 18 = .ok (.aload_n 0, 1) := by decide +kernel
theorem dX7_followMover_19 : decode cX7_followMover 19 = .ok (.getfield 33, 3) := by decide +kernel
theorem dX7_followMover_22 : decode cX7_followMover 22 = .ok (.aload_n 0, 1) := by decide +kernel
theorem dX7_followMover_23 : decode cX7_followMover 23 = .ok (.getfield 43, 3) := by decide +kernel
theorem dX7_followMover_26 : decode cX7_followMover 26 = .ok (.getfield 150, 3) := by decide +kernel
theorem dX7_followMover_29 : decode cX7_followMover 29 = .ok (.aload_n 0, 1) := by decide +kernel
theorem dX7_followMover_30 : decode cX7_followMover 30 = .ok (.getfield 43, 3) := by decide +kernel
theorem dX7_followMover_33 : decode cX7_followMover 33 = .ok (.getfield 154, 3) := by decide +kernel
theorem dX7_followMover_36 : decode cX7_followMover 36 = .ok (.invokevirtual 138, 3) := by decide +kernel
theorem dX7_followMover_39 : decode cX7_followMover 39 = .ok (.ifCond .eq 7, 3) := by decide +kernel
theorem dX7_followMover_42 : decode cX7_followMover 42 = .ok (.iconst 1, 1) := by decide +kernel
theorem dX7_followMover_43 : decode cX7_followMover 43 = .ok (.goto 4, 3) := by decide +kernel
theorem dX7_followMover_46 : decode cX7_followMover 46 = .ok (.iconst 0, 1) := by decide +kernel
theorem dX7_followMover_47 : decode cX7_followMover 47 = .ok (.putfield 77, 3) := by decide +kernel
theorem dX7_followMover_50 : decode cX7_followMover 50 = .ok (.return_, 1) := by decide +kernel
theorem dX7_beginningsBehind_0 : decode cX7_beginningsBehind 0 = .ok (.aload_n 0, 1) := by decide +kernel
theorem dX7_beginningsBehind_1 : decode cX7_beginningsBehind 1 = .ok (.getfield 47, 3) := by decide +kernel
theorem dX7_beginningsBehind_4 : decode cX7_beginningsBehind 4 = .ok (.aload_n 0, 1) := by decide +kernel
theorem dX7_beginningsBehind_5 : decode cX7_beginningsBehind 5 = .ok (.getfield 33, 3) := by decide +kernel
theorem dX7_beginningsBehind_8 : decode cX7_beginningsBehind 8 = .ok (.getfield 122, 3) := by decide +kernel
theorem dX7_beginningsBehind_11 : decode cX7_beginningsBehind 11 = .ok (.iload_n 1, 1) := by decide +kernel
theorem dX7_beginningsBehind_12 : decode cX7_beginningsBehind 12 = .ok (.laload, 1) := by decide +kernel
theorem dX7_beginningsBehind_13 : decode cX7_beginningsBehind 13 = .ok (.aload_n 0, 1) := by decide +kernel
theorem dX7_beginningsBehind_14 : decode cX7_beginningsBehind 14 = .ok (.getfield 33, 3) := by decide +kernel
theorem dX7_beginningsBehind_17 : decode cX7_beginningsBehind 17 = .ok (.getfield 126, 3) := by decide +kernel
theorem dX7_beginningsBehind_20 : decode cX7_beginningsBehind 20 = .ok (.iload_n 1, 1) := by decide +kernel
theorem dX7_beginningsBehind_21 : decode cX7_beginningsBehind 21 = .ok (.laload, 1) := by decide +kernel
theorem dX7_beginningsBehind_22 : decode cX7_beginningsBehind 22 = .ok (.invokevirtual 142, 3) := by decide +kernel
theorem dX7_beginningsBehind_25 : decode cX7_beginningsBehind 25 = .ok (.iconst 1, 1) := by decide +kernel
theorem dX7_beginningsBehind_26 : decode cX7_beginningsBehind 26 = .ok (.istore_n 3, 1) := by decide +kernel
theorem dX7_beginningsBehind_27 : decode cX7_beginningsBehind 27 = .ok (.iload_n 3, 1) := by decide +kernel
theorem dX7_beginningsBehind_28 : decode cX7_beginningsBehind 28 = .ok (.iload_n 2, 1) := by decide +kernel
theorem dX7_beginningsBehind_29 : decode cX7_beginningsBehind 29 = .ok (.if_icmp .ge 39, 3) := by decide +kernel
theorem dX7_beginningsBehind_32 : decode cX7_beginningsBehind 32 = .ok (.aload_n 0, 1) := by decide +kernel
theorem dX7_beginningsBehind_33 : decode cX7_beginningsBehind 33 = .ok (.getfield 37, 3) := by decide +kernel
theorem dX7_beginningsBehind_36 : decode cX7_beginningsBehind 36 = .ok (.aload_n 0, 1) := by decide +kernel
theorem dX7_beginningsBehind_37 : decode cX7_beginningsBehind 37 = .ok (.getfield 47, 3) := by decide +kernel
theorem dX7_beginningsBehind_40 : decode cX7_beginningsBehind 40 = .ok (.invokevirtual 157, 3) := by decide +kernel
theorem dX7_beginningsBehind_43 : decode cX7_beginningsBehind 43 = .ok (.ifCond .eq 17, 3) := by decide +kernel
theorem dX7_beginningsBehind_46 : decode cX7_beginningsBehind 46 = .ok (.aload_n 0, 1) := by decide +kernel
theorem dX7_beginningsBehind_47 : decode cX7_beginningsBehind 47 = .ok (.getfield 33, 3) := by decide +kernel
theorem dX7_beginningsBehind_50 : decode cX7_beginningsBehind 50 = .ok (.aload_n 0, 1) := by decide +kernel
theorem dX7_beginningsBehind_51 : decode cX7_beginningsBehind 51 = .ok (.getfield 47, 3) := by decide +kernel
theorem dX7_beginningsBehind_54 : decode cX7_beginningsBehind 54 = .ok (.invokevirtual 233, 3) := by decide +kernel
theorem dX7_beginningsBehind_57 : decode cX7_beginningsBehind 57 = .ok (.ifCond .eq 5, 3) := by decide +kernel
theorem dX7_beginningsBehind_60 : decode cX7_beginningsBehind 60 = .ok (.iload_n 3, 1) := by decide +kernel
theorem dX7_beginningsBehind_61 : decode cX7_beginningsBehind 61 = .ok (.ireturn, 1) := by decide +kernel
theorem dX7_beginningsBehind_62 : decode cX7_beginningsBehind 62 = .ok (.iinc 3 1, 3) := by decide +kernel
theorem dX7_beginningsBehind_65 : decode cX7_beginningsBehind 65 = .ok (.goto (-38), 3) := by decide +kernel
theorem dX7_beginningsBehind_68 : decode cX7_beginningsBehind 68 = .ok (.iload_n 2, 1) := by decide +kernel
theorem dX7_beginningsBehind_69 : decode cX7_beginningsBehind 69 = .ok (.ireturn, 1) := by decide +kernel
theorem dX7_isWithin_0 : decode cX7_isWithin 0 = .ok (.lload_n 0, 1) := by decide +kernel
theorem dX7_isWithin_1 : decode cX7_isWithin 1 = .ok (.iload_n 2, 1) := by decide +kernel
theorem dX7_isWithin_2 : decode cX7_isWithin 2 = .ok (.ineg, 1) := by decide +kernel
theorem dX7_isWithin_3 : decode cX7_isWithin 3 = .ok (.i2l, 1) := by decide +kernel
theorem dX7_isWithin_4 : decode cX7_isWithin 4 = .ok (.lcmp, 1) := by decide +kernel
theorem dX7_isWithin_5 : decode cX7_isWithin 5 = .ok (.ifCond .lt 14, 3) := by decide +kernel
theorem dX7_isWithin_8 : decode cX7_isWithin 8 = .ok (.lload_n 0, 1) := by decide +kernel
theorem dX7_isWithin_9 : decode cX7_isWithin 9 = .ok (.iload_n 2, 1) := by decide +kernel
theorem dX7_isWithin_10 : decode cX7_isWithin 10 = .ok (.i2l, 1) := by decide +kernel
theorem dX7_isWithin_11 : decode cX7_isWithin 11 = .ok (.lcmp, 1) := by decide +kernel
theorem dX7_isWithin_12 : decode cX7_isWithin 12 = .ok (.ifCond .gt 7, 3) := by decide +kernel
theorem dX7_isWithin_15 : decode cX7_isWithin 15 = .ok (.iconst 1, 1) := by decide +kernel
theorem dX7_isWithin_16 : decode cX7_isWithin 16 = .ok (.goto 4, 3) := by decide +kernel
theorem dX7_isWithin_19 : decode cX7_isWithin 19 = .ok (.iconst 0, 1) := by decide +kernel
theorem dX7_isWithin_20 : decode cX7_isWithin 20 = .ok (.ireturn, 1) := by decide +kernel
theorem dX7_signOf_0 : decode cX7_signOf 0 = .ok (.lload_n 0, 1) := by decide +kernel
theorem dX7_signOf_1 : decode cX7_signOf 1 = .ok (.lconst 0, 1) := by decide +kernel
theorem dX7_signOf_2 : decode cX7_signOf 2 = .ok (.lcmp, 1) := by decide +kernel
theorem dX7_signOf_3 : decode cX7_signOf 3 = .ok (.ifCond .le 7, 3) := by decide +kernel
theorem dX7_signOf_6 : decode cX7_signOf 6 = .ok (.iconst 1, 1) := by decide +kernel
theorem dX7_signOf_7 : decode cX7_signOf 7 = .ok (.goto 14, 3) := by decide +kernel
theorem dX7_signOf_10 : decode cX7_signOf 10 = .ok (.lload_n 0, 1) := by decide +kernel
theorem dX7_signOf_11 : decode cX7_signOf 11 = .ok (.lconst 0, 1) := by decide +kernel
theorem dX7_signOf_12 : decode cX7_signOf 12 = .ok (.lcmp, 1) := by decide +kernel
theorem dX7_signOf_13 : decode cX7_signOf 13 = .ok (.ifCond .ge 7, 3) := by decide +kernel
theorem dX7_signOf_16 : decode cX7_signOf 16 = .ok (.iconst (-1), 1) := by decide +kernel
theorem dX7_signOf_17 : decode cX7_signOf 17 = .ok (.goto 4, 3) := by decide +kernel
theorem dX7_signOf_20 : decode cX7_signOf 20 = .ok (.iconst 0, 1) := by decide +kernel
theorem dX7_signOf_21 : decode cX7_signOf 21 = .ok (.istore 5, 2) := by decide +kernel
theorem dX7_signOf_23 : decode cX7_signOf 23 = .ok (.iload 4, 2) := by decide +kernel
theorem dX7_signOf_25 : decode cX7_signOf 25 = .ok (.ifCond .eq 9, 3) := by decide +kernel
theorem dX7_signOf_28 : decode cX7_signOf 28 = .ok (.lload_n 2, 1) := by decide +kernel
theorem dX7_signOf_29 : decode cX7_signOf 29 = .ok (.lconst 0, 1) := by decide +kernel
theorem dX7_signOf_30 : decode cX7_signOf 30 = .ok (.lcmp, 1) := by decide +kernel
theorem dX7_signOf_31 : decode cX7_signOf 31 = .ok (.ifCond .ne 6, 3) := by decide +kernel
theorem dX7_signOf_34 : decode cX7_signOf 34 = .ok (.iload 5, 2) := by decide +kernel
theorem dX7_signOf_36 : decode cX7_signOf 36 = .ok (.ireturn, 1) := by decide +kernel
theorem dX7_signOf_37 : decode cX7_signOf 37 = .ok (.lload_n 2, 1) := by decide +kernel
theorem dX7_signOf_38 : decode cX7_signOf 38 = .ok (.lconst 0, 1) := by decide +kernel
theorem dX7_signOf_39 : decode cX7_signOf 39 = .ok (.lcmp, 1) := by decide +kernel
theorem dX7_signOf_40 : decode cX7_signOf 40 = .ok (.ifCond .le 7, 3) := by decide +kernel
theorem dX7_signOf_43 : decode cX7_signOf 43 = .ok (.iconst 1, 1) := by decide +kernel
theorem dX7_signOf_44 : decode cX7_signOf 44 = .ok (.goto 4, 3) := by decide +kernel
theorem dX7_signOf_47 : decode cX7_signOf 47 = .ok (.iconst (-1), 1) := by decide +kernel
theorem dX7_signOf_48 : decode cX7_signOf 48 = .ok (.istore 6, 2) := by decide +kernel
theorem dX7_signOf_50 : decode cX7_signOf 50 = .ok (.iload 5, 2) := by decide +kernel
theorem dX7_signOf_52 : decode cX7_signOf 52 = .ok (.ifCond .eq 10, 3) := by decide +kernel
theorem dX7_signOf_55 : decode cX7_signOf 55 = .ok (.iload 5, 2) := by decide +kernel
theorem dX7_signOf_57 : decode cX7_signOf 57 = .ok (.iload 6, 2) := by decide +kernel
theorem dX7_signOf_59 : decode cX7_signOf 59 = .ok (.if_icmp .ne 6, 3) := by decide +kernel
theorem dX7_signOf_62 : decode cX7_signOf 62 = .ok (.iload 6, 2) := by decide +kernel
theorem dX7_signOf_64 : decode cX7_signOf 64 = .ok (.ireturn, 1) := by decide +kernel
theorem dX7_signOf_65 : decode cX7_signOf 65 = .ok (.lload_n 0, 1) := by decide +kernel
theorem dX7_signOf_66 : decode cX7_signOf 66 = .ok (.lload_n 0, 1) := by decide +kernel
theorem dX7_signOf_67 : decode cX7_signOf 67 = .ok (.lmul, 1) := by decide +kernel
theorem dX7_signOf_68 : decode cX7_signOf 68 = .ok (.iload 4, 2) := by decide +kernel
theorem dX7_signOf_70 : decode cX7_signOf 70 = .ok (.i2l, 1) := by decide +kernel
theorem dX7_signOf_71 : decode cX7_signOf 71 = .ok (.lload_n 2, 1) := by decide +kernel
theorem dX7_signOf_72 : decode cX7_signOf 72 = .ok (.lmul, 1) := by decide +kernel
theorem dX7_signOf_73 : decode cX7_signOf 73 = .ok (.lload_n 2, 1) := by decide +kernel
theorem dX7_signOf_74 : decode cX7_signOf 74 = .ok (.lmul, 1) := by decide +kernel
theorem dX7_signOf_75 : decode cX7_signOf 75 = .ok (.lcmp, 1) := by decide +kernel
theorem dX7_signOf_76 : decode cX7_signOf 76 = .ok (.ifCond .le 8, 3) := by decide +kernel
theorem dX7_signOf_79 : decode cX7_signOf 79 = .ok (.iload 5, 2) := by decide +kernel
theorem dX7_signOf_81 : decode cX7_signOf 81 = .ok (.goto 5, 3) := by decide +kernel
theorem dX7_signOf_84 : decode cX7_signOf 84 = .ok (.iload 6, 2) := by decide +kernel
theorem dX7_signOf_86 : decode cX7_signOf 86 = .ok (.ireturn, 1) := by decide +kernel
theorem dX8_init_0 : decode cX8_init 0 = .ok (.aload_n 0, 1) := by decide +kernel
theorem dX8_init_1 : decode cX8_init 1 = .ok (.invokespecial 1, 3) := by decide +kernel
theorem dX8_init_4 : decode cX8_init 4 = .ok (.aload_n 0, 1) := by decide +kernel
theorem dX8_init_5 : decode cX8_init 5 = .ok (.bipush 8, 2) := by decide +kernel
theorem dX8_init_7 : decode cX8_init 7 = .ok (.newarray .int, 2) := by decide +kernel
theorem dX8_init_9 : decode cX8_init 9 = .ok (.putfield 7, 3) := by decide +kernel
theorem dX8_init_12 : decode cX8_init 12 = .ok (.aload_n 0, 1) := by decide +kernel
theorem dX8_init_13 : decode cX8_init 13 = .ok (.bipush 8, 2) := by decide +kernel
theorem dX8_init_15 : decode cX8_init 15 = .ok (.newarray .int, 2) := by decide +kernel
theorem dX8_init_17 : decode cX8_init 17 = .ok (.putfield 13, 3) := by decide +kernel
theorem dX8_init_20 : decode cX8_init 20 = .ok (.aload_n 0, 1) := by decide +kernel
theorem dX8_init_21 : decode cX8_init 21 = .ok (.bipush 8, 2) := by decide +kernel
theorem dX8_init_23 : decode cX8_init 23 = .ok (.newarray .int, 2) := by decide +kernel
theorem dX8_init_25 : decode cX8_init 25 = .ok (.putfield 16, 3) := by decide +kernel
theorem dX8_init_28 : decode cX8_init 28 = .ok (.aload_n 0, 1) := by decide +kernel
theorem dX8_init_29 : decode cX8_init 29 = .ok (.bipush 8, 2) := by decide +kernel
theorem dX8_init_31 : decode cX8_init 31 = .ok (.newarray .long, 2) := by decide +kernel
theorem dX8_init_33 : decode cX8_init 33 = .ok (.putfield 19, 3) := by decide +kernel
theorem dX8_init_36 : decode cX8_init 36 = .ok (.aload_n 0, 1) := by decide +kernel
theorem dX8_init_37 : decode cX8_init 37 = .ok (.bipush 8, 2) := by decide +kernel
theorem dX8_init_39 : decode cX8_init 39 = .ok (.newarray .long, 2) := by decide +kernel
theorem dX8_init_41 : decode cX8_init 41 = .ok (.putfield 23, 3) := by decide +kernel
theorem dX8_init_44 : decode cX8_init 44 = .ok (.aload_n 0, 1) := by decide +kernel
theorem dX8_init_45 : decode cX8_init 45 = .ok (.bipush 8, 2) := by decide +kernel
theorem dX8_init_47 : decode cX8_init 47 = .ok (.newarray .int, 2) := by decide +kernel
theorem dX8_init_49 : decode cX8_init 49 = .ok (.putfield 26, 3) := by decide +kernel
theorem dX8_init_52 : decode cX8_init 52 = .ok (.aload_n 0, 1) := by decide +kernel
theorem dX8_init_53 : decode cX8_init 53 = .ok (.bipush 8, 2) := by decide +kernel
theorem dX8_init_55 : decode cX8_init 55 = .ok (.newarray .int, 2) := by decide +kernel
theorem dX8_init_57 : decode cX8_init 57 = .ok (.putfield 29, 3) := by decide +kernel
theorem dX8_init_60 : decode cX8_init 60 = .ok (.aload_n 0, 1) := by decide +kernel
theorem dX8_init_61 : decode cX8_init 61 = .ok (.bipush 64, 2) := by decide +kernel
theorem dX8_init_63 : decode cX8_init 63 = .ok (.newarray .long, 2) := by decide +kernel
theorem dX8_init_65 : decode cX8_init 65 = .ok (.putfield 32, 3) := by decide +kernel
theorem dX8_init_68 : decode cX8_init 68 = .ok (.aload_n 0, 1) := by decide +kernel
theorem dX8_init_69 : decode cX8_init 69 = .ok (.bipush 8, 2) := by decide +kernel
theorem dX8_init_71 : decode cX8_init 71 = .ok (.newarray .long, 2) := by decide +kernel
theorem dX8_init_73 : decode cX8_init 73 = .ok (.putfield 35, 3) := by decide +kernel
theorem dX8_init_76 : decode cX8_init 76 = .ok (.aload_n 0, 1) := by decide +kernel
theorem dX8_init_77 : decode cX8_init 77 = .ok (.bipush 8, 2) := by decide +kernel
theorem dX8_init_79 : decode cX8_init 79 = .ok (.newarray .long, 2) := by decide +kernel
theorem dX8_init_81 : decode cX8_init 81 = .ok (.putfield 38, 3) := by decide +kernel
theorem dX8_init_84 : decode cX8_init 84 = .ok (.aload_n 0, 1) := by decide +kernel
theorem dX8_init_85 : decode cX8_init 85 = .ok (.bipush 8, 2) := by decide +kernel
theorem dX8_init_87 : decode cX8_init 87 = .ok (.newarray .int, 2) := by decide +kernel
theorem dX8_init_89 : decode cX8_init 89 = .ok (.putfield 41, 3) := by decide +kernel
theorem dX8_init_92 : decode cX8_init 92 = .ok (.aload_n 0, 1) := by decide +kernel
theorem dX8_init_93 : decode cX8_init 93 = .ok (.bipush 8, 2) := by decide +kernel
theorem dX8_init_95 : decode cX8_init 95 = .ok (.newarray .int, 2) := by decide +kernel
theorem dX8_init_97 : decode cX8_init 97 = .ok (.putfield 44, 3) := by decide +kernel
theorem dX8_init_100 : decode cX8_init 100 = .ok (.aload_n 0, 1) := by decide +kernel
theorem dX8_init_101 : decode cX8_init 101 = .ok (.bipush 64, 2) := by decide +kernel
theorem dX8_init_103 : decode cX8_init 103 = .ok (.newarray .long, 2) := by decide +kernel
theorem dX8_init_105 : decode cX8_init 105 = .ok (.putfield 47, 3) := by decide +kernel
theorem dX8_init_108 : decode cX8_init 108 = .ok (.aload_n 0, 1) := by decide +kernel
theorem dX8_init_109 : decode cX8_init 109 = .ok (.sipush 2000, 3) := by decide +kernel
theorem dX8_init_112 : decode cX8_init 112 = .ok (.newarray .int, 2) := by decide +kernel
theorem dX8_init_114 : decode cX8_init 114 = .ok (.putfield 50, 3) := by decide +kernel
theorem dX8_init_117 : decode cX8_init 117 = .ok (.aload_n 0, 1) := by decide +kernel
theorem dX8_init_118 : decode cX8_init 118 = .ok (.sipush 2000, 3) := by decide +kernel
theorem dX8_init_121 : decode cX8_init 121 = .ok (.newarray .int, 2) := by decide +kernel
theorem dX8_init_123 : decode cX8_init 123 = .ok (.putfield 53, 3) := by decide +kernel
theorem dX8_init_126 : decode cX8_init 126 = .ok (.aload_n 0, 1) := by decide +kernel
theorem dX8_init_127 : decode cX8_init 127 = .ok (.sipush 2000, 3) := by decide +kernel
theorem dX8_init_130 : decode cX8_init 130 = .ok (.newarray .int, 2) := by decide +kernel
theorem dX8_init_132 : decode cX8_init 132 = .ok (.putfield 56, 3) := by decide +kernel
theorem dX8_init_135 : decode cX8_init 135 = .ok (.aload_n 0, 1) := by decide +kernel
theorem dX8_init_136 : decode cX8_init 136 = .ok (.sipush 2000, 3) := by decide +kernel
theorem dX8_init_139 : decode cX8_init 139 = .ok (.newarray .int, 2) := by decide +kernel
theorem dX8_init_141 : decode cX8_init 141 = .ok (.putfield 59, 3) := by decide +kernel
theorem dX8_init_144 : decode cX8_init 144 = .ok (.aload_n 0, 1) := by decide +kernel
theorem dX8_init_145 : decode cX8_init 145 = .ok (.sipush 2000, 3) := by decide +kernel
theorem dX8_init_148 : decode cX8_init 148 = .ok (.newarray .int, 2) := by decide +kernel
theorem dX8_init_150 : decode cX8_init 150 = .ok (.putfield 62, 3) := by decide +kernel
theorem dX8_init_153 : decode cX8_init 153 = .ok (.aload_n 0, 1) := by decide +kernel
theorem dX8_init_154 : decode cX8_init 154 = .ok (.sipush 2000, 3) := by decide +kernel
theorem dX8_init_157 : decode cX8_init 157 = .ok (.newarray .boolean, 2) := by decide +kernel
theorem dX8_init_159 : decode cX8_init 159 = .ok (.putfield 65, 3) := by decide +kernel
theorem dX8_init_162 : decode cX8_init 162 = .ok (.aload_n 0, 1) := by decide +kernel
theorem dX8_init_163 : decode cX8_init 163 = .ok (.bipush 80, 2) := by decide +kernel
theorem dX8_init_165 : decode cX8_init 165 = .ok (.newarray .long, 2) := by decide +kernel
theorem dX8_init_167 : decode cX8_init 167 = .ok (.putfield 69, 3) := by decide +kernel
theorem dX8_init_170 : decode cX8_init 170 = .ok (.aload_n 0, 1) := by decide +kernel
theorem dX8_init_171 : decode cX8_init 171 = .ok (.bipush 80, 2) := by decide +kernel
theorem dX8_init_173 : decode cX8_init 173 = .ok (.newarray .long, 2) := by decide +kernel
theorem dX8_init_175 : decode cX8_init 175 = .ok (.putfield 72, 3) := by decide +kernel
theorem dX8_init_178 : decode cX8_init 178 = .ok (.aload_n 0, 1) := by decide +kernel
theorem dX8_init_179 : decode cX8_init 179 = .ok (.sipush 800, 3) := by decide +kernel
theorem dX8_init_182 : decode cX8_init 182 = .ok (.newarray .int, 2) := by decide +kernel
theorem dX8_init_184 : decode cX8_init 184 = .ok (.putfield 75, 3) := by decide +kernel
theorem dX8_init_187 : decode cX8_init 187 = .ok (.aload_n 0, 1) := by decide +kernel
theorem dX8_init_188 : decode cX8_init 188 = .ok (.bipush 8, 2) := by decide +kernel
theorem dX8_init_190 : decode cX8_init 190 = .ok (.newarray .int, 2) := by decide +kernel
theorem dX8_init_192 : decode cX8_init 192 = .ok (.putfield 78, 3) := by decide +kernel
theorem dX8_init_195 : decode cX8_init 195 = .ok (.aload_n 0, 1) := by decide +kernel
theorem dX8_init_196 : decode cX8_init 196 = .ok (.bipush 8, 2) := by decide +kernel
theorem dX8_init_198 : decode cX8_init 198 = .ok (.newarray .int, 2) := by decide +kernel
theorem dX8_init_200 : decode cX8_init 200 = .ok (.putfield 81, 3) := by decide +kernel
theorem dX8_init_203 : decode cX8_init 203 = .ok (.aload_n 0, 1) := by decide +kernel
theorem dX8_init_204 : decode cX8_init 204 = .ok (.bipush 16, 2) := by decide +kernel
theorem dX8_init_206 : decode cX8_init 206 = .ok (.newarray .int, 2) := by decide +kernel
theorem dX8_init_208 : decode cX8_init 208 = .ok (.putfield 84, 3) := by decide +kernel
theorem dX8_init_211 : decode cX8_init 211 = .ok (.return_, 1) := by decide +kernel
theorem dX8_signOf_0 : decode cX8_signOf 0 = .ok (.lload_n 3, 1) := by decide +kernel
theorem dX8_signOf_1 : decode cX8_signOf 1 = .ok (.lconst 0, 1) := by decide +kernel
theorem dX8_signOf_2 : decode cX8_signOf 2 = .ok (.lcmp, 1) := by decide +kernel
theorem dX8_signOf_3 : decode cX8_signOf 3 = .ok (.ifCond .eq 10, 3) := by decide +kernel
theorem dX8_signOf_6 : decode cX8_signOf 6 = .ok (.aload_n 0, 1) := by decide +kernel
theorem dX8_signOf_7 : decode cX8_signOf 7 = .ok (.getfield 87, 3) := by decide +kernel
theorem dX8_signOf_10 : decode cX8_signOf 10 = .ok (.ifCond .ne 25, 3) := by decide +kernel
theorem dX8_signOf_13 : decode cX8_signOf 13 = .ok (.lload_n 1, 1) := by decide +kernel
theorem dX8_signOf_14 : decode cX8_signOf 14 = .ok (.lconst 0, 1) := by decide +kernel
theorem dX8_signOf_15 : decode cX8_signOf 15 = .ok (.lcmp, 1) := by decide +kernel
theorem dX8_signOf_16 : decode cX8_signOf 16 = .ok (.ifCond .le 7, 3) := by decide +kernel
theorem dX8_signOf_19 : decode cX8_signOf 19 = .ok (.iconst 1, 1) := by decide +kernel
theorem dX8_signOf_20 : decode cX8_signOf 20 = .ok (.goto 14, 3) := by decide +kernel
theorem dX8_signOf_23 : decode cX8_signOf 23 = .ok (.lload_n 1, 1) := by decide +kernel
theorem dX8_signOf_24 : decode cX8_signOf 24 = .ok (.lconst 0, 1) := by decide +kernel
theorem dX8_signOf_25 : decode cX8_signOf 25 = .ok (.lcmp, 1) := by decide +kernel
theorem dX8_signOf_26 : decode cX8_signOf 26 = .ok (.ifCond .ge 7, 3) := by decide +kernel
theorem dX8_signOf_29 : decode cX8_signOf 29 = .ok (.iconst (-1), 1) := by decide +kernel
theorem dX8_signOf_30 : decode cX8_signOf 30 = .ok (.goto 4, 3) := by decide +kernel
theorem dX8_signOf_33 : decode cX8_signOf 33 = .ok (.iconst 0, 1) := by decide +kernel
theorem dX8_signOf_34 : decode cX8_signOf 34 = .ok (.ireturn, 1) := by decide +kernel
theorem dX8_signOf_35 : decode cX8_signOf 35 = .ok (.lload_n 1, 1) := by decide +kernel
theorem dX8_signOf_36 : decode cX8_signOf 36 = .ok (.lconst 0, 1) := by decide +kernel
theorem dX8_signOf_37 : decode cX8_signOf 37 = .ok (.lcmp, 1) := by decide +kernel
theorem dX8_signOf_38 : decode cX8_signOf 38 = .ok (.ifCond .lt 11, 3) := by decide +kernel
theorem dX8_signOf_41 : decode cX8_signOf 41 = .ok (.lload_n 3, 1) := by decide +kernel
theorem dX8_signOf_42 : decode cX8_signOf 42 = .ok (.lconst 0, 1) := by decide +kernel
theorem dX8_signOf_43 : decode cX8_signOf 43 = .ok (.lcmp, 1) := by decide +kernel
theorem dX8_signOf_44 : decode cX8_signOf 44 = .ok (.ifCond .le 5, 3) := by decide +kernel
theorem dX8_signOf_47 : decode cX8_signOf 47 = .ok (.iconst 1, 1) := by decide +kernel
theorem dX8_signOf_48 : decode cX8_signOf 48 = .ok (.ireturn, 1) := by decide +kernel
theorem dX8_signOf_49 : decode cX8_signOf 49 = .ok (.lload_n 1, 1) := by decide +kernel
theorem dX8_signOf_50 : decode cX8_signOf 50 = .ok (.lconst 0, 1) := by decide +kernel
theorem dX8_signOf_51 : decode cX8_signOf 51 = .ok (.lcmp, 1) := by decide +kernel
theorem dX8_signOf_52 : decode cX8_signOf 52 = .ok (.ifCond .gt 11, 3) := by decide +kernel
theorem dX8_signOf_55 : decode cX8_signOf 55 = .ok (.lload_n 3, 1) := by decide +kernel
theorem dX8_signOf_56 : decode cX8_signOf 56 = .ok (.lconst 0, 1) := by decide +kernel
theorem dX8_signOf_57 : decode cX8_signOf 57 = .ok (.lcmp, 1) := by decide +kernel
theorem dX8_signOf_58 : decode cX8_signOf 58 = .ok (.ifCond .ge 5, 3) := by decide +kernel
theorem dX8_signOf_61 : decode cX8_signOf 61 = .ok (.iconst (-1), 1) := by decide +kernel
theorem dX8_signOf_62 : decode cX8_signOf 62 = .ok (.ireturn, 1) := by decide +kernel
theorem dX8_signOf_63 : decode cX8_signOf 63 = .ok (.lload_n 1, 1) := by decide +kernel
theorem dX8_signOf_64 : decode cX8_signOf 64 = .ok (.lload_n 1, 1) := by decide +kernel
theorem dX8_signOf_65 : decode cX8_signOf 65 = .ok (.lmul, 1) := by decide +kernel
theorem dX8_signOf_66 : decode cX8_signOf 66 = .ok (.lstore 5, 2) := by decide +kernel
end
section
theorem dX8_signOf_68 : decode cX8_signOf 68 = .ok (.aload_n 0, 1) := by decide +kernel
theorem dX8_signOf_69 : decode cX8_signOf 69 = .ok (.getfield 87, 3) := by decide +kernel
theorem dX8_signOf_72 : decode cX8_signOf 72 = .ok (.i2l, 1) := by decide +kernel
theorem dX8_signOf_73 : decode cX8_signOf 73 = .ok (.lload_n 3, 1) := by decide +kernel
theorem dX8_signOf_74 : decode cX8_signOf 74 = .ok (.lmul, 1) := by decide +kernel
theorem dX8_signOf_75 : decode cX8_signOf 75 = .ok (.lload_n 3, 1) := by decide +kernel
theorem dX8_signOf_76 : decode cX8_signOf 76 = .ok (.lmul, 1) := by decide +kernel
theorem dX8_signOf_77 : decode cX8_signOf 77 = .ok (.lstore 7, 2) := by decide +kernel
theorem dX8_signOf_79 : decode cX8_signOf 79 = .ok (.lload_n 1, 1) := by decide +kernel
theorem dX8_signOf_80 : decode cX8_signOf 80 = .ok (.lconst 0, 1) := by decide +kernel
theorem dX8_signOf_81 : decode cX8_signOf 81 = .ok (.lcmp, 1) := by decide +kernel
theorem dX8_signOf_82 : decode cX8_signOf 82 = .ok (.ifCond .le 29, 3) := by decide +kernel
theorem dX8_signOf_85 : decode cX8_signOf 85 = .ok (.lload 5, 2) := by decide +kernel
theorem dX8_signOf_87 : decode cX8_signOf 87 = .ok (.lload 7, 2) := by decide +kernel
theorem dX8_signOf_89 : decode cX8_signOf 89 = .ok (.lcmp, 1) := by decide +kernel
theorem dX8_signOf_90 : decode cX8_signOf 90 = .ok (.ifCond .le 7, 3) := by decide +kernel
theorem dX8_signOf_93 : decode cX8_signOf 93 = .ok (.iconst 1, 1) := by decide +kernel
theorem dX8_signOf_94 : decode cX8_signOf 94 = .ok (.goto 16, 3) := by decide +kernel
theorem dX8_signOf_97 : decode cX8_signOf 97 = .ok (.lload 5, 2) := by decide +kernel
theorem dX8_signOf_99 : decode cX8_signOf 99 = .ok (.lload 7, 2) := by decide +kernel
theorem dX8_signOf_101 : decode cX8_signOf 101 = .ok (.lcmp, 1) := by decide +kernel
theorem dX8_signOf_102 : decode cX8_signOf 102 = .ok (.ifCond .ge 7, 3) := by decide +kernel
theorem dX8_signOf_105 : decode cX8_signOf 105 = .ok (.iconst (-1), 1) := by decide +kernel
theorem dX8_signOf_106 : decode cX8_signOf 106 = .ok (.goto 4, 3) := by decide +kernel
theorem dX8_signOf_109 : decode cX8_signOf 109 = .ok (.iconst 0, 1) := by decide +kernel
theorem dX8_signOf_110 : decode cX8_signOf 110 = .ok (.ireturn, 1) := by decide +kernel
theorem dX8_signOf_111 : decode cX8_signOf 111 = .ok (.lload 7, 2) := by decide +kernel
theorem dX8_signOf_113 : decode cX8_signOf 113 = .ok (.lload 5, 2) := by decide +kernel
theorem dX8_signOf_115 : decode cX8_signOf 115 = .ok (.lcmp, 1) := by decide +kernel
theorem dX8_signOf_116 : decode cX8_signOf 116 = .ok (.ifCond .le 7, 3) := by decide +kernel
theorem dX8_signOf_119 : decode cX8_signOf 119 = .ok (.iconst 1, 1) := by decide +kernel
theorem dX8_signOf_120 : decode cX8_signOf 120 = .ok (.goto 16, 3) := by decide +kernel
theorem dX8_signOf_123 : decode cX8_signOf 123 = .ok (.lload 7, 2) := by decide +kernel
theorem dX8_signOf_125 : decode cX8_signOf 125 = .ok (.lload 5, 2) := by decide +kernel
theorem dX8_signOf_127 : decode cX8_signOf 127 = .ok (.lcmp, 1) := by decide +kernel
theorem dX8_signOf_128 : decode cX8_signOf 128 = .ok (.ifCond .ge 7, 3) := by decide +kernel
theorem dX8_signOf_131 : decode cX8_signOf 131 = .ok (.iconst (-1), 1) := by decide +kernel
theorem dX8_signOf_132 : decode cX8_signOf 132 = .ok (.goto 4, 3) := by decide +kernel
theorem dX8_signOf_135 : decode cX8_signOf 135 = .ok (.iconst 0, 1) := by decide +kernel
theorem dX8_signOf_136 : decode cX8_signOf 136 = .ok (.ireturn, 1) := by decide +kernel
theorem dX8_forgets_0 : decode cX8_forgets 0 = .ok (.iconst 0, 1) := by decide +kernel
theorem dX8_forgets_1 : decode cX8_forgets 1 = .ok (.istore_n 1, 1) := by decide +kernel
theorem dX8_forgets_2 : decode cX8_forgets 2 = .ok (.iload_n 1, 1) := by decide +kernel
theorem dX8_forgets_3 : decode cX8_forgets 3 = .ok (.bipush 8, 2) := by decide +kernel
theorem dX8_forgets_5 : decode cX8_forgets 5 = .ok (.if_icmp .ge 23, 3) := by decide +kernel
theorem dX8_forgets_8 : decode cX8_forgets 8 = .ok (.aload_n 0, 1) := by decide +kernel
theorem dX8_forgets_9 : decode cX8_forgets 9 = .ok (.getfield 7, 3) := by decide +kernel
theorem dX8_forgets_12 : decode cX8_forgets 12 = .ok (.iload_n 1, 1) := by decide +kernel
theorem dX8_forgets_13 : decode cX8_forgets 13 = .ok (.iconst 0, 1) := by decide +kernel
theorem dX8_forgets_14 : decode cX8_forgets 14 = .ok (.iastore, 1) := by decide +kernel
theorem dX8_forgets_15 : decode cX8_forgets 15 = .ok (.aload_n 0, 1) := by decide +kernel
theorem dX8_forgets_16 : decode cX8_forgets 16 = .ok (.getfield 13, 3) := by decide +kernel
theorem dX8_forgets_19 : decode cX8_forgets 19 = .ok (.iload_n 1, 1) := by decide +kernel
theorem dX8_forgets_20 : decode cX8_forgets 20 = .ok (.iconst 0, 1) := by decide +kernel
theorem dX8_forgets_21 : decode cX8_forgets 21 = .ok (.iastore, 1) := by decide +kernel
theorem dX8_forgets_22 : decode cX8_forgets 22 = .ok (.iinc 1 1, 3) := by decide +kernel
theorem dX8_forgets_25 : decode cX8_forgets 25 = .ok (.goto (-23), 3) := by decide +kernel
theorem dX8_forgets_28 : decode cX8_forgets 28 = .ok (.aload_n 0, 1) := by decide +kernel
theorem dX8_forgets_29 : decode cX8_forgets 29 = .ok (.iconst 0, 1) := by decide +kernel
theorem dX8_forgets_30 : decode cX8_forgets 30 = .ok (.putfield 91, 3) := by decide +kernel
theorem dX8_forgets_33 : decode cX8_forgets 33 = .ok (.aload_n 0, 1) := by decide +kernel
theorem dX8_forgets_34 : decode cX8_forgets 34 = .ok (.iconst 0, 1) := by decide +kernel
theorem dX8_forgets_35 : decode cX8_forgets 35 = .ok (.putfield 94, 3) := by decide +kernel
theorem dX8_forgets_38 : decode cX8_forgets 38 = .ok (.aload_n 0, 1) := by decide +kernel
theorem dX8_forgets_39 : decode cX8_forgets 39 = .ok (.iconst 0, 1) := by decide +kernel
theorem dX8_forgets_40 : decode cX8_forgets 40 = .ok (.putfield 97, 3) := by decide +kernel
theorem dX8_forgets_43 : decode cX8_forgets 43 = .ok (.aload_n 0, 1) := by decide +kernel
theorem dX8_forgets_44 : decode cX8_forgets 44 = .ok (.iconst 0, 1) := by decide +kernel
theorem dX8_forgets_45 : decode cX8_forgets 45 = .ok (.putfield 101, 3) := by decide +kernel
theorem dX8_forgets_48 : decode cX8_forgets 48 = .ok (.aload_n 0, 1) := by decide +kernel
theorem dX8_forgets_49 : decode cX8_forgets 49 = .ok (.iconst 0, 1) := by decide +kernel
theorem dX8_forgets_50 : decode cX8_forgets 50 = .ok (.putfield 104, 3) := by decide +kernel
theorem dX8_forgets_53 : decode cX8_forgets 53 = .ok (.return_, 1) := by decide +kernel
theorem dX8_root_0 : decode cX8_root 0 = .ok (.iload_n 1, 1) := by decide +kernel
theorem dX8_root_1 : decode cX8_root 1 = .ok (.ifCond .eq 26, 3) := by decide +kernel
theorem dX8_root_4 : decode cX8_root 4 = .ok (.iload_n 1, 1) := by decide +kernel
theorem dX8_root_5 : decode cX8_root 5 = .ok (.iconst 2, 1) := by decide +kernel
theorem dX8_root_6 : decode cX8_root 6 = .ok (.if_icmp .eq 21, 3) := by decide +kernel
theorem dX8_root_9 : decode cX8_root 9 = .ok (.iload_n 1, 1) := by decide +kernel
theorem dX8_root_10 : decode cX8_root 10 = .ok (.iconst 3, 1) := by decide +kernel
theorem dX8_root_11 : decode cX8_root 11 = .ok (.if_icmp .eq 16, 3) := by decide +kernel
theorem dX8_root_14 : decode cX8_root 14 = .ok (.iload_n 1, 1) := by decide +kernel
theorem dX8_root_15 : decode cX8_root 15 = .ok (.iconst 5, 1) := by decide +kernel
theorem dX8_root_16 : decode cX8_root 16 = .ok (.if_icmp .eq 11, 3) := by decide +kernel
theorem dX8_root_19 : decode cX8_root 19 = .ok (.iload_n 1, 1) := by decide +kernel
theorem dX8_root_20 : decode cX8_root 20 = .ok (.bipush 7, 2) := by decide +kernel
theorem dX8_root_22 : decode cX8_root 22 = .ok (.if_icmp .eq 5, 3) := by decide +kernel
theorem dX8_root_25 : decode cX8_root 25 = .ok (.iconst 0, 1) := by decide +kernel
theorem dX8_root_26 : decode cX8_root 26 = .ok (.ireturn, 1) := by decide +kernel
theorem dX8_root_27 : decode cX8_root 27 = .ok (.aload_n 0, 1) := by decide +kernel
theorem dX8_root_28 : decode cX8_root 28 = .ok (.invokevirtual 107, 3) := by decide +kernel
theorem dX8_root_31 : decode cX8_root 31 = .ok (.aload_n 0, 1) := by decide +kernel
theorem dX8_root_32 : decode cX8_root 32 = .ok (.iload_n 1, 1) := by decide +kernel
theorem dX8_root_33 : decode cX8_root 33 = .ok (.putfield 87, 3) := by decide +kernel
theorem dX8_root_36 : decode cX8_root 36 = .ok (.iconst 1, 1) := by decide +kernel
theorem dX8_root_37 : decode cX8_root 37 = .ok (.ireturn, 1) := by decide +kernel
theorem dX8_isIn_0 : decode cX8_isIn 0 = .ok (.lload_n 0, 1) := by decide +kernel
theorem dX8_isIn_1 : decode cX8_isIn 1 = .ok (.lload_n 2, 1) := by decide +kernel
theorem dX8_isIn_2 : decode cX8_isIn 2 = .ok (.lneg, 1) := by decide +kernel
theorem dX8_isIn_3 : decode cX8_isIn 3 = .ok (.lcmp, 1) := by decide +kernel
theorem dX8_isIn_4 : decode cX8_isIn 4 = .ok (.ifCond .lt 13, 3) := by decide +kernel
theorem dX8_isIn_7 : decode cX8_isIn 7 = .ok (.lload_n 0, 1) := by decide +kernel
theorem dX8_isIn_8 : decode cX8_isIn 8 = .ok (.lload_n 2, 1) := by decide +kernel
theorem dX8_isIn_9 : decode cX8_isIn 9 = .ok (.lcmp, 1) := by decide +kernel
theorem dX8_isIn_10 : decode cX8_isIn 10 = .ok (.ifCond .gt 7, 3) := by decide +kernel
theorem dX8_isIn_13 : decode cX8_isIn 13 = .ok (.iconst 1, 1) := by decide +kernel
theorem dX8_isIn_14 : decode cX8_isIn 14 = .ok (.goto 4, 3) := by decide +kernel
theorem dX8_isIn_17 : decode cX8_isIn 17 = .ok (.iconst 0, 1) := by decide +kernel
theorem dX8_isIn_18 : decode cX8_isIn 18 = .ok (.ireturn, 1) := by decide +kernel
theorem dX8_length_0 : decode cX8_length 0 = .ok (.iload_n 1, 1) := by decide +kernel
theorem dX8_length_1 : decode cX8_length 1 = .ok (.ifCond .lt 54, 3) := by decide +kernel
theorem dX8_length_4 : decode cX8_length 4 = .ok (.iload_n 1, 1) := by decide +kernel
theorem dX8_length_5 : decode cX8_length 5 = .ok (.bipush 8, 2) := by decide +kernel
theorem dX8_length_7 : decode cX8_length 7 = .ok (.if_icmp .ge 48, 3) := by decide +kernel
theorem dX8_length_10 : decode cX8_length 10 = .ok (.iload_n 2, 1) := by decide +kernel
theorem dX8_length_11 : decode cX8_length 11 = .ok (.i2l, 1) := by decide +kernel
theorem dX8_length_12 : decode cX8_length 12 = .ok (.ldc2_w 110, 3) := by decide +kernel
theorem dX8_length_15 : decode cX8_length 15 = .ok (.invokestatic 112, 3) := by decide +kernel
theorem dX8_length_18 : decode cX8_length 18 = .ok (.ifCond .eq 37, 3) := by decide +kernel
theorem dX8_length_21 : decode cX8_length 21 = .ok (.iload_n 3, 1) := by decide +kernel
theorem dX8_length_22 : decode cX8_length 22 = .ok (.i2l, 1) := by decide +kernel
theorem dX8_length_23 : decode cX8_length 23 = .ok (.ldc2_w 110, 3) := by decide +kernel
theorem dX8_length_26 : decode cX8_length 26 = .ok (.invokestatic 112, 3) := by decide +kernel
theorem dX8_length_29 : decode cX8_length 29 = .ok (.ifCond .eq 26, 3) := by decide +kernel
theorem dX8_length_32 : decode cX8_length 32 = .ok (.aload_n 0, 1) := by decide +kernel
theorem dX8_length_33 : decode cX8_length 33 = .ok (.getfield 87, 3) := by decide +kernel
theorem dX8_length_36 : decode cX8_length 36 = .ok (.ifCond .ne 7, 3) := by decide +kernel
theorem dX8_length_39 : decode cX8_length 39 = .ok (.iload_n 3, 1) := by decide +kernel
theorem dX8_length_40 : decode cX8_length 40 = .ok (.ifCond .ne 15, 3) := by decide +kernel
theorem dX8_length_43 : decode cX8_length 43 = .ok (.aload_n 0, 1) := by decide +kernel
theorem dX8_length_44 : decode cX8_length 44 = .ok (.iload_n 2, 1) := by decide +kernel
theorem dX8_length_45 : decode cX8_length 45 = .ok (.i2l, 1) := by decide +kernel
theorem dX8_length_46 : decode cX8_length 46 = .ok (.iload_n 3, 1) := by decide +kernel
theorem dX8_length_47 : decode cX8_length 47 = .ok (.i2l, 1) := by decide +kernel
theorem dX8_length_48 : decode cX8_length 48 = .ok (.invokevirtual 116, 3) := by decide +kernel
theorem dX8_length_51 : decode cX8_length 51 = .ok (.iconst 1, 1) := by decide +kernel
theorem dX8_length_52 : decode cX8_length 52 = .ok (.if_icmp .ge 5, 3) := by decide +kernel
theorem dX8_length_55 : decode cX8_length 55 = .ok (.iconst 0, 1) := by decide +kernel
theorem dX8_length_56 : decode cX8_length 56 = .ok (.ireturn, 1) := by decide +kernel
theorem dX8_length_57 : decode cX8_length 57 = .ok (.aload_n 0, 1) := by decide +kernel
theorem dX8_length_58 : decode cX8_length 58 = .ok (.getfield 7, 3) := by decide +kernel
theorem dX8_length_61 : decode cX8_length 61 = .ok (.iload_n 1, 1) := by decide +kernel
theorem dX8_length_62 : decode cX8_length 62 = .ok (.iload_n 2, 1) := by decide +kernel
theorem dX8_length_63 : decode cX8_length 63 = .ok (.iastore, 1) := by decide +kernel
theorem dX8_length_64 : decode cX8_length 64 = .ok (.aload_n 0, 1) := by decide +kernel
theorem dX8_length_65 : decode cX8_length 65 = .ok (.getfield 13, 3) := by decide +kernel
theorem dX8_length_68 : decode cX8_length 68 = .ok (.iload_n 1, 1) := by decide +kernel
theorem dX8_length_69 : decode cX8_length 69 = .ok (.iload_n 3, 1) := by decide +kernel
theorem dX8_length_70 : decode cX8_length 70 = .ok (.iastore, 1) := by decide +kernel
theorem dX8_length_71 : decode cX8_length 71 = .ok (.iconst 1, 1) := by decide +kernel
theorem dX8_length_72 : decode cX8_length 72 = .ok (.ireturn, 1) := by decide +kernel
theorem dX8_below_0 : decode cX8_below 0 = .ok (.iload_n 1, 1) := by decide +kernel
theorem dX8_below_1 : decode cX8_below 1 = .ok (.iconst 2, 1) := by decide +kernel
theorem dX8_below_2 : decode cX8_below 2 = .ok (.if_icmp .lt 9, 3) := by decide +kernel
theorem dX8_below_5 : decode cX8_below 5 = .ok (.iload_n 1, 1) := by decide +kernel
theorem dX8_below_6 : decode cX8_below 6 = .ok (.bipush 8, 2) := by decide +kernel
theorem dX8_below_8 : decode cX8_below 8 = .ok (.if_icmp .le 5, 3) := by decide +kernel
theorem dX8_below_11 : decode cX8_below 11 = .ok (.iconst 0, 1) := by decide +kernel
theorem dX8_below_12 : decode cX8_below 12 = .ok (.ireturn, 1) := by decide +kernel
theorem dX8_below_13 : decode cX8_below 13 = .ok (.iconst 0, 1) := by decide +kernel
theorem dX8_below_14 : decode cX8_below 14 = .ok (.istore_n 3, 1) := by decide +kernel
theorem dX8_below_15 : decode cX8_below 15 = .ok (.iconst 0, 1) := by decide +kernel
theorem dX8_below_16 : decode cX8_below 16 = .ok (.istore 4, 2) := by decide +kernel
theorem dX8_below_18 : decode cX8_below 18 = .ok (.iload 4, 2) := by decide +kernel
theorem dX8_below_20 : decode cX8_below 20 = .ok (.iload_n 1, 1) := by decide +kernel
theorem dX8_below_21 : decode cX8_below 21 = .ok (.if_icmp .ge 35, 3) := by decide +kernel
theorem dX8_below_24 : decode cX8_below 24 = .ok (.iload_n 2, 1) := by decide +kernel
theorem dX8_below_25 : decode cX8_below 25 = .ok (.iconst 4, 1) := by decide +kernel
theorem dX8_below_26 : decode cX8_below 26 = .ok (.iload 4, 2) := by decide +kernel
theorem dX8_below_28 : decode cX8_below 28 = .ok (.imul, 1) := by decide +kernel
theorem dX8_below_29 : decode cX8_below 29 = .ok (.ishr, 1) := by decide +kernel
theorem dX8_below_30 : decode cX8_below 30 = .ok (.bipush 15, 2) := by decide +kernel
theorem dX8_below_32 : decode cX8_below 32 = .ok (.iand, 1) := by decide +kernel
theorem dX8_below_33 : decode cX8_below 33 = .ok (.istore 5, 2) := by decide +kernel
theorem dX8_below_35 : decode cX8_below 35 = .ok (.iload 5, 2) := by decide +kernel
theorem dX8_below_37 : decode cX8_below 37 = .ok (.iload_n 1, 1) := by decide +kernel
theorem dX8_below_38 : decode cX8_below 38 = .ok (.if_icmp .lt 5, 3) := by decide +kernel
theorem dX8_below_41 : decode cX8_below 41 = .ok (.iconst 0, 1) := by decide +kernel
theorem dX8_below_42 : decode cX8_below 42 = .ok (.ireturn, 1) := by decide +kernel
theorem dX8_below_43 : decode cX8_below 43 = .ok (.iload_n 3, 1) := by decide +kernel
theorem dX8_below_44 : decode cX8_below 44 = .ok (.iconst 1, 1) := by decide +kernel
theorem dX8_below_45 : decode cX8_below 45 = .ok (.iload 5, 2) := by decide +kernel
theorem dX8_below_47 : decode cX8_below 47 = .ok (.ishl, 1) := by decide +kernel
theorem dX8_below_48 : decode cX8_below 48 = .ok (.ior, 1) := by decide +kernel
theorem dX8_below_49 : decode cX8_below 49 = .ok (.istore_n 3, 1) := by decide +kernel
theorem dX8_below_50 : decode cX8_below 50 = .ok (.iinc 4 1, 3) := by decide +kernel
theorem dX8_below_53 : decode cX8_below 53 = .ok (.goto (-35), 3) := by decide +kernel
theorem dX8_below_56 : decode cX8_below 56 = .ok (.iload_n 3, 1) := by decide +kernel
theorem dX8_below_57 : decode cX8_below 57 = .ok (.iconst 1, 1) := by decide +kernel
theorem dX8_below_58 : decode cX8_below 58 = .ok (.iload_n 1, 1) := by decide +kernel
theorem dX8_below_59 : decode cX8_below 59 = .ok (.ishl, 1) := by decide +kernel
theorem dX8_below_60 : decode cX8_below 60 = .ok (.iconst 1, 1) := by decide +kernel
theorem dX8_below_61 : decode cX8_below 61 = .ok (.isub, 1) := by decide +kernel
theorem dX8_below_62 : decode cX8_below 62 = .ok (.if_icmp .eq 5, 3) := by decide +kernel
theorem dX8_below_65 : decode cX8_below 65 = .ok (.iconst 0, 1) := by decide +kernel
theorem dX8_below_66 : decode cX8_below 66 = .ok (.ireturn, 1) := by decide +kernel
theorem dX8_below_67 : decode cX8_below 67 = .ok (.aload_n 0, 1) := by decide +kernel
theorem dX8_below_68 : decode cX8_below 68 = .ok (.iload_n 1, 1) := by decide +kernel
theorem dX8_below_69 : decode cX8_below 69 = .ok (.putfield 91, 3) := by decide +kernel
theorem dX8_below_72 : decode cX8_below 72 = .ok (.iconst 0, 1) := by decide +kernel
theorem dX8_below_73 : decode cX8_below 73 = .ok (.istore 4, 2) := by decide +kernel
theorem dX8_below_75 : decode cX8_below 75 = .ok (.iload 4, 2) := by decide +kernel
theorem dX8_below_77 : decode cX8_below 77 = .ok (.iload_n 1, 1) := by decide +kernel
theorem dX8_below_78 : decode cX8_below 78 = .ok (.if_icmp .ge 25, 3) := by decide +kernel
theorem dX8_below_81 : decode cX8_below 81 = .ok (.aload_n 0, 1) := by decide +kernel
theorem dX8_below_82 : decode cX8_below 82 = .ok (.getfield 16, 3) := by decide +kernel
theorem dX8_below_85 : decode cX8_below 85 = .ok (.iload 4, 2) := by decide +kernel
theorem dX8_below_87 : decode cX8_below 87 = .ok (.iload_n 2, 1) := by decide +kernel
theorem dX8_below_88 : decode cX8_below 88 = .ok (.iconst 4, 1) := by decide +kernel
theorem dX8_below_89 : decode cX8_below 89 = .ok (.iload 4, 2) := by decide +kernel
theorem dX8_below_91 : decode cX8_below 91 = .ok (.imul, 1) := by decide +kernel
theorem dX8_below_92 : decode cX8_below 92 = .ok (.ishr, 1) := by decide +kernel
theorem dX8_below_93 : decode cX8_below 93 = .ok (.bipush 15, 2) := by decide +kernel
theorem dX8_below_95 : decode cX8_below 95 = .ok (.iand, 1) := by decide +kernel
theorem dX8_below_96 : decode cX8_below 96 = .ok (.iastore, 1) := by decide +kernel
theorem dX8_below_97 : decode cX8_below 97 = .ok (.iinc 4 1, 3) := by decide +kernel
theorem dX8_below_100 : decode cX8_below 100 = .ok (.goto (-25), 3) := by decide +kernel
theorem dX8_below_103 : decode cX8_below 103 = .ok (.iconst 1, 1) := by decide +kernel
theorem dX8_below_104 : decode cX8_below 104 = .ok (.ireturn, 1) := by decide +kernel
theorem dX8_lay_0 : decode cX8_lay 0 = .ok (.aload_n 0, 1) := by decide +kernel
theorem dX8_lay_1 : decode cX8_lay 1 = .ok (.getfield 91, 3) := by decide +kernel
theorem dX8_lay_4 : decode cX8_lay 4 = .ok (.ifCond .ne 5, 3) := by decide +kernel
theorem dX8_lay_7 : decode cX8_lay 7 = .ok (.iconst (-1), 1) := by decide +kernel
theorem dX8_lay_8 : decode cX8_lay 8 = .ok (.ireturn, 1) := by decide +kernel
theorem dX8_lay_9 : decode cX8_lay 9 = .ok (.iconst 0, 1) := by decide +kernel
theorem dX8_lay_10 : decode cX8_lay 10 = .ok (.istore_n 1, 1) := by decide +kernel
theorem dX8_lay_11 : decode cX8_lay 11 = .ok (.iload_n 1, 1) := by decide +kernel
theorem dX8_lay_12 : decode cX8_lay 12 = .ok (.aload_n 0, 1) := by decide +kernel
theorem dX8_lay_13 : decode cX8_lay 13 = .ok (.getfield 91, 3) := by decide +kernel
theorem dX8_lay_16 : decode cX8_lay 16 = .ok (.if_icmp .ge 30, 3) := by decide +kernel
theorem dX8_lay_19 : decode cX8_lay 19 = .ok (.aload_n 0, 1) := by decide +kernel
theorem dX8_lay_20 : decode cX8_lay 20 = .ok (.getfield 7, 3) := by decide +kernel
theorem dX8_lay_23 : decode cX8_lay 23 = .ok (.iload_n 1, 1) := by decide +kernel
theorem dX8_lay_24 : decode cX8_lay 24 = .ok (.iaload, 1) := by decide +kernel
theorem dX8_lay_25 : decode cX8_lay 25 = .ok (.ifCond .ne 15, 3) := by decide +kernel
theorem dX8_lay_28 : decode cX8_lay 28 = .ok (.aload_n 0, 1) := by decide +kernel
theorem dX8_lay_29 : decode cX8_lay 29 = .ok (.getfield 13, 3) := by decide +kernel
theorem dX8_lay_32 : decode cX8_lay 32 = .ok (.iload_n 1, 1) := by decide +kernel
theorem dX8_lay_33 : decode cX8_lay 33 = .ok (.iaload, 1) := by decide +kernel
theorem dX8_lay_34 : decode cX8_lay 34 = .ok (.ifCond .ne 6, 3) := by decide +kernel
theorem dX8_lay_37 : decode cX8_lay 37 = .ok (.bipush (-2), 2) := by decide +kernel
theorem dX8_lay_39 : decode cX8_lay 39 = .ok (.ireturn, 1) := by decide +kernel
theorem dX8_lay_40 : decode cX8_lay 40 = .ok (.iinc 1 1, 3) := by decide +kernel
theorem dX8_lay_43 : decode cX8_lay 43 = .ok (.goto (-32), 3) := by decide +kernel
theorem dX8_lay_46 : decode cX8_lay 46 = .ok (.aload_n 0, 1) := by decide +kernel
theorem dX8_lay_47 : decode cX8_lay 47 = .ok (.aload_n 0, 1) := by decide +kernel
theorem dX8_lay_48 : decode cX8_lay 48 = .ok (.getfield 91, 3) := by decide +kernel
theorem dX8_lay_51 : decode cX8_lay 51 = .ok (.putfield 94, 3) := by decide +kernel
theorem dX8_lay_54 : decode cX8_lay 54 = .ok (.iconst 0, 1) := by decide +kernel
theorem dX8_lay_55 : decode cX8_lay 55 = .ok (.istore_n 1, 1) := by decide +kernel
theorem dX8_lay_56 : decode cX8_lay 56 = .ok (.iload_n 1, 1) := by decide +kernel
theorem dX8_lay_57 : decode cX8_lay 57 = .ok (.aload_n 0, 1) := by decide +kernel
theorem dX8_lay_58 : decode cX8_lay 58 = .ok (.getfield 94, 3) := by decide +kernel
theorem dX8_lay_61 : decode cX8_lay 61 = .ok (.if_icmp .ge 91, 3) := by decide +kernel
theorem dX8_lay_64 : decode cX8_lay 64 = .ok (.aload_n 0, 1) := by decide +kernel
theorem dX8_lay_65 : decode cX8_lay 65 = .ok (.getfield 19, 3) := by decide +kernel
theorem dX8_lay_68 : decode cX8_lay 68 = .ok (.iload_n 1, 1) := by decide +kernel
theorem dX8_lay_69 : decode cX8_lay 69 = .ok (.aload_n 0, 1) := by decide +kernel
theorem dX8_lay_70 : decode cX8_lay 70 = .ok (.getfield 7, 3) := by decide +kernel
theorem dX8_lay_73 : decode cX8_lay 73 = .ok (.iload_n 1, 1) := by decide +kernel
theorem dX8_lay_74 : decode cX8_lay 74 = .ok (.iaload, 1) := by decide +kernel
theorem dX8_lay_75 : decode cX8_lay 75 = .ok (.i2l, 1) := by decide +kernel
theorem dX8_lay_76 : decode cX8_lay 76 = .ok (.lastore, 1) := by decide +kernel
theorem dX8_lay_77 : decode cX8_lay 77 = .ok (.aload_n 0, 1) := by decide +kernel
theorem dX8_lay_78 : decode cX8_lay 78 = .ok (.getfield 23, 3) := by decide +kernel
theorem dX8_lay_81 : decode cX8_lay 81 = .ok (.iload_n 1, 1) := by decide +kernel
theorem dX8_lay_82 : decode cX8_lay 82 = .ok (.aload_n 0, 1) := by decide +kernel
theorem dX8_lay_83 : decode cX8_lay 83 = .ok (.getfield 13, 3) := by decide +kernel
theorem dX8_lay_86 : decode cX8_lay 86 = .ok (.iload_n 1, 1) := by decide +kernel
theorem dX8_lay_87 : decode cX8_lay 87 = .ok (.iaload, 1) := by decide +kernel
theorem dX8_lay_88 : decode cX8_lay 88 = .ok (.i2l, 1) := by decide +kernel
theorem dX8_lay_89 : decode cX8_lay 89 = .ok (.lastore, 1) := by decide +kernel
theorem dX8_lay_90 : decode cX8_lay 90 = .ok (.aload_n 0, 1) := by decide +kernel
theorem dX8_lay_91 : decode cX8_lay 91 = .ok (.getfield 26, 3) := by decide +kernel
theorem dX8_lay_94 : decode cX8_lay 94 = .ok (.iload_n 1, 1) := by decide +kernel
theorem dX8_lay_95 : decode cX8_lay 95 = .ok (.iload_n 1, 1) := by decide +kernel
theorem dX8_lay_96 : decode cX8_lay 96 = .ok (.iastore, 1) := by decide +kernel
theorem dX8_lay_97 : decode cX8_lay 97 = .ok (.aload_n 0, 1) := by decide +kernel
theorem dX8_lay_98 : decode cX8_lay 98 = .ok (.getfield 29, 3) := by decide +kernel
theorem dX8_lay_101 : decode cX8_lay 101 = .ok (.iload_n 1, 1) := by decide +kernel
theorem dX8_lay_102 : decode cX8_lay 102 = .ok (.aload_n 0, 1) := by decide +kernel
theorem dX8_lay_103 : decode cX8_lay 103 = .ok (.getfield 16, 3) := by decide +kernel
theorem dX8_lay_106 : decode cX8_lay 106 = .ok (.iload_n 1, 1) := by decide +kernel
theorem dX8_lay_107 : decode cX8_lay 107 = .ok (.iaload, 1) := by decide +kernel
theorem dX8_lay_108 : decode cX8_lay 108 = .ok (.iastore, 1) := by decide +kernel
theorem dX8_lay_109 : decode cX8_lay 109 = .ok (.iconst 0, 1) := by decide +kernel
theorem dX8_lay_110 : decode cX8_lay 110 = .ok (.istore_n 2, 1) := by decide +kernel
theorem dX8_lay_111 : decode cX8_lay 111 = .ok (.iload_n 2, 1) := by decide +kernel
theorem dX8_lay_112 : decode cX8_lay 112 = .ok (.aload_n 0, 1) := by decide +kernel
theorem dX8_lay_113 : decode cX8_lay 113 = .ok (.getfield 94, 3) := by decide +kernel
theorem dX8_lay_116 : decode cX8_lay 116 = .ok (.if_icmp .ge 30, 3) := by decide +kernel
theorem dX8_lay_119 : decode cX8_lay 119 = .ok (.aload_n 0, 1) := by decide +kernel
theorem dX8_lay_120 : decode cX8_lay 120 = .ok (.getfield 32, 3) := by decide +kernel
theorem dX8_lay_123 : decode cX8_lay 123 = .ok (.bipush 8, 2) := by decide +kernel
theorem dX8_lay_125 : decode cX8_lay 125 = .ok (.iload_n 1, 1) := by decide +kernel
theorem dX8_lay_126 : decode cX8_lay 126 = .ok (.imul, 1) := by decide +kernel
theorem dX8_lay_127 : decode cX8_lay 127 = .ok (.iload_n 2, 1) := by decide +kernel
theorem dX8_lay_128 : decode cX8_lay 128 = .ok (.iadd, 1) := by decide +kernel
theorem dX8_lay_129 : decode cX8_lay 129 = .ok (.iload_n 1, 1) := by decide +kernel
theorem dX8_lay_130 : decode cX8_lay 130 = .ok (.iload_n 2, 1) := by decide +kernel
theorem dX8_lay_131 : decode cX8_lay 131 = .ok (.if_icmp .ne 7, 3) := by decide +kernel
theorem dX8_lay_134 : decode cX8_lay 134 = .ok (.lconst 1, 1) := by decide +kernel
theorem dX8_lay_135 : decode cX8_lay 135 = .ok (.goto 4, 3) := by decide +kernel
theorem dX8_lay_138 : decode cX8_lay 138 = .ok (.lconst 0, 1) := by decide +kernel
theorem dX8_lay_139 : decode cX8_lay 139 = .ok (.lastore, 1) := by decide +kernel
theorem dX8_lay_140 : decode cX8_lay 140 = .ok (.iinc 2 1, 3) := by decide +kernel
theorem dX8_lay_143 : decode cX8_lay 143 = .ok (.goto (-32), 3) := by decide +kernel
theorem dX8_lay_146 : decode cX8_lay 146 = .ok (.iinc 1 1, 3) := by decide +kernel
theorem dX8_lay_149 : decode cX8_lay 149 = .ok (.goto (-93), 3) := by decide +kernel
theorem dX8_lay_152 : decode cX8_lay 152 = .ok (.aload_n 0, 1) := by decide +kernel
theorem dX8_lay_153 : decode cX8_lay 153 = .ok (.iconst 0, 1) := by decide +kernel
theorem dX8_lay_154 : decode cX8_lay 154 = .ok (.putfield 101, 3) := by decide +kernel
theorem dX8_lay_157 : decode cX8_lay 157 = .ok (.aload_n 0, 1) := by decide +kernel
theorem dX8_lay_158 : decode cX8_lay 158 = .ok (.iconst 0, 1) := by decide +kernel
theorem dX8_lay_159 : decode cX8_lay 159 = .ok (.putfield 104, 3) := by decide +kernel
theorem dX8_lay_162 : decode cX8_lay 162 = .ok (.aload_n 0, 1) := by decide +kernel
theorem dX8_lay_163 : decode cX8_lay 163 = .ok (.iconst 0, 1) := by decide +kernel
theorem dX8_lay_164 : decode cX8_lay 164 = .ok (.putfield 97, 3) := by decide +kernel
theorem dX8_lay_167 : decode cX8_lay 167 = .ok (.aload_n 0, 1) := by decide +kernel
theorem dX8_lay_168 : decode cX8_lay 168 = .ok (.getfield 94, 3) := by decide +kernel
theorem dX8_lay_171 : decode cX8_lay 171 = .ok (.ireturn, 1) := by decide +kernel
theorem dX8_parted_0 : decode cX8_parted 0 = .ok (.iconst 0, 1) := by decide +kernel
theorem dX8_parted_1 : decode cX8_parted 1 = .ok (.istore_n 1, 1) := by decide +kernel
theorem dX8_parted_2 : decode cX8_parted 2 = .ok (.iconst 0, 1) := by decide +kernel
theorem dX8_parted_3 : decode cX8_parted 3 = .ok (.istore_n 2, 1) := by decide +kernel
theorem dX8_parted_4 : decode cX8_parted 4 = .ok (.iconst 1, 1) := by decide +kernel
theorem dX8_parted_5 : decode cX8_parted 5 = .ok (.istore_n 3, 1) := by decide +kernel
theorem dX8_parted_6 : decode cX8_parted 6 = .ok (.iload_n 3, 1) := by decide +kernel
theorem dX8_parted_7 : decode cX8_parted 7 = .ok (.aload_n 0, 1) := by decide +kernel
theorem dX8_parted_8 : decode cX8_parted 8 = .ok (.getfield 94, 3) := by decide +kernel
theorem dX8_parted_11 : decode cX8_parted 11 = .ok (.if_icmp .ge 42, 3) := by decide +kernel
theorem dX8_parted_14 : decode cX8_parted 14 = .ok (.iload_n 1, 1) := by decide +kernel
theorem dX8_parted_15 : decode cX8_parted 15 = .ok (.iconst 1, 1) := by decide +kernel
theorem dX8_parted_16 : decode cX8_parted 16 = .ok (.aload_n 0, 1) := by decide +kernel
theorem dX8_parted_17 : decode cX8_parted 17 = .ok (.getfield 26, 3) := by decide +kernel
theorem dX8_parted_20 : decode cX8_parted 20 = .ok (.iload_n 3, 1) := by decide +kernel
theorem dX8_parted_21 : decode cX8_parted 21 = .ok (.iconst 1, 1) := by decide +kernel
theorem dX8_parted_22 : decode cX8_parted 22 = .ok (.isub, 1) := by decide +kernel
theorem dX8_parted_23 : decode cX8_parted 23 = .ok (.iaload, 1) := by decide +kernel
theorem dX8_parted_24 : decode cX8_parted 24 = .ok (.ishl, 1) := by decide +kernel
theorem dX8_parted_25 : decode cX8_parted 25 = .ok (.ior, 1) := by decide +kernel
theorem dX8_parted_26 : decode cX8_parted 26 = .ok (.istore_n 1, 1) := by decide +kernel
theorem dX8_parted_27 : decode cX8_parted 27 = .ok (.iload_n 2, 1) := by decide +kernel
theorem dX8_parted_28 : decode cX8_parted 28 = .ok (.iconst 1, 1) := by decide +kernel
theorem dX8_parted_29 : decode cX8_parted 29 = .ok (.aload_n 0, 1) := by decide +kernel
theorem dX8_parted_30 : decode cX8_parted 30 = .ok (.getfield 29, 3) := by decide +kernel
theorem dX8_parted_33 : decode cX8_parted 33 = .ok (.iload_n 3, 1) := by decide +kernel
theorem dX8_parted_34 : decode cX8_parted 34 = .ok (.iconst 1, 1) := by decide +kernel
theorem dX8_parted_35 : decode cX8_parted 35 = .ok (.isub, 1) := by decide +kernel
theorem dX8_parted_36 : decode cX8_parted 36 = .ok (.iaload, 1) := by decide +kernel
theorem dX8_parted_37 : decode cX8_parted 37 = .ok (.ishl, 1) := by decide +kernel
theorem dX8_parted_38 : decode cX8_parted 38 = .ok (.ior, 1) := by decide +kernel
theorem dX8_parted_39 : decode cX8_parted 39 = .ok (.istore_n 2, 1) := by decide +kernel
theorem dX8_parted_40 : decode cX8_parted 40 = .ok (.iload_n 1, 1) := by decide +kernel
theorem dX8_parted_41 : decode cX8_parted 41 = .ok (.iload_n 2, 1) := by decide +kernel
theorem dX8_parted_42 : decode cX8_parted 42 = .ok (.if_icmp .ne 5, 3) := by decide +kernel
theorem dX8_parted_45 : decode cX8_parted 45 = .ok (.iload_n 3, 1) := by decide +kernel
theorem dX8_parted_46 : decode cX8_parted 46 = .ok (.ireturn, 1) := by decide +kernel
theorem dX8_parted_47 : decode cX8_parted 47 = .ok (.iinc 3 1, 3) := by decide +kernel
theorem dX8_parted_50 : decode cX8_parted 50 = .ok (.goto (-44), 3) := by decide +kernel
theorem dX8_parted_53 : decode cX8_parted 53 = .ok (.iconst 0, 1) := by decide +kernel
theorem dX8_parted_54 : decode cX8_parted 54 = .ok (.ireturn, 1) := by decide +kernel
theorem dX8_of_0 : decode cX8_of 0 = .ok (.aload_n 0, 1) := by decide +kernel
theorem dX8_of_1 : decode cX8_of 1 = .ok (.getfield 94, 3) := by decide +kernel
theorem dX8_of_4 : decode cX8_of 4 = .ok (.ifCond .ne 5, 3) := by decide +kernel
theorem dX8_of_7 : decode cX8_of 7 = .ok (.iconst (-1), 1) := by decide +kernel
theorem dX8_of_8 : decode cX8_of 8 = .ok (.ireturn, 1) := by decide +kernel
theorem dX8_of_9 : decode cX8_of 9 = .ok (.iload_n 1, 1) := by decide +kernel
theorem dX8_of_10 : decode cX8_of 10 = .ok (.tableswitch 50 0 3 #[30, 35, 40, 45], 30) := by decide +kernel
theorem dX8_of_40 : decode cX8_of 40 = .ok (.aload_n 0, 1) := by decide +kernel
theorem dX8_of_41 : decode cX8_of 41 = .ok (.getfield 94, 3) := by decide +kernel
theorem dX8_of_44 : decode cX8_of 44 = .ok (.ireturn, 1) := by decide +kernel
theorem dX8_of_45 : decode cX8_of 45 = .ok (.aload_n 0, 1) := by decide +kernel
theorem dX8_of_46 : decode cX8_of 46 = .ok (.getfield 101, 3) := by decide +kernel
theorem dX8_of_49 : decode cX8_of 49 = .ok (.ireturn, 1) := by decide +kernel
theorem dX8_of_50 : decode cX8_of 50 = .ok (.aload_n 0, 1) := by decide +kernel
theorem dX8_of_51 : decode cX8_of 51 = .ok (.invokevirtual 120, 3) := by decide +kernel
theorem dX8_of_54 : decode cX8_of 54 = .ok (.ireturn, 1) := by decide +kernel
theorem dX8_of_55 : decode cX8_of 55 = .ok (.aload_n 0, 1) := by decide +kernel
theorem dX8_of_56 : decode cX8_of 56 = .ok (.getfield 104, 3) := by decide +kernel
theorem dX8_of_59 : decode cX8_of 59 = .ok (.ireturn, 1) := by decide +kernel
theorem dX8_of_60 : decode cX8_of 60 = .ok (.iconst (-1), 1) := by decide +kernel
theorem dX8_of_61 : decode cX8_of 61 = .ok (.ireturn, 1) := by decide +kernel
theorem dX8_total_0 : decode cX8_total 0 = .ok (.lconst 0, 1) := by decide +kernel
theorem dX8_total_1 : decode cX8_total 1 = .ok (.lstore_n 2, 1) := by decide +kernel
theorem dX8_total_2 : decode cX8_total 2 = .ok (.iconst 0, 1) := by decide +kernel
theorem dX8_total_3 : decode cX8_total 3 = .ok (.istore 4, 2) := by decide +kernel
theorem dX8_total_5 : decode cX8_total 5 = .ok (.iload 4, 2) := by decide +kernel
theorem dX8_total_7 : decode cX8_total 7 = .ok (.aload_n 0, 1) := by decide +kernel
theorem dX8_total_8 : decode cX8_total 8 = .ok (.getfield 94, 3) := by decide +kernel
theorem dX8_total_11 : decode cX8_total 11 = .ok (.if_icmp .ge 33, 3) := by decide +kernel
theorem dX8_total_14 : decode cX8_total 14 = .ok (.lload_n 2, 1) := by decide +kernel
theorem dX8_total_15 : decode cX8_total 15 = .ok (.iload_n 1, 1) := by decide +kernel
theorem dX8_total_16 : decode cX8_total 16 = .ok (.ifCond .ne 13, 3) := by decide +kernel
theorem dX8_total_19 : decode cX8_total 19 = .ok (.aload_n 0, 1) := by decide +kernel
theorem dX8_total_20 : decode cX8_total 20 = .ok (.getfield 19, 3) := by decide +kernel
theorem dX8_total_23 : decode cX8_total 23 = .ok (.iload 4, 2) := by decide +kernel
theorem dX8_total_25 : decode cX8_total 25 = .ok (.laload, 1) := by decide +kernel
theorem dX8_total_26 : decode cX8_total 26 = .ok (.goto 10, 3) := by decide +kernel
theorem dX8_total_29 : decode cX8_total 29 = .ok (.aload_n 0, 1) := by decide +kernel
theorem dX8_total_30 : decode cX8_total 30 = .ok (.getfield 23, 3) := by decide +kernel
theorem dX8_total_33 : decode cX8_total 33 = .ok (.iload 4, 2) := by decide +kernel
theorem dX8_total_35 : decode cX8_total 35 = .ok (.laload, 1) := by decide +kernel
theorem dX8_total_36 : decode cX8_total 36 = .ok (.ladd, 1) := by decide +kernel
theorem dX8_total_37 : decode cX8_total 37 = .ok (.lstore_n 2, 1) := by decide +kernel
theorem dX8_total_38 : decode cX8_total 38 = .ok (.iinc 4 1, 3) := by decide +kernel
theorem dX8_total_41 : decode cX8_total 41 = .ok (.goto (-36), 3) := by decide +kernel
theorem dX8_total_44 : decode cX8_total 44 = .ok (.lload_n 2, 1) := by decide +kernel
theorem dX8_total_45 : decode cX8_total 45 = .ok (.lreturn, 1) := by decide +kernel
theorem dX8_spans_0 : decode cX8_spans 0 = .ok (.aload_n 0, 1) := by decide +kernel
theorem dX8_spans_1 : decode cX8_spans 1 = .ok (.getfield 94, 3) := by decide +kernel
theorem dX8_spans_4 : decode cX8_spans 4 = .ok (.ifCond .eq 24, 3) := by decide +kernel
theorem dX8_spans_7 : decode cX8_spans 7 = .ok (.iload_n 1, 1) := by decide +kernel
theorem dX8_spans_8 : decode cX8_spans 8 = .ok (.ifCond .lt 20, 3) := by decide +kernel
theorem dX8_spans_11 : decode cX8_spans 11 = .ok (.iload_n 1, 1) := by decide +kernel
theorem dX8_spans_12 : decode cX8_spans 12 = .ok (.aload_n 0, 1) := by decide +kernel
theorem dX8_spans_13 : decode cX8_spans 13 = .ok (.getfield 94, 3) := by decide +kernel
theorem dX8_spans_16 : decode cX8_spans 16 = .ok (.if_icmp .gt 12, 3) := by decide +kernel
theorem dX8_spans_19 : decode cX8_spans 19 = .ok (.iload_n 2, 1) := by decide +kernel
theorem dX8_spans_20 : decode cX8_spans 20 = .ok (.ifCond .eq 10, 3) := by decide +kernel
theorem dX8_spans_23 : decode cX8_spans 23 = .ok (.iload_n 2, 1) := by decide +kernel
theorem dX8_spans_24 : decode cX8_spans 24 = .ok (.iconst 1, 1) := by decide +kernel
theorem dX8_spans_25 : decode cX8_spans 25 = .ok (.if_icmp .eq 5, 3) := by decide +kernel
theorem dX8_spans_28 : decode cX8_spans 28 = .ok (.lconst 0, 1) := by decide +kernel
theorem dX8_spans_29 : decode cX8_spans 29 = .ok (.lreturn, 1) := by decide +kernel
theorem dX8_spans_30 : decode cX8_spans 30 = .ok (.iload_n 1, 1) := by decide +kernel
theorem dX8_spans_31 : decode cX8_spans 31 = .ok (.aload_n 0, 1) := by decide +kernel
theorem dX8_spans_32 : decode cX8_spans 32 = .ok (.getfield 94, 3) := by decide +kernel
theorem dX8_spans_35 : decode cX8_spans 35 = .ok (.if_icmp .ne 11, 3) := by decide +kernel
theorem dX8_spans_38 : decode cX8_spans 38 = .ok (.aload_n 0, 1) := by decide +kernel
theorem dX8_spans_39 : decode cX8_spans 39 = .ok (.iload_n 2, 1) := by decide +kernel
theorem dX8_spans_40 : decode cX8_spans 40 = .ok (.invokevirtual 124, 3) := by decide +kernel
theorem dX8_spans_43 : decode cX8_spans 43 = .ok (.goto 22, 3) := by decide +kernel
theorem dX8_spans_46 : decode cX8_spans 46 = .ok (.iload_n 2, 1) := by decide +kernel
theorem dX8_spans_47 : decode cX8_spans 47 = .ok (.ifCond .ne 12, 3) := by decide +kernel
theorem dX8_spans_50 : decode cX8_spans 50 = .ok (.aload_n 0, 1) := by decide +kernel
theorem dX8_spans_51 : decode cX8_spans 51 = .ok (.getfield 19, 3) := by decide +kernel
theorem dX8_spans_54 : decode cX8_spans 54 = .ok (.iload_n 1, 1) := by decide +kernel
theorem dX8_spans_55 : decode cX8_spans 55 = .ok (.laload, 1) := by decide +kernel
theorem dX8_spans_56 : decode cX8_spans 56 = .ok (.goto 9, 3) := by decide +kernel
theorem dX8_spans_59 : decode cX8_spans 59 = .ok (.aload_n 0, 1) := by decide +kernel
theorem dX8_spans_60 : decode cX8_spans 60 = .ok (.getfield 23, 3) := by decide +kernel
theorem dX8_spans_63 : decode cX8_spans 63 = .ok (.iload_n 1, 1) := by decide +kernel
theorem dX8_spans_64 : decode cX8_spans 64 = .ok (.laload, 1) := by decide +kernel
theorem dX8_spans_65 : decode cX8_spans 65 = .ok (.lreturn, 1) := by decide +kernel
theorem dX8_order_0 : decode cX8_order 0 = .ok (.iload_n 2, 1) := by decide +kernel
theorem dX8_order_1 : decode cX8_order 1 = .ok (.ifCond .lt 20, 3) := by decide +kernel
theorem dX8_order_4 : decode cX8_order 4 = .ok (.iload_n 2, 1) := by decide +kernel
theorem dX8_order_5 : decode cX8_order 5 = .ok (.aload_n 0, 1) := by decide +kernel
theorem dX8_order_6 : decode cX8_order 6 = .ok (.getfield 94, 3) := by decide +kernel
theorem dX8_order_9 : decode cX8_order 9 = .ok (.if_icmp .ge 12, 3) := by decide +kernel
theorem dX8_order_12 : decode cX8_order 12 = .ok (.iload_n 1, 1) := by decide +kernel
theorem dX8_order_13 : decode cX8_order 13 = .ok (.ifCond .eq 10, 3) := by decide +kernel
theorem dX8_order_16 : decode cX8_order 16 = .ok (.iload_n 1, 1) := by decide +kernel
theorem dX8_order_17 : decode cX8_order 17 = .ok (.iconst 1, 1) := by decide +kernel
theorem dX8_order_18 : decode cX8_order 18 = .ok (.if_icmp .eq 5, 3) := by decide +kernel
theorem dX8_order_21 : decode cX8_order 21 = .ok (.iconst (-1), 1) := by decide +kernel
theorem dX8_order_22 : decode cX8_order 22 = .ok (.ireturn, 1) := by decide +kernel
theorem dX8_order_23 : decode cX8_order 23 = .ok (.iload_n 1, 1) := by decide +kernel
theorem dX8_order_24 : decode cX8_order 24 = .ok (.ifCond .ne 12, 3) := by decide +kernel
theorem dX8_order_27 : decode cX8_order 27 = .ok (.aload_n 0, 1) := by decide +kernel
theorem dX8_order_28 : decode cX8_order 28 = .ok (.getfield 26, 3) := by decide +kernel
theorem dX8_order_31 : decode cX8_order 31 = .ok (.iload_n 2, 1) := by decide +kernel
theorem dX8_order_32 : decode cX8_order 32 = .ok (.iaload, 1) := by decide +kernel
theorem dX8_order_33 : decode cX8_order 33 = .ok (.goto 9, 3) := by decide +kernel
theorem dX8_order_36 : decode cX8_order 36 = .ok (.aload_n 0, 1) := by decide +kernel
theorem dX8_order_37 : decode cX8_order 37 = .ok (.getfield 29, 3) := by decide +kernel
theorem dX8_order_40 : decode cX8_order 40 = .ok (.iload_n 2, 1) := by decide +kernel
theorem dX8_order_41 : decode cX8_order 41 = .ok (.iaload, 1) := by decide +kernel
theorem dX8_order_42 : decode cX8_order 42 = .ok (.ireturn, 1) := by decide +kernel
theorem dX8_spanAt_0 : decode cX8_spanAt 0 = .ok (.aload_n 0, 1) := by decide +kernel
theorem dX8_spanAt_1 : decode cX8_spanAt 1 = .ok (.lconst 0, 1) := by decide +kernel
theorem dX8_spanAt_2 : decode cX8_spanAt 2 = .ok (.putfield 128, 3) := by decide +kernel
theorem dX8_spanAt_5 : decode cX8_spanAt 5 = .ok (.aload_n 0, 1) := by decide +kernel
theorem dX8_spanAt_6 : decode cX8_spanAt 6 = .ok (.lconst 0, 1) := by decide +kernel
theorem dX8_spanAt_7 : decode cX8_spanAt 7 = .ok (.putfield 132, 3) := by decide +kernel
theorem dX8_spanAt_10 : decode cX8_spanAt 10 = .ok (.iconst 0, 1) := by decide +kernel
theorem dX8_spanAt_11 : decode cX8_spanAt 11 = .ok (.istore 6, 2) := by decide +kernel
theorem dX8_spanAt_13 : decode cX8_spanAt 13 = .ok (.iload 6, 2) := by decide +kernel
theorem dX8_spanAt_15 : decode cX8_spanAt 15 = .ok (.aload_n 0, 1) := by decide +kernel
theorem dX8_spanAt_16 : decode cX8_spanAt 16 = .ok (.getfield 94, 3) := by decide +kernel
theorem dX8_spanAt_19 : decode cX8_spanAt 19 = .ok (.if_icmp .ge 86, 3) := by decide +kernel
theorem dX8_spanAt_22 : decode cX8_spanAt 22 = .ok (.aload_n 1, 1) := by decide +kernel
theorem dX8_spanAt_23 : decode cX8_spanAt 23 = .ok (.iload 6, 2) := by decide +kernel
theorem dX8_spanAt_25 : decode cX8_spanAt 25 = .ok (.iaload, 1) := by decide +kernel
theorem dX8_spanAt_26 : decode cX8_spanAt 26 = .ok (.istore 7, 2) := by decide +kernel
theorem dX8_spanAt_28 : decode cX8_spanAt 28 = .ok (.aload_n 0, 1) := by decide +kernel
theorem dX8_spanAt_29 : decode cX8_spanAt 29 = .ok (.lload_n 2, 1) := by decide +kernel
theorem dX8_spanAt_30 : decode cX8_spanAt 30 = .ok (.aload_n 0, 1) := by decide +kernel
theorem dX8_spanAt_31 : decode cX8_spanAt 31 = .ok (.getfield 128, 3) := by decide +kernel
theorem dX8_spanAt_34 : decode cX8_spanAt 34 = .ok (.lsub, 1) := by decide +kernel
theorem dX8_spanAt_35 : decode cX8_spanAt 35 = .ok (.aload_n 0, 1) := by decide +kernel
theorem dX8_spanAt_36 : decode cX8_spanAt 36 = .ok (.getfield 19, 3) := by decide +kernel
theorem dX8_spanAt_39 : decode cX8_spanAt 39 = .ok (.iload 7, 2) := by decide +kernel
theorem dX8_spanAt_41 : decode cX8_spanAt 41 = .ok (.laload, 1) := by decide +kernel
theorem dX8_spanAt_42 : decode cX8_spanAt 42 = .ok (.lsub, 1) := by decide +kernel
theorem dX8_spanAt_43 : decode cX8_spanAt 43 = .ok (.lload 4, 2) := by decide +kernel
theorem dX8_spanAt_45 : decode cX8_spanAt 45 = .ok (.aload_n 0, 1) := by decide +kernel
theorem dX8_spanAt_46 : decode cX8_spanAt 46 = .ok (.getfield 132, 3) := by decide +kernel
theorem dX8_spanAt_49 : decode cX8_spanAt 49 = .ok (.lsub, 1) := by decide +kernel
theorem dX8_spanAt_50 : decode cX8_spanAt 50 = .ok (.aload_n 0, 1) := by decide +kernel
theorem dX8_spanAt_51 : decode cX8_spanAt 51 = .ok (.getfield 23, 3) := by decide +kernel
theorem dX8_spanAt_54 : decode cX8_spanAt 54 = .ok (.iload 7, 2) := by decide +kernel
theorem dX8_spanAt_56 : decode cX8_spanAt 56 = .ok (.laload, 1) := by decide +kernel
theorem dX8_spanAt_57 : decode cX8_spanAt 57 = .ok (.lsub, 1) := by decide +kernel
theorem dX8_spanAt_58 : decode cX8_spanAt 58 = .ok (.invokevirtual 116, 3) := by decide +kernel
theorem dX8_spanAt_61 : decode cX8_spanAt 61 = .ok (.ifCond .ge 6, 3) := by decide +kernel
theorem dX8_spanAt_64 : decode cX8_spanAt 64 = .ok (.iload 7, 2) := by decide +kernel
theorem dX8_spanAt_66 : decode cX8_spanAt 66 = .ok (.ireturn, 1) := by decide +kernel
theorem dX8_spanAt_67 : decode cX8_spanAt 67 = .ok (.aload_n 0, 1) := by decide +kernel
theorem dX8_spanAt_68 : decode cX8_spanAt 68 = .ok (.dup, 1) := by decide +kernel
theorem dX8_spanAt_69 : decode cX8_spanAt 69 = .ok (.getfield 128, 3) := by decide +kernel
theorem dX8_spanAt_72 : decode cX8_spanAt 72 = .ok (.aload_n 0, 1) := by decide +kernel
theorem dX8_spanAt_73 : decode cX8_spanAt 73 = .ok (.getfield 19, 3) := by decide +kernel
theorem dX8_spanAt_76 : decode cX8_spanAt 76 = .ok (.iload 7, 2) := by decide +kernel
theorem dX8_spanAt_78 : decode cX8_spanAt 78 = .ok (.laload, 1) := by decide +kernel
theorem dX8_spanAt_79 : decode cX8_spanAt 79 = .ok (.ladd, 1) := by decide +kernel
theorem dX8_spanAt_80 : decode cX8_spanAt 80 = .ok (.putfield 128, 3) := by decide +kernel
theorem dX8_spanAt_83 : decode cX8_spanAt 83 = .ok (.aload_n 0, 1) := by decide +kernel
theorem dX8_spanAt_84 : decode cX8_spanAt 84 = .ok (.dup, 1) := by decide +kernel
theorem dX8_spanAt_85 : decode cX8_spanAt 85 = .ok (.getfield 132, 3) := by decide +kernel
theorem dX8_spanAt_88 : decode cX8_spanAt 88 = .ok (.aload_n 0, 1) := by decide +kernel
theorem dX8_spanAt_89 : decode cX8_spanAt 89 = .ok (.getfield 23, 3) := by decide +kernel
theorem dX8_spanAt_92 : decode cX8_spanAt 92 = .ok (.iload 7, 2) := by decide +kernel
theorem dX8_spanAt_94 : decode cX8_spanAt 94 = .ok (.laload, 1) := by decide +kernel
theorem dX8_spanAt_95 : decode cX8_spanAt 95 = .ok (.ladd, 1) := by decide +kernel
theorem dX8_spanAt_96 : decode cX8_spanAt 96 = .ok (.putfield 132, 3) := by decide +kernel
theorem dX8_spanAt_99 : decode cX8_spanAt 99 = .ok (.iinc 6 1, 3) := by decide +kernel
theorem dX8_spanAt_102 : decode cX8_spanAt 102 = .ok (.goto (-89), 3) := by decide +kernel
theorem dX8_spanAt_105 : decode cX8_spanAt 105 = .ok (.iconst (-1), 1) := by decide +kernel
theorem dX8_spanAt_106 : decode cX8_spanAt 106 = .ok (.ireturn, 1) := by decide +kernel
theorem dX8_begins_0 : decode cX8_begins 0 = .ok (.aload_n 0, 1) := by decide +kernel
theorem dX8_begins_1 : decode cX8_begins 1 = .ok (.lconst 0, 1) := by decide +kernel
theorem dX8_begins_2 : decode cX8_begins 2 = .ok (.putfield 128, 3) := by decide +kernel
theorem dX8_begins_5 : decode cX8_begins 5 = .ok (.aload_n 0, 1) := by decide +kernel
theorem dX8_begins_6 : decode cX8_begins 6 = .ok (.lconst 0, 1) := by decide +kernel
theorem dX8_begins_7 : decode cX8_begins 7 = .ok (.putfield 132, 3) := by decide +kernel
theorem dX8_begins_10 : decode cX8_begins 10 = .ok (.iconst 0, 1) := by decide +kernel
theorem dX8_begins_11 : decode cX8_begins 11 = .ok (.istore_n 3, 1) := by decide +kernel
theorem dX8_begins_12 : decode cX8_begins 12 = .ok (.aload_n 1, 1) := by decide +kernel
theorem dX8_begins_13 : decode cX8_begins 13 = .ok (.iload_n 3, 1) := by decide +kernel
theorem dX8_begins_14 : decode cX8_begins 14 = .ok (.iaload, 1) := by decide +kernel
theorem dX8_begins_15 : decode cX8_begins 15 = .ok (.iload_n 2, 1) := by decide +kernel
theorem dX8_begins_16 : decode cX8_begins 16 = .ok (.if_icmp .eq 43, 3) := by decide +kernel
theorem dX8_begins_19 : decode cX8_begins 19 = .ok (.aload_n 0, 1) := by decide +kernel
theorem dX8_begins_20 : decode cX8_begins 20 = .ok (.dup, 1) := by decide +kernel
theorem dX8_begins_21 : decode cX8_begins 21 = .ok (.getfield 128, 3) := by decide +kernel
theorem dX8_begins_24 : decode cX8_begins 24 = .ok (.aload_n 0, 1) := by decide +kernel
theorem dX8_begins_25 : decode cX8_begins 25 = .ok (.getfield 19, 3) := by decide +kernel
theorem dX8_begins_28 : decode cX8_begins 28 = .ok (.aload_n 1, 1) := by decide +kernel
theorem dX8_begins_29 : decode cX8_begins 29 = .ok (.iload_n 3, 1) := by decide +kernel
theorem dX8_begins_30 : decode cX8_begins 30 = .ok (.iaload, 1) := by decide +kernel
theorem dX8_begins_31 : decode cX8_begins 31 = .ok (.laload, 1) := by decide +kernel
theorem dX8_begins_32 : decode cX8_begins 32 = .ok (.ladd, 1) := by decide +kernel
theorem dX8_begins_33 : decode cX8_begins 33 = .ok (.putfield 128, 3) := by decide +kernel
theorem dX8_begins_36 : decode cX8_begins 36 = .ok (.aload_n 0, 1) := by decide +kernel
theorem dX8_begins_37 : decode cX8_begins 37 = .ok (.dup, 1) := by decide +kernel
theorem dX8_begins_38 : decode cX8_begins 38 = .ok (.getfield 132, 3) := by decide +kernel
theorem dX8_begins_41 : decode cX8_begins 41 = .ok (.aload_n 0, 1) := by decide +kernel
theorem dX8_begins_42 : decode cX8_begins 42 = .ok (.getfield 23, 3) := by decide +kernel
theorem dX8_begins_45 : decode cX8_begins 45 = .ok (.aload_n 1, 1) := by decide +kernel
theorem dX8_begins_46 : decode cX8_begins 46 = .ok (.iload_n 3, 1) := by decide +kernel
theorem dX8_begins_47 : decode cX8_begins 47 = .ok (.iaload, 1) := by decide +kernel
theorem dX8_begins_48 : decode cX8_begins 48 = .ok (.laload, 1) := by decide +kernel
theorem dX8_begins_49 : decode cX8_begins 49 = .ok (.ladd, 1) := by decide +kernel
theorem dX8_begins_50 : decode cX8_begins 50 = .ok (.putfield 132, 3) := by decide +kernel
theorem dX8_begins_53 : decode cX8_begins 53 = .ok (.iinc 3 1, 3) := by decide +kernel
theorem dX8_begins_56 : decode cX8_begins 56 = .ok (.goto (-44), 3) := by decide +kernel
theorem dX8_begins_59 : decode cX8_begins 59 = .ok (.return_, 1) := by decide +kernel
theorem dX8_isOnLine_0 : decode cX8_isOnLine 0 = .ok (.aload_n 0, 1) := by decide +kernel
theorem dX8_isOnLine_1 : decode cX8_isOnLine 1 = .ok (.lload_n 1, 1) := by decide +kernel
theorem dX8_isOnLine_2 : decode cX8_isOnLine 2 = .ok (.lload_n 3, 1) := by decide +kernel
theorem dX8_isOnLine_3 : decode cX8_isOnLine 3 = .ok (.invokevirtual 116, 3) := by decide +kernel
theorem dX8_isOnLine_6 : decode cX8_isOnLine 6 = .ok (.ifCond .lt 28, 3) := by decide +kernel
theorem dX8_isOnLine_9 : decode cX8_isOnLine 9 = .ok (.aload_n 0, 1) := by decide +kernel
theorem dX8_isOnLine_10 : decode cX8_isOnLine 10 = .ok (.lload_n 1, 1) := by decide +kernel
theorem dX8_isOnLine_11 : decode cX8_isOnLine 11 = .ok (.aload_n 0, 1) := by decide +kernel
theorem dX8_isOnLine_12 : decode cX8_isOnLine 12 = .ok (.iconst 0, 1) := by decide +kernel
theorem dX8_isOnLine_13 : decode cX8_isOnLine 13 = .ok (.invokevirtual 124, 3) := by decide +kernel
theorem dX8_isOnLine_16 : decode cX8_isOnLine 16 = .ok (.lsub, 1) := by decide +kernel
theorem dX8_isOnLine_17 : decode cX8_isOnLine 17 = .ok (.lload_n 3, 1) := by decide +kernel
theorem dX8_isOnLine_18 : decode cX8_isOnLine 18 = .ok (.aload_n 0, 1) := by decide +kernel
theorem dX8_isOnLine_19 : decode cX8_isOnLine 19 = .ok (.iconst 1, 1) := by decide +kernel
theorem dX8_isOnLine_20 : decode cX8_isOnLine 20 = .ok (.invokevirtual 124, 3) := by decide +kernel
theorem dX8_isOnLine_23 : decode cX8_isOnLine 23 = .ok (.lsub, 1) := by decide +kernel
theorem dX8_isOnLine_24 : decode cX8_isOnLine 24 = .ok (.invokevirtual 116, 3) := by decide +kernel
theorem dX8_isOnLine_27 : decode cX8_isOnLine 27 = .ok (.ifCond .ge 7, 3) := by decide +kernel
theorem dX8_isOnLine_30 : decode cX8_isOnLine 30 = .ok (.iconst 1, 1) := by decide +kernel
theorem dX8_isOnLine_31 : decode cX8_isOnLine 31 = .ok (.goto 4, 3) := by decide +kernel
theorem dX8_isOnLine_34 : decode cX8_isOnLine 34 = .ok (.iconst 0, 1) := by decide +kernel
theorem dX8_isOnLine_35 : decode cX8_isOnLine 35 = .ok (.ireturn, 1) := by decide +kernel
theorem dX8_goes_0 : decode cX8_goes 0 = .ok (.aload_n 0, 1) := by decide +kernel
theorem dX8_goes_1 : decode cX8_goes 1 = .ok (.iload 5, 2) := by decide +kernel
theorem dX8_goes_3 : decode cX8_goes 3 = .ok (.ifCond .eq 10, 3) := by decide +kernel
theorem dX8_goes_6 : decode cX8_goes 6 = .ok (.aload_n 0, 1) := by decide +kernel
theorem dX8_goes_7 : decode cX8_goes 7 = .ok (.getfield 29, 3) := by decide +kernel
theorem dX8_goes_10 : decode cX8_goes 10 = .ok (.goto 7, 3) := by decide +kernel
theorem dX8_goes_13 : decode cX8_goes 13 = .ok (.aload_n 0, 1) := by decide +kernel
theorem dX8_goes_14 : decode cX8_goes 14 = .ok (.getfield 26, 3) := by decide +kernel
theorem dX8_goes_17 : decode cX8_goes 17 = .ok (.lload_n 1, 1) := by decide +kernel
theorem dX8_goes_18 : decode cX8_goes 18 = .ok (.lload_n 3, 1) := by decide +kernel
theorem dX8_goes_19 : decode cX8_goes 19 = .ok (.invokevirtual 135, 3) := by decide +kernel
theorem dX8_goes_22 : decode cX8_goes 22 = .ok (.istore 6, 2) := by decide +kernel
theorem dX8_goes_24 : decode cX8_goes 24 = .ok (.aload_n 0, 1) := by decide +kernel
theorem dX8_goes_25 : decode cX8_goes 25 = .ok (.lload_n 1, 1) := by decide +kernel
theorem dX8_goes_26 : decode cX8_goes 26 = .ok (.aload_n 0, 1) := by decide +kernel
theorem dX8_goes_27 : decode cX8_goes 27 = .ok (.getfield 128, 3) := by decide +kernel
theorem dX8_goes_30 : decode cX8_goes 30 = .ok (.lsub, 1) := by decide +kernel
theorem dX8_goes_31 : decode cX8_goes 31 = .ok (.putfield 139, 3) := by decide +kernel
theorem dX8_goes_34 : decode cX8_goes 34 = .ok (.aload_n 0, 1) := by decide +kernel
theorem dX8_goes_35 : decode cX8_goes 35 = .ok (.lload_n 3, 1) := by decide +kernel
theorem dX8_goes_36 : decode cX8_goes 36 = .ok (.aload_n 0, 1) := by decide +kernel
theorem dX8_goes_37 : decode cX8_goes 37 = .ok (.getfield 132, 3) := by decide +kernel
theorem dX8_goes_40 : decode cX8_goes 40 = .ok (.lsub, 1) := by decide +kernel
theorem dX8_goes_41 : decode cX8_goes 41 = .ok (.putfield 142, 3) := by decide +kernel
theorem dX8_goes_44 : decode cX8_goes 44 = .ok (.aload_n 0, 1) := by decide +kernel
theorem dX8_goes_45 : decode cX8_goes 45 = .ok (.iload 5, 2) := by decide +kernel
theorem dX8_goes_47 : decode cX8_goes 47 = .ok (.ifCond .eq 10, 3) := by decide +kernel
theorem dX8_goes_50 : decode cX8_goes 50 = .ok (.aload_n 0, 1) := by decide +kernel
theorem dX8_goes_51 : decode cX8_goes 51 = .ok (.getfield 26, 3) := by decide +kernel
theorem dX8_goes_54 : decode cX8_goes 54 = .ok (.goto 7, 3) := by decide +kernel
theorem dX8_goes_57 : decode cX8_goes 57 = .ok (.aload_n 0, 1) := by decide +kernel
theorem dX8_goes_58 : decode cX8_goes 58 = .ok (.getfield 29, 3) := by decide +kernel
theorem dX8_goes_61 : decode cX8_goes 61 = .ok (.iload 6, 2) := by decide +kernel
theorem dX8_goes_63 : decode cX8_goes 63 = .ok (.invokevirtual 145, 3) := by decide +kernel
theorem dX8_goes_66 : decode cX8_goes 66 = .ok (.aload_n 0, 1) := by decide +kernel
theorem dX8_goes_67 : decode cX8_goes 67 = .ok (.dup, 1) := by decide +kernel
theorem dX8_goes_68 : decode cX8_goes 68 = .ok (.getfield 139, 3) := by decide +kernel
theorem dX8_goes_71 : decode cX8_goes 71 = .ok (.aload_n 0, 1) := by decide +kernel
theorem dX8_goes_72 : decode cX8_goes 72 = .ok (.getfield 128, 3) := by decide +kernel
theorem dX8_goes_75 : decode cX8_goes 75 = .ok (.ladd, 1) := by decide +kernel
theorem dX8_goes_76 : decode cX8_goes 76 = .ok (.putfield 139, 3) := by decide +kernel
theorem dX8_goes_79 : decode cX8_goes 79 = .ok (.aload_n 0, 1) := by decide +kernel
theorem dX8_goes_80 : decode cX8_goes 80 = .ok (.dup, 1) := by decide +kernel
theorem dX8_goes_81 : decode cX8_goes 81 = .ok (.getfield 142, 3) := by decide +kernel
theorem dX8_goes_84 : decode cX8_goes 84 = .ok (.aload_n 0, 1) := by decide +kernel
theorem dX8_goes_85 : decode cX8_goes 85 = .ok (.getfield 132, 3) := by decide +kernel
theorem dX8_goes_88 : decode cX8_goes 88 = .ok (.ladd, 1) := by decide +kernel
theorem dX8_goes_89 : decode cX8_goes 89 = .ok (.putfield 142, 3) := by decide +kernel
theorem dX8_goes_92 : decode cX8_goes 92 = .ok (.return_, 1) := by decide +kernel
theorem dX8_isPoint_0 : decode cX8_isPoint 0 = .ok (.lload_n 0, 1) := by decide +kernel
theorem dX8_isPoint_1 : decode cX8_isPoint 1 = .ok (.ldc2_w 149, 3) := by decide +kernel
theorem dX8_isPoint_4 : decode cX8_isPoint 4 = .ok (.invokestatic 112, 3) := by decide +kernel
theorem dX8_isPoint_7 : decode cX8_isPoint 7 = .ok (.ifCond .eq 17, 3) := by decide +kernel
theorem dX8_isPoint_10 : decode cX8_isPoint 10 = .ok (.lload_n 2, 1) := by decide +kernel
theorem dX8_isPoint_11 : decode cX8_isPoint 11 = .ok (.ldc2_w 149, 3) := by decide +kernel
theorem dX8_isPoint_14 : decode cX8_isPoint 14 = .ok (.invokestatic 112, 3) := by decide +kernel
theorem dX8_isPoint_17 : decode cX8_isPoint 17 = .ok (.ifCond .eq 7, 3) := by decide +kernel
theorem dX8_isPoint_20 : decode cX8_isPoint 20 = .ok (.iconst 1, 1) := by decide +kernel
theorem dX8_isPoint_21 : decode cX8_isPoint 21 = .ok (.goto 4, 3) := by decide +kernel
theorem dX8_isPoint_24 : decode cX8_isPoint 24 = .ok (.iconst 0, 1) := by decide +kernel
theorem dX8_isPoint_25 : decode cX8_isPoint 25 = .ok (.ireturn, 1) := by decide +kernel
theorem dX8_point_0 : decode cX8_point 0 = .ok (.aload_n 0, 1) := by decide +kernel
theorem dX8_point_1 : decode cX8_point 1 = .ok (.getfield 94, 3) := by decide +kernel
theorem dX8_point_4 : decode cX8_point 4 = .ok (.ifCond .eq 35, 3) := by decide +kernel
theorem dX8_point_7 : decode cX8_point 7 = .ok (.iload_n 1, 1) := by decide +kernel
theorem dX8_point_8 : decode cX8_point 8 = .ok (.i2l, 1) := by decide +kernel
theorem dX8_point_9 : decode cX8_point 9 = .ok (.iload_n 2, 1) := by decide +kernel
theorem dX8_point_10 : decode cX8_point 10 = .ok (.i2l, 1) := by decide +kernel
theorem dX8_point_11 : decode cX8_point 11 = .ok (.invokestatic 151, 3) := by decide +kernel
theorem dX8_point_14 : decode cX8_point 14 = .ok (.ifCond .eq 25, 3) := by decide +kernel
theorem dX8_point_17 : decode cX8_point 17 = .ok (.aload_n 0, 1) := by decide +kernel
theorem dX8_point_18 : decode cX8_point 18 = .ok (.getfield 87, 3) := by decide +kernel
theorem dX8_point_21 : decode cX8_point 21 = .ok (.ifCond .ne 7, 3) := by decide +kernel
theorem dX8_point_24 : decode cX8_point 24 = .ok (.iload_n 2, 1) := by decide +kernel
theorem dX8_point_25 : decode cX8_point 25 = .ok (.ifCond .ne 14, 3) := by decide +kernel
theorem dX8_point_28 : decode cX8_point 28 = .ok (.aload_n 0, 1) := by decide +kernel
theorem dX8_point_29 : decode cX8_point 29 = .ok (.iload_n 1, 1) := by decide +kernel
theorem dX8_point_30 : decode cX8_point 30 = .ok (.i2l, 1) := by decide +kernel
theorem dX8_point_31 : decode cX8_point 31 = .ok (.iload_n 2, 1) := by decide +kernel
theorem dX8_point_32 : decode cX8_point 32 = .ok (.i2l, 1) := by decide +kernel
theorem dX8_point_33 : decode cX8_point 33 = .ok (.invokevirtual 154, 3) := by decide +kernel
theorem dX8_point_36 : decode cX8_point 36 = .ok (.ifCond .ne 5, 3) := by decide +kernel
theorem dX8_point_39 : decode cX8_point 39 = .ok (.iconst (-1), 1) := by decide +kernel
theorem dX8_point_40 : decode cX8_point 40 = .ok (.ireturn, 1) := by decide +kernel
theorem dX8_point_41 : decode cX8_point 41 = .ok (.aload_n 0, 1) := by decide +kernel
theorem dX8_point_42 : decode cX8_point 42 = .ok (.iconst 1, 1) := by decide +kernel
theorem dX8_point_43 : decode cX8_point 43 = .ok (.putfield 97, 3) := by decide +kernel
theorem dX8_point_46 : decode cX8_point 46 = .ok (.aload_n 0, 1) := by decide +kernel
theorem dX8_point_47 : decode cX8_point 47 = .ok (.iload_n 1, 1) := by decide +kernel
theorem dX8_point_48 : decode cX8_point 48 = .ok (.i2l, 1) := by decide +kernel
theorem dX8_point_49 : decode cX8_point 49 = .ok (.putfield 157, 3) := by decide +kernel
theorem dX8_point_52 : decode cX8_point 52 = .ok (.aload_n 0, 1) := by decide +kernel
theorem dX8_point_53 : decode cX8_point 53 = .ok (.iload_n 2, 1) := by decide +kernel
theorem dX8_point_54 : decode cX8_point 54 = .ok (.i2l, 1) := by decide +kernel
theorem dX8_point_55 : decode cX8_point 55 = .ok (.putfield 160, 3) := by decide +kernel
theorem dX8_point_58 : decode cX8_point 58 = .ok (.aload_n 0, 1) := by decide +kernel
theorem dX8_point_59 : decode cX8_point 59 = .ok (.aload_n 0, 1) := by decide +kernel
theorem dX8_point_60 : decode cX8_point 60 = .ok (.getfield 26, 3) := by decide +kernel
theorem dX8_point_63 : decode cX8_point 63 = .ok (.iload_n 1, 1) := by decide +kernel
theorem dX8_point_64 : decode cX8_point 64 = .ok (.i2l, 1) := by decide +kernel
theorem dX8_point_65 : decode cX8_point 65 = .ok (.iload_n 2, 1) := by decide +kernel
theorem dX8_point_66 : decode cX8_point 66 = .ok (.i2l, 1) := by decide +kernel
theorem dX8_point_67 : decode cX8_point 67 = .ok (.invokevirtual 135, 3) := by decide +kernel
theorem dX8_point_70 : decode cX8_point 70 = .ok (.ireturn, 1) := by decide +kernel
theorem dX8_move_0 : decode cX8_move 0 = .ok (.aload_n 0, 1) := by decide +kernel
theorem dX8_move_1 : decode cX8_move 1 = .ok (.getfield 97, 3) := by decide +kernel
theorem dX8_move_4 : decode cX8_move 4 = .ok (.ifCond .eq 17, 3) := by decide +kernel
theorem dX8_move_7 : decode cX8_move 7 = .ok (.iload_n 1, 1) := by decide +kernel
theorem dX8_move_8 : decode cX8_move 8 = .ok (.sipush (-1000), 3) := by decide +kernel
theorem dX8_move_11 : decode cX8_move 11 = .ok (.if_icmp .lt 10, 3) := by decide +kernel
theorem dX8_move_14 : decode cX8_move 14 = .ok (.iload_n 1, 1) := by decide +kernel
theorem dX8_move_15 : decode cX8_move 15 = .ok (.sipush 1000, 3) := by decide +kernel
theorem dX8_move_18 : decode cX8_move 18 = .ok (.if_icmp .le 5, 3) := by decide +kernel
theorem dX8_move_21 : decode cX8_move 21 = .ok (.iconst (-1), 1) := by decide +kernel
theorem dX8_move_22 : decode cX8_move 22 = .ok (.ireturn, 1) := by decide +kernel
theorem dX8_move_23 : decode cX8_move 23 = .ok (.aload_n 0, 1) := by decide +kernel
theorem dX8_move_24 : decode cX8_move 24 = .ok (.getfield 157, 3) := by decide +kernel
theorem dX8_move_27 : decode cX8_move 27 = .ok (.lstore_n 2, 1) := by decide +kernel
theorem dX8_move_28 : decode cX8_move 28 = .ok (.aload_n 0, 1) := by decide +kernel
theorem dX8_move_29 : decode cX8_move 29 = .ok (.getfield 160, 3) := by decide +kernel
theorem dX8_move_32 : decode cX8_move 32 = .ok (.lstore 4, 2) := by decide +kernel
theorem dX8_move_34 : decode cX8_move 34 = .ok (.iconst 0, 1) := by decide +kernel
theorem dX8_move_35 : decode cX8_move 35 = .ok (.istore 6, 2) := by decide +kernel
theorem dX8_move_37 : decode cX8_move 37 = .ok (.iload 6, 2) := by decide +kernel
theorem dX8_move_39 : decode cX8_move 39 = .ok (.iload_n 1, 1) := by decide +kernel
theorem dX8_move_40 : decode cX8_move 40 = .ok (.if_icmp .lt 10, 3) := by decide +kernel
theorem dX8_move_43 : decode cX8_move 43 = .ok (.iload 6, 2) := by decide +kernel
theorem dX8_move_45 : decode cX8_move 45 = .ok (.iload_n 1, 1) := by decide +kernel
theorem dX8_move_46 : decode cX8_move 46 = .ok (.ineg, 1) := by decide +kernel
theorem dX8_move_47 : decode cX8_move 47 = .ok (.if_icmp .ge 47, 3) := by decide +kernel
theorem dX8_move_50 : decode cX8_move 50 = .ok (.aload_n 0, 1) := by decide +kernel
theorem dX8_move_51 : decode cX8_move 51 = .ok (.lload_n 2, 1) := by decide +kernel
theorem dX8_move_52 : decode cX8_move 52 = .ok (.lload 4, 2) := by decide +kernel
theorem dX8_move_54 : decode cX8_move 54 = .ok (.iload_n 1, 1) := by decide +kernel
theorem dX8_move_55 : decode cX8_move 55 = .ok (.ifCond .ge 7, 3) := by decide +kernel
theorem dX8_move_58 : decode cX8_move 58 = .ok (.iconst 1, 1) := by decide +kernel
theorem dX8_move_59 : decode cX8_move 59 = .ok (.goto 4, 3) := by decide +kernel
theorem dX8_move_62 : decode cX8_move 62 = .ok (.iconst 0, 1) := by decide +kernel
theorem dX8_move_63 : decode cX8_move 63 = .ok (.invokevirtual 163, 3) := by decide +kernel
theorem dX8_move_66 : decode cX8_move 66 = .ok (.aload_n 0, 1) := by decide +kernel
theorem dX8_move_67 : decode cX8_move 67 = .ok (.getfield 139, 3) := by decide +kernel
theorem dX8_move_70 : decode cX8_move 70 = .ok (.lstore_n 2, 1) := by decide +kernel
theorem dX8_move_71 : decode cX8_move 71 = .ok (.aload_n 0, 1) := by decide +kernel
theorem dX8_move_72 : decode cX8_move 72 = .ok (.getfield 142, 3) := by decide +kernel
theorem dX8_move_75 : decode cX8_move 75 = .ok (.lstore 4, 2) := by decide +kernel
theorem dX8_move_77 : decode cX8_move 77 = .ok (.lload_n 2, 1) := by decide +kernel
theorem dX8_move_78 : decode cX8_move 78 = .ok (.lload 4, 2) := by decide +kernel
theorem dX8_move_80 : decode cX8_move 80 = .ok (.invokestatic 151, 3) := by decide +kernel
theorem dX8_move_83 : decode cX8_move 83 = .ok (.ifCond .ne 5, 3) := by decide +kernel
theorem dX8_move_86 : decode cX8_move 86 = .ok (.iconst (-1), 1) := by decide +kernel
theorem dX8_move_87 : decode cX8_move 87 = .ok (.ireturn, 1) := by decide +kernel
theorem dX8_move_88 : decode cX8_move 88 = .ok (.iinc 6 1, 3) := by decide +kernel
theorem dX8_move_91 : decode cX8_move 91 = .ok (.goto (-54), 3) := by decide +kernel
theorem dX8_move_94 : decode cX8_move 94 = .ok (.aload_n 0, 1) := by decide +kernel
theorem dX8_move_95 : decode cX8_move 95 = .ok (.lload_n 2, 1) := by decide +kernel
theorem dX8_move_96 : decode cX8_move 96 = .ok (.putfield 157, 3) := by decide +kernel
theorem dX8_move_99 : decode cX8_move 99 = .ok (.aload_n 0, 1) := by decide +kernel
theorem dX8_move_100 : decode cX8_move 100 = .ok (.lload 4, 2) := by decide +kernel
theorem dX8_move_102 : decode cX8_move 102 = .ok (.putfield 160, 3) := by decide +kernel
theorem dX8_move_105 : decode cX8_move 105 = .ok (.aload_n 0, 1) := by decide +kernel
theorem dX8_move_106 : decode cX8_move 106 = .ok (.aload_n 0, 1) := by decide +kernel
theorem dX8_move_107 : decode cX8_move 107 = .ok (.getfield 26, 3) := by decide +kernel
theorem dX8_move_110 : decode cX8_move 110 = .ok (.lload_n 2, 1) := by decide +kernel
theorem dX8_move_111 : decode cX8_move 111 = .ok (.lload 4, 2) := by decide +kernel
theorem dX8_move_113 : decode cX8_move 113 = .ok (.invokevirtual 135, 3) := by decide +kernel
theorem dX8_move_116 : decode cX8_move 116 = .ok (.ireturn, 1) := by decide +kernel
theorem dX8_where_0 : decode cX8_where 0 = .ok (.aload_n 0, 1) := by decide +kernel
theorem dX8_where_1 : decode cX8_where 1 = .ok (.getfield 97, 3) := by decide +kernel
theorem dX8_where_4 : decode cX8_where 4 = .ok (.ifCond .eq 12, 3) := by decide +kernel
theorem dX8_where_7 : decode cX8_where 7 = .ok (.iload_n 1, 1) := by decide +kernel
theorem dX8_where_8 : decode cX8_where 8 = .ok (.ifCond .eq 14, 3) := by decide +kernel
theorem dX8_where_11 : decode cX8_where 11 = .ok (.iload_n 1, 1) := by decide +kernel
theorem dX8_where_12 : decode cX8_where 12 = .ok (.iconst 1, 1) := by decide +kernel
theorem dX8_where_13 : decode cX8_where 13 = .ok (.if_icmp .eq 9, 3) := by decide +kernel
theorem dX8_where_16 : decode cX8_where 16 = .ok (.ldc2_w 167, 3) := by decide +kernel
theorem dX8_where_19 : decode cX8_where 19 = .ok (.goto 18, 3) := by decide +kernel
theorem dX8_where_22 : decode cX8_where 22 = .ok (.iload_n 1, 1) := by decide +kernel
theorem dX8_where_23 : decode cX8_where 23 = .ok (.ifCond .ne 10, 3) := by decide +kernel
theorem dX8_where_26 : decode cX8_where 26 = .ok (.aload_n 0, 1) := by decide +kernel
theorem dX8_where_27 : decode cX8_where 27 = .ok (.getfield 157, 3) := by decide +kernel
theorem dX8_where_30 : decode cX8_where 30 = .ok (.goto 7, 3) := by decide +kernel
theorem dX8_where_33 : decode cX8_where 33 = .ok (.aload_n 0, 1) := by decide +kernel
theorem dX8_where_34 : decode cX8_where 34 = .ok (.getfield 160, 3) := by decide +kernel
theorem dX8_where_37 : decode cX8_where 37 = .ok (.lreturn, 1) := by decide +kernel
theorem dX8_back_0 : decode cX8_back 0 = .ok (.aload_n 0, 1) := by decide +kernel
theorem dX8_back_1 : decode cX8_back 1 = .ok (.getfield 97, 3) := by decide +kernel
theorem dX8_back_4 : decode cX8_back 4 = .ok (.ifCond .eq 36, 3) := by decide +kernel
theorem dX8_back_7 : decode cX8_back 7 = .ok (.iload_n 1, 1) := by decide +kernel
theorem dX8_back_8 : decode cX8_back 8 = .ok (.i2l, 1) := by decide +kernel
theorem dX8_back_9 : decode cX8_back 9 = .ok (.iload_n 2, 1) := by decide +kernel
theorem dX8_back_10 : decode cX8_back 10 = .ok (.i2l, 1) := by decide +kernel
theorem dX8_back_11 : decode cX8_back 11 = .ok (.invokestatic 151, 3) := by decide +kernel
theorem dX8_back_14 : decode cX8_back 14 = .ok (.ifCond .eq 26, 3) := by decide +kernel
theorem dX8_back_17 : decode cX8_back 17 = .ok (.aload_n 0, 1) := by decide +kernel
theorem dX8_back_18 : decode cX8_back 18 = .ok (.getfield 87, 3) := by decide +kernel
theorem dX8_back_21 : decode cX8_back 21 = .ok (.ifCond .ne 7, 3) := by decide +kernel
theorem dX8_back_24 : decode cX8_back 24 = .ok (.iload_n 2, 1) := by decide +kernel
theorem dX8_back_25 : decode cX8_back 25 = .ok (.ifCond .ne 15, 3) := by decide +kernel
theorem dX8_back_28 : decode cX8_back 28 = .ok (.aload_n 0, 1) := by decide +kernel
theorem dX8_back_29 : decode cX8_back 29 = .ok (.iload_n 1, 1) := by decide +kernel
theorem dX8_back_30 : decode cX8_back 30 = .ok (.i2l, 1) := by decide +kernel
theorem dX8_back_31 : decode cX8_back 31 = .ok (.iload_n 2, 1) := by decide +kernel
theorem dX8_back_32 : decode cX8_back 32 = .ok (.i2l, 1) := by decide +kernel
theorem dX8_back_33 : decode cX8_back 33 = .ok (.invokevirtual 116, 3) := by decide +kernel
theorem dX8_back_36 : decode cX8_back 36 = .ok (.iconst 1, 1) := by decide +kernel
theorem dX8_back_37 : decode cX8_back 37 = .ok (.if_icmp .ge 5, 3) := by decide +kernel
theorem dX8_back_40 : decode cX8_back 40 = .ok (.iconst (-1), 1) := by decide +kernel
theorem dX8_back_41 : decode cX8_back 41 = .ok (.ireturn, 1) := by decide +kernel
theorem dX8_back_42 : decode cX8_back 42 = .ok (.aload_n 0, 1) := by decide +kernel
theorem dX8_back_43 : decode cX8_back 43 = .ok (.getfield 157, 3) := by decide +kernel
theorem dX8_back_46 : decode cX8_back 46 = .ok (.lstore_n 3, 1) := by decide +kernel
theorem dX8_back_47 : decode cX8_back 47 = .ok (.aload_n 0, 1) := by decide +kernel
theorem dX8_back_48 : decode cX8_back 48 = .ok (.getfield 160, 3) := by decide +kernel
theorem dX8_back_51 : decode cX8_back 51 = .ok (.lstore 5, 2) := by decide +kernel
theorem dX8_back_53 : decode cX8_back 53 = .ok (.iconst 1, 1) := by decide +kernel
theorem dX8_back_54 : decode cX8_back 54 = .ok (.istore 7, 2) := by decide +kernel
theorem dX8_back_56 : decode cX8_back 56 = .ok (.iload 7, 2) := by decide +kernel
theorem dX8_back_58 : decode cX8_back 58 = .ok (.sipush 1000, 3) := by decide +kernel
theorem dX8_back_61 : decode cX8_back 61 = .ok (.if_icmp .gt 70, 3) := by decide +kernel
theorem dX8_back_64 : decode cX8_back 64 = .ok (.aload_n 0, 1) := by decide +kernel
theorem dX8_back_65 : decode cX8_back 65 = .ok (.lload_n 3, 1) := by decide +kernel
theorem dX8_back_66 : decode cX8_back 66 = .ok (.lload 5, 2) := by decide +kernel
theorem dX8_back_68 : decode cX8_back 68 = .ok (.iconst 0, 1) := by decide +kernel
theorem dX8_back_69 : decode cX8_back 69 = .ok (.invokevirtual 163, 3) := by decide +kernel
theorem dX8_back_72 : decode cX8_back 72 = .ok (.aload_n 0, 1) := by decide +kernel
theorem dX8_back_73 : decode cX8_back 73 = .ok (.getfield 139, 3) := by decide +kernel
theorem dX8_back_76 : decode cX8_back 76 = .ok (.lstore_n 3, 1) := by decide +kernel
theorem dX8_back_77 : decode cX8_back 77 = .ok (.aload_n 0, 1) := by decide +kernel
theorem dX8_back_78 : decode cX8_back 78 = .ok (.getfield 142, 3) := by decide +kernel
theorem dX8_back_81 : decode cX8_back 81 = .ok (.lstore 5, 2) := by decide +kernel
theorem dX8_back_83 : decode cX8_back 83 = .ok (.lload_n 3, 1) := by decide +kernel
theorem dX8_back_84 : decode cX8_back 84 = .ok (.lload 5, 2) := by decide +kernel
theorem dX8_back_86 : decode cX8_back 86 = .ok (.invokestatic 151, 3) := by decide +kernel
theorem dX8_back_89 : decode cX8_back 89 = .ok (.ifCond .ne 6, 3) := by decide +kernel
theorem dX8_back_92 : decode cX8_back 92 = .ok (.bipush (-2), 2) := by decide +kernel
theorem dX8_back_94 : decode cX8_back 94 = .ok (.ireturn, 1) := by decide +kernel
theorem dX8_back_95 : decode cX8_back 95 = .ok (.aload_n 0, 1) := by decide +kernel
theorem dX8_back_96 : decode cX8_back 96 = .ok (.lload_n 3, 1) := by decide +kernel
theorem dX8_back_97 : decode cX8_back 97 = .ok (.iload_n 1, 1) := by decide +kernel
theorem dX8_back_98 : decode cX8_back 98 = .ok (.i2l, 1) := by decide +kernel
theorem dX8_back_99 : decode cX8_back 99 = .ok (.lsub, 1) := by decide +kernel
theorem dX8_back_100 : decode cX8_back 100 = .ok (.lload 5, 2) := by decide +kernel
theorem dX8_back_102 : decode cX8_back 102 = .ok (.iload_n 2, 1) := by decide +kernel
theorem dX8_back_103 : decode cX8_back 103 = .ok (.i2l, 1) := by decide +kernel
theorem dX8_back_104 : decode cX8_back 104 = .ok (.lsub, 1) := by decide +kernel
theorem dX8_back_105 : decode cX8_back 105 = .ok (.invokevirtual 116, 3) := by decide +kernel
theorem dX8_back_108 : decode cX8_back 108 = .ok (.ifCond .ge 17, 3) := by decide +kernel
theorem dX8_back_111 : decode cX8_back 111 = .ok (.aload_n 0, 1) := by decide +kernel
theorem dX8_back_112 : decode cX8_back 112 = .ok (.lload_n 3, 1) := by decide +kernel
theorem dX8_back_113 : decode cX8_back 113 = .ok (.putfield 157, 3) := by decide +kernel
theorem dX8_back_116 : decode cX8_back 116 = .ok (.aload_n 0, 1) := by decide +kernel
theorem dX8_back_117 : decode cX8_back 117 = .ok (.lload 5, 2) := by decide +kernel
theorem dX8_back_119 : decode cX8_back 119 = .ok (.putfield 160, 3) := by decide +kernel
theorem dX8_back_122 : decode cX8_back 122 = .ok (.iload 7, 2) := by decide +kernel
theorem dX8_back_124 : decode cX8_back 124 = .ok (.ireturn, 1) := by decide +kernel
theorem dX8_back_125 : decode cX8_back 125 = .ok (.iinc 7 1, 3) := by decide +kernel
theorem dX8_back_128 : decode cX8_back 128 = .ok (.goto (-72), 3) := by decide +kernel
theorem dX8_back_131 : decode cX8_back 131 = .ok (.bipush (-2), 2) := by decide +kernel
theorem dX8_back_133 : decode cX8_back 133 = .ok (.ireturn, 1) := by decide +kernel
theorem dX8_visits_0 : decode cX8_visits 0 = .ok (.aload_n 0, 1) := by decide +kernel
theorem dX8_visits_1 : decode cX8_visits 1 = .ok (.getfield 97, 3) := by decide +kernel
theorem dX8_visits_4 : decode cX8_visits 4 = .ok (.ifCond .eq 27, 3) := by decide +kernel
theorem dX8_visits_7 : decode cX8_visits 7 = .ok (.iload_n 1, 1) := by decide +kernel
theorem dX8_visits_8 : decode cX8_visits 8 = .ok (.ifCond .lt 23, 3) := by decide +kernel
theorem dX8_visits_11 : decode cX8_visits 11 = .ok (.iload_n 1, 1) := by decide +kernel
theorem dX8_visits_12 : decode cX8_visits 12 = .ok (.aload_n 0, 1) := by decide +kernel
theorem dX8_visits_13 : decode cX8_visits 13 = .ok (.getfield 94, 3) := by decide +kernel
theorem dX8_visits_16 : decode cX8_visits 16 = .ok (.if_icmp .ge 15, 3) := by decide +kernel
theorem dX8_visits_19 : decode cX8_visits 19 = .ok (.iload_n 2, 1) := by decide +kernel
theorem dX8_visits_20 : decode cX8_visits 20 = .ok (.iconst 1, 1) := by decide +kernel
theorem dX8_visits_21 : decode cX8_visits 21 = .ok (.if_icmp .lt 10, 3) := by decide +kernel
theorem dX8_visits_24 : decode cX8_visits 24 = .ok (.iload_n 2, 1) := by decide +kernel
theorem dX8_visits_25 : decode cX8_visits 25 = .ok (.sipush 1000, 3) := by decide +kernel
theorem dX8_visits_28 : decode cX8_visits 28 = .ok (.if_icmp .le 5, 3) := by decide +kernel
theorem dX8_visits_31 : decode cX8_visits 31 = .ok (.iconst (-1), 1) := by decide +kernel
theorem dX8_visits_32 : decode cX8_visits 32 = .ok (.ireturn, 1) := by decide +kernel
theorem dX8_visits_33 : decode cX8_visits 33 = .ok (.aload_n 0, 1) := by decide +kernel
theorem dX8_visits_34 : decode cX8_visits 34 = .ok (.getfield 157, 3) := by decide +kernel
theorem dX8_visits_37 : decode cX8_visits 37 = .ok (.lstore_n 3, 1) := by decide +kernel
theorem dX8_visits_38 : decode cX8_visits 38 = .ok (.aload_n 0, 1) := by decide +kernel
theorem dX8_visits_39 : decode cX8_visits 39 = .ok (.getfield 160, 3) := by decide +kernel
theorem dX8_visits_42 : decode cX8_visits 42 = .ok (.lstore 5, 2) := by decide +kernel
theorem dX8_visits_44 : decode cX8_visits 44 = .ok (.iconst 0, 1) := by decide +kernel
theorem dX8_visits_45 : decode cX8_visits 45 = .ok (.istore 7, 2) := by decide +kernel
theorem dX8_visits_47 : decode cX8_visits 47 = .ok (.iconst 0, 1) := by decide +kernel
theorem dX8_visits_48 : decode cX8_visits 48 = .ok (.istore 8, 2) := by decide +kernel
theorem dX8_visits_50 : decode cX8_visits 50 = .ok (.iload 8, 2) := by decide +kernel
theorem dX8_visits_52 : decode cX8_visits 52 = .ok (.iload_n 2, 1) := by decide +kernel
theorem dX8_visits_53 : decode cX8_visits 53 = .ok (.if_icmp .ge 62, 3) := by decide +kernel
theorem dX8_visits_56 : decode cX8_visits 56 = .ok (.iload 8, 2) := by decide +kernel
theorem dX8_visits_58 : decode cX8_visits 58 = .ok (.ifCond .le 33, 3) := by decide +kernel
theorem dX8_visits_61 : decode cX8_visits 61 = .ok (.aload_n 0, 1) := by decide +kernel
theorem dX8_visits_62 : decode cX8_visits 62 = .ok (.lload_n 3, 1) := by decide +kernel
theorem dX8_visits_63 : decode cX8_visits 63 = .ok (.lload 5, 2) := by decide +kernel
theorem dX8_visits_65 : decode cX8_visits 65 = .ok (.iconst 0, 1) := by decide +kernel
theorem dX8_visits_66 : decode cX8_visits 66 = .ok (.invokevirtual 163, 3) := by decide +kernel
theorem dX8_visits_69 : decode cX8_visits 69 = .ok (.aload_n 0, 1) := by decide +kernel
theorem dX8_visits_70 : decode cX8_visits 70 = .ok (.getfield 139, 3) := by decide +kernel
theorem dX8_visits_73 : decode cX8_visits 73 = .ok (.lstore_n 3, 1) := by decide +kernel
theorem dX8_visits_74 : decode cX8_visits 74 = .ok (.aload_n 0, 1) := by decide +kernel
theorem dX8_visits_75 : decode cX8_visits 75 = .ok (.getfield 142, 3) := by decide +kernel
theorem dX8_visits_78 : decode cX8_visits 78 = .ok (.lstore 5, 2) := by decide +kernel
theorem dX8_visits_80 : decode cX8_visits 80 = .ok (.lload_n 3, 1) := by decide +kernel
theorem dX8_visits_81 : decode cX8_visits 81 = .ok (.lload 5, 2) := by decide +kernel
theorem dX8_visits_83 : decode cX8_visits 83 = .ok (.invokestatic 151, 3) := by decide +kernel
theorem dX8_visits_86 : decode cX8_visits 86 = .ok (.ifCond .ne 5, 3) := by decide +kernel
theorem dX8_visits_89 : decode cX8_visits 89 = .ok (.iconst (-1), 1) := by decide +kernel
theorem dX8_visits_90 : decode cX8_visits 90 = .ok (.ireturn, 1) := by decide +kernel
theorem dX8_visits_91 : decode cX8_visits 91 = .ok (.aload_n 0, 1) := by decide +kernel
theorem dX8_visits_92 : decode cX8_visits 92 = .ok (.aload_n 0, 1) := by decide +kernel
theorem dX8_visits_93 : decode cX8_visits 93 = .ok (.getfield 26, 3) := by decide +kernel
theorem dX8_visits_96 : decode cX8_visits 96 = .ok (.lload_n 3, 1) := by decide +kernel
theorem dX8_visits_97 : decode cX8_visits 97 = .ok (.lload 5, 2) := by decide +kernel
theorem dX8_visits_99 : decode cX8_visits 99 = .ok (.invokevirtual 135, 3) := by decide +kernel
theorem dX8_visits_102 : decode cX8_visits 102 = .ok (.iload_n 1, 1) := by decide +kernel
theorem dX8_visits_103 : decode cX8_visits 103 = .ok (.if_icmp .ne 6, 3) := by decide +kernel
theorem dX8_visits_106 : decode cX8_visits 106 = .ok (.iinc 7 1, 3) := by decide +kernel
theorem dX8_visits_109 : decode cX8_visits 109 = .ok (.iinc 8 1, 3) := by decide +kernel
theorem dX8_visits_112 : decode cX8_visits 112 = .ok (.goto (-62), 3) := by decide +kernel
theorem dX8_visits_115 : decode cX8_visits 115 = .ok (.iload 7, 2) := by decide +kernel
theorem dX8_visits_117 : decode cX8_visits 117 = .ok (.ireturn, 1) := by decide +kernel
theorem dX8_brings_0 : decode cX8_brings 0 = .ok (.iconst 0, 1) := by decide +kernel
theorem dX8_brings_1 : decode cX8_brings 1 = .ok (.istore 4, 2) := by decide +kernel
theorem dX8_brings_3 : decode cX8_brings 3 = .ok (.aload_n 1, 1) := by decide +kernel
theorem dX8_brings_4 : decode cX8_brings 4 = .ok (.iload 4, 2) := by decide +kernel
theorem dX8_brings_6 : decode cX8_brings 6 = .ok (.iaload, 1) := by decide +kernel
theorem dX8_brings_7 : decode cX8_brings 7 = .ok (.iload_n 3, 1) := by decide +kernel
theorem dX8_brings_8 : decode cX8_brings 8 = .ok (.if_icmp .eq 9, 3) := by decide +kernel
theorem dX8_brings_11 : decode cX8_brings 11 = .ok (.iinc 4 1, 3) := by decide +kernel
theorem dX8_brings_14 : decode cX8_brings 14 = .ok (.goto (-11), 3) := by decide +kernel
theorem dX8_brings_17 : decode cX8_brings 17 = .ok (.aload_n 0, 1) := by decide +kernel
theorem dX8_brings_18 : decode cX8_brings 18 = .ok (.getfield 94, 3) := by decide +kernel
theorem dX8_brings_21 : decode cX8_brings 21 = .ok (.iconst 1, 1) := by decide +kernel
theorem dX8_brings_22 : decode cX8_brings 22 = .ok (.isub, 1) := by decide +kernel
theorem dX8_brings_23 : decode cX8_brings 23 = .ok (.istore 5, 2) := by decide +kernel
theorem dX8_brings_25 : decode cX8_brings 25 = .ok (.iload 5, 2) := by decide +kernel
theorem dX8_brings_27 : decode cX8_brings 27 = .ok (.iload 4, 2) := by decide +kernel
theorem dX8_brings_29 : decode cX8_brings 29 = .ok (.iconst 1, 1) := by decide +kernel
theorem dX8_brings_30 : decode cX8_brings 30 = .ok (.iadd, 1) := by decide +kernel
theorem dX8_brings_31 : decode cX8_brings 31 = .ok (.if_icmp .le 19, 3) := by decide +kernel
theorem dX8_brings_34 : decode cX8_brings 34 = .ok (.aload_n 1, 1) := by decide +kernel
theorem dX8_brings_35 : decode cX8_brings 35 = .ok (.iload 5, 2) := by decide +kernel
theorem dX8_brings_37 : decode cX8_brings 37 = .ok (.aload_n 1, 1) := by decide +kernel
theorem dX8_brings_38 : decode cX8_brings 38 = .ok (.iload 5, 2) := by decide +kernel
theorem dX8_brings_40 : decode cX8_brings 40 = .ok (.iconst 1, 1) := by decide +kernel
theorem dX8_brings_41 : decode cX8_brings 41 = .ok (.isub, 1) := by decide +kernel
theorem dX8_brings_42 : decode cX8_brings 42 = .ok (.iaload, 1) := by decide +kernel
theorem dX8_brings_43 : decode cX8_brings 43 = .ok (.iastore, 1) := by decide +kernel
theorem dX8_brings_44 : decode cX8_brings 44 = .ok (.iinc 5 (-1), 3) := by decide +kernel
theorem dX8_brings_47 : decode cX8_brings 47 = .ok (.goto (-22), 3) := by decide +kernel
theorem dX8_brings_50 : decode cX8_brings 50 = .ok (.aload_n 1, 1) := by decide +kernel
theorem dX8_brings_51 : decode cX8_brings 51 = .ok (.iload 4, 2) := by decide +kernel
theorem dX8_brings_53 : decode cX8_brings 53 = .ok (.iconst 1, 1) := by decide +kernel
theorem dX8_brings_54 : decode cX8_brings 54 = .ok (.iadd, 1) := by decide +kernel
theorem dX8_brings_55 : decode cX8_brings 55 = .ok (.iload_n 2, 1) := by decide +kernel
theorem dX8_brings_56 : decode cX8_brings 56 = .ok (.iastore, 1) := by decide +kernel
theorem dX8_brings_57 : decode cX8_brings 57 = .ok (.return_, 1) := by decide +kernel
theorem dX8_step_0 : decode cX8_step 0 = .ok (.aload_n 0, 1) := by decide +kernel
theorem dX8_step_1 : decode cX8_step 1 = .ok (.getfield 94, 3) := by decide +kernel
theorem dX8_step_4 : decode cX8_step 4 = .ok (.ifCond .ne 5, 3) := by decide +kernel
theorem dX8_step_7 : decode cX8_step 7 = .ok (.iconst (-1), 1) := by decide +kernel
theorem dX8_step_8 : decode cX8_step 8 = .ok (.ireturn, 1) := by decide +kernel
theorem dX8_step_9 : decode cX8_step 9 = .ok (.aload_n 0, 1) := by decide +kernel
theorem dX8_step_10 : decode cX8_step 10 = .ok (.getfield 26, 3) := by decide +kernel
theorem dX8_step_13 : decode cX8_step 13 = .ok (.aload_n 0, 1) := by decide +kernel
theorem dX8_step_14 : decode cX8_step 14 = .ok (.getfield 94, 3) := by decide +kernel
theorem dX8_step_17 : decode cX8_step 17 = .ok (.iconst 1, 1) := by decide +kernel
theorem dX8_step_18 : decode cX8_step 18 = .ok (.isub, 1) := by decide +kernel
theorem dX8_step_19 : decode cX8_step 19 = .ok (.iaload, 1) := by decide +kernel
theorem dX8_step_20 : decode cX8_step 20 = .ok (.istore_n 1, 1) := by decide +kernel
theorem dX8_step_21 : decode cX8_step 21 = .ok (.aload_n 0, 1) := by decide +kernel
theorem dX8_step_22 : decode cX8_step 22 = .ok (.getfield 29, 3) := by decide +kernel
theorem dX8_step_25 : decode cX8_step 25 = .ok (.aload_n 0, 1) := by decide +kernel
theorem dX8_step_26 : decode cX8_step 26 = .ok (.getfield 94, 3) := by decide +kernel
theorem dX8_step_29 : decode cX8_step 29 = .ok (.iconst 1, 1) := by decide +kernel
theorem dX8_step_30 : decode cX8_step 30 = .ok (.isub, 1) := by decide +kernel
theorem dX8_step_31 : decode cX8_step 31 = .ok (.iaload, 1) := by decide +kernel
theorem dX8_step_32 : decode cX8_step 32 = .ok (.istore_n 2, 1) := by decide +kernel
theorem dX8_step_33 : decode cX8_step 33 = .ok (.iload_n 1, 1) := by decide +kernel
theorem dX8_step_34 : decode cX8_step 34 = .ok (.iload_n 2, 1) := by decide +kernel
theorem dX8_step_35 : decode cX8_step 35 = .ok (.if_icmp .ne 6, 3) := by decide +kernel
theorem dX8_step_38 : decode cX8_step 38 = .ok (.bipush (-2), 2) := by decide +kernel
theorem dX8_step_40 : decode cX8_step 40 = .ok (.ireturn, 1) := by decide +kernel
theorem dX8_step_41 : decode cX8_step 41 = .ok (.aload_n 0, 1) := by decide +kernel
theorem dX8_step_42 : decode cX8_step 42 = .ok (.aload_n 0, 1) := by decide +kernel
theorem dX8_step_43 : decode cX8_step 43 = .ok (.getfield 19, 3) := by decide +kernel
theorem dX8_step_46 : decode cX8_step 46 = .ok (.iload_n 1, 1) := by decide +kernel
theorem dX8_step_47 : decode cX8_step 47 = .ok (.laload, 1) := by decide +kernel
theorem dX8_step_48 : decode cX8_step 48 = .ok (.aload_n 0, 1) := by decide +kernel
theorem dX8_step_49 : decode cX8_step 49 = .ok (.getfield 19, 3) := by decide +kernel
theorem dX8_step_52 : decode cX8_step 52 = .ok (.iload_n 2, 1) := by decide +kernel
theorem dX8_step_53 : decode cX8_step 53 = .ok (.laload, 1) := by decide +kernel
theorem dX8_step_54 : decode cX8_step 54 = .ok (.lsub, 1) := by decide +kernel
theorem dX8_step_55 : decode cX8_step 55 = .ok (.aload_n 0, 1) := by decide +kernel
theorem dX8_step_56 : decode cX8_step 56 = .ok (.getfield 23, 3) := by decide +kernel
theorem dX8_step_59 : decode cX8_step 59 = .ok (.iload_n 1, 1) := by decide +kernel
theorem dX8_step_60 : decode cX8_step 60 = .ok (.laload, 1) := by decide +kernel
theorem dX8_step_61 : decode cX8_step 61 = .ok (.aload_n 0, 1) := by decide +kernel
theorem dX8_step_62 : decode cX8_step 62 = .ok (.getfield 23, 3) := by decide +kernel
theorem dX8_step_65 : decode cX8_step 65 = .ok (.iload_n 2, 1) := by decide +kernel
theorem dX8_step_66 : decode cX8_step 66 = .ok (.laload, 1) := by decide +kernel
theorem dX8_step_67 : decode cX8_step 67 = .ok (.lsub, 1) := by decide +kernel
theorem dX8_step_68 : decode cX8_step 68 = .ok (.invokevirtual 116, 3) := by decide +kernel
theorem dX8_step_71 : decode cX8_step 71 = .ok (.istore_n 3, 1) := by decide +kernel
theorem dX8_step_72 : decode cX8_step 72 = .ok (.iload_n 3, 1) := by decide +kernel
theorem dX8_step_73 : decode cX8_step 73 = .ok (.ifCond .ne 6, 3) := by decide +kernel
theorem dX8_step_76 : decode cX8_step 76 = .ok (.bipush (-3), 2) := by decide +kernel
theorem dX8_step_78 : decode cX8_step 78 = .ok (.ireturn, 1) := by decide +kernel
theorem dX8_step_79 : decode cX8_step 79 = .ok (.iload_n 3, 1) := by decide +kernel
theorem dX8_step_80 : decode cX8_step 80 = .ok (.ifCond .le 7, 3) := by decide +kernel
theorem dX8_step_83 : decode cX8_step 83 = .ok (.iload_n 1, 1) := by decide +kernel
theorem dX8_step_84 : decode cX8_step 84 = .ok (.goto 4, 3) := by decide +kernel
theorem dX8_step_87 : decode cX8_step 87 = .ok (.iload_n 2, 1) := by decide +kernel
theorem dX8_step_88 : decode cX8_step 88 = .ok (.istore 4, 2) := by decide +kernel
theorem dX8_step_90 : decode cX8_step 90 = .ok (.iload_n 3, 1) := by decide +kernel
theorem dX8_step_91 : decode cX8_step 91 = .ok (.ifCond .le 7, 3) := by decide +kernel
theorem dX8_step_94 : decode cX8_step 94 = .ok (.iload_n 2, 1) := by decide +kernel
theorem dX8_step_95 : decode cX8_step 95 = .ok (.goto 4, 3) := by decide +kernel
theorem dX8_step_98 : decode cX8_step 98 = .ok (.iload_n 1, 1) := by decide +kernel
theorem dX8_step_99 : decode cX8_step 99 = .ok (.istore 5, 2) := by decide +kernel
theorem dX8_step_101 : decode cX8_step 101 = .ok (.aload_n 0, 1) := by decide +kernel
theorem dX8_step_102 : decode cX8_step 102 = .ok (.getfield 19, 3) := by decide +kernel
theorem dX8_step_105 : decode cX8_step 105 = .ok (.iload 4, 2) := by decide +kernel
theorem dX8_step_107 : decode cX8_step 107 = .ok (.laload, 1) := by decide +kernel
theorem dX8_step_108 : decode cX8_step 108 = .ok (.aload_n 0, 1) := by decide +kernel
theorem dX8_step_109 : decode cX8_step 109 = .ok (.getfield 19, 3) := by decide +kernel
theorem dX8_step_112 : decode cX8_step 112 = .ok (.iload 5, 2) := by decide +kernel
theorem dX8_step_114 : decode cX8_step 114 = .ok (.laload, 1) := by decide +kernel
theorem dX8_step_115 : decode cX8_step 115 = .ok (.lsub, 1) := by decide +kernel
theorem dX8_step_116 : decode cX8_step 116 = .ok (.lstore 6, 2) := by decide +kernel
theorem dX8_step_118 : decode cX8_step 118 = .ok (.aload_n 0, 1) := by decide +kernel
theorem dX8_step_119 : decode cX8_step 119 = .ok (.getfield 23, 3) := by decide +kernel
theorem dX8_step_122 : decode cX8_step 122 = .ok (.iload 4, 2) := by decide +kernel
theorem dX8_step_124 : decode cX8_step 124 = .ok (.laload, 1) := by decide +kernel
theorem dX8_step_125 : decode cX8_step 125 = .ok (.aload_n 0, 1) := by decide +kernel
theorem dX8_step_126 : decode cX8_step 126 = .ok (.getfield 23, 3) := by decide +kernel
theorem dX8_step_129 : decode cX8_step 129 = .ok (.iload 5, 2) := by decide +kernel
theorem dX8_step_131 : decode cX8_step 131 = .ok (.laload, 1) := by decide +kernel
theorem dX8_step_132 : decode cX8_step 132 = .ok (.lsub, 1) := by decide +kernel
theorem dX8_step_133 : decode cX8_step 133 = .ok (.lstore 8, 2) := by decide +kernel
theorem dX8_step_135 : decode cX8_step 135 = .ok (.lload 6, 2) := by decide +kernel
theorem dX8_step_137 : decode cX8_step 137 = .ok (.ldc2_w 110, 3) := by decide +kernel
theorem dX8_step_140 : decode cX8_step 140 = .ok (.invokestatic 112, 3) := by decide +kernel
theorem dX8_step_143 : decode cX8_step 143 = .ok (.ifCond .eq 14, 3) := by decide +kernel
theorem dX8_step_146 : decode cX8_step 146 = .ok (.lload 8, 2) := by decide +kernel
theorem dX8_step_148 : decode cX8_step 148 = .ok (.ldc2_w 110, 3) := by decide +kernel
theorem dX8_step_151 : decode cX8_step 151 = .ok (.invokestatic 112, 3) := by decide +kernel
theorem dX8_step_154 : decode cX8_step 154 = .ok (.ifCond .ne 6, 3) := by decide +kernel
theorem dX8_step_157 : decode cX8_step 157 = .ok (.bipush (-4), 2) := by decide +kernel
theorem dX8_step_159 : decode cX8_step 159 = .ok (.ireturn, 1) := by decide +kernel
theorem dX8_step_160 : decode cX8_step 160 = .ok (.iconst 0, 1) := by decide +kernel
theorem dX8_step_161 : decode cX8_step 161 = .ok (.istore 10, 2) := by decide +kernel
theorem dX8_step_163 : decode cX8_step 163 = .ok (.iload 10, 2) := by decide +kernel
theorem dX8_step_165 : decode cX8_step 165 = .ok (.aload_n 0, 1) := by decide +kernel
theorem dX8_step_166 : decode cX8_step 166 = .ok (.getfield 94, 3) := by decide +kernel
theorem dX8_step_169 : decode cX8_step 169 = .ok (.if_icmp .ge 46, 3) := by decide +kernel
theorem dX8_step_172 : decode cX8_step 172 = .ok (.aload_n 0, 1) := by decide +kernel
theorem dX8_step_173 : decode cX8_step 173 = .ok (.getfield 32, 3) := by decide +kernel
theorem dX8_step_176 : decode cX8_step 176 = .ok (.bipush 8, 2) := by decide +kernel
theorem dX8_step_178 : decode cX8_step 178 = .ok (.iload 10, 2) := by decide +kernel
theorem dX8_step_180 : decode cX8_step 180 = .ok (.imul, 1) := by decide +kernel
theorem dX8_step_181 : decode cX8_step 181 = .ok (.iload 5, 2) := by decide +kernel
theorem dX8_step_183 : decode cX8_step 183 = .ok (.iadd, 1) := by decide +kernel
theorem dX8_step_184 : decode cX8_step 184 = .ok (.laload, 1) := by decide +kernel
theorem dX8_step_185 : decode cX8_step 185 = .ok (.aload_n 0, 1) := by decide +kernel
theorem dX8_step_186 : decode cX8_step 186 = .ok (.getfield 32, 3) := by decide +kernel
theorem dX8_step_189 : decode cX8_step 189 = .ok (.bipush 8, 2) := by decide +kernel
theorem dX8_step_191 : decode cX8_step 191 = .ok (.iload 10, 2) := by decide +kernel
theorem dX8_step_193 : decode cX8_step 193 = .ok (.imul, 1) := by decide +kernel
theorem dX8_step_194 : decode cX8_step 194 = .ok (.iload 4, 2) := by decide +kernel
theorem dX8_step_196 : decode cX8_step 196 = .ok (.iadd, 1) := by decide +kernel
theorem dX8_step_197 : decode cX8_step 197 = .ok (.laload, 1) := by decide +kernel
theorem dX8_step_198 : decode cX8_step 198 = .ok (.ladd, 1) := by decide +kernel
theorem dX8_step_199 : decode cX8_step 199 = .ok (.ldc2_w 169, 3) := by decide +kernel
theorem dX8_step_202 : decode cX8_step 202 = .ok (.lcmp, 1) := by decide +kernel
theorem dX8_step_203 : decode cX8_step 203 = .ok (.ifCond .le 6, 3) := by decide +kernel
theorem dX8_step_206 : decode cX8_step 206 = .ok (.bipush (-4), 2) := by decide +kernel
theorem dX8_step_208 : decode cX8_step 208 = .ok (.ireturn, 1) := by decide +kernel
theorem dX8_step_209 : decode cX8_step 209 = .ok (.iinc 10 1, 3) := by decide +kernel
theorem dX8_step_212 : decode cX8_step 212 = .ok (.goto (-49), 3) := by decide +kernel
theorem dX8_step_215 : decode cX8_step 215 = .ok (.iconst 0, 1) := by decide +kernel
theorem dX8_step_216 : decode cX8_step 216 = .ok (.istore 10, 2) := by decide +kernel
theorem dX8_step_218 : decode cX8_step 218 = .ok (.iload 10, 2) := by decide +kernel
theorem dX8_step_220 : decode cX8_step 220 = .ok (.aload_n 0, 1) := by decide +kernel
theorem dX8_step_221 : decode cX8_step 221 = .ok (.getfield 94, 3) := by decide +kernel
theorem dX8_step_224 : decode cX8_step 224 = .ok (.if_icmp .ge 38, 3) := by decide +kernel
theorem dX8_step_227 : decode cX8_step 227 = .ok (.aload_n 0, 1) := by decide +kernel
theorem dX8_step_228 : decode cX8_step 228 = .ok (.getfield 32, 3) := by decide +kernel
theorem dX8_step_231 : decode cX8_step 231 = .ok (.bipush 8, 2) := by decide +kernel
theorem dX8_step_233 : decode cX8_step 233 = .ok (.iload 10, 2) := by decide +kernel
theorem dX8_step_235 : decode cX8_step 235 = .ok (.imul, 1) := by decide +kernel
theorem dX8_step_236 : decode cX8_step 236 = .ok (.iload 5, 2) := by decide +kernel
theorem dX8_step_238 : decode cX8_step 238 = .ok (.iadd, 1) := by decide +kernel
theorem dX8_step_239 : decode cX8_step 239 = .ok (.dup2, 1) := by decide +kernel
theorem dX8_step_240 : decode cX8_step 240 = .ok (.laload, 1) := by decide +kernel
theorem dX8_step_241 : decode cX8_step 241 = .ok (.aload_n 0, 1) := by decide +kernel
theorem dX8_step_242 : decode cX8_step 242 = .ok (.getfield 32, 3) := by decide +kernel
theorem dX8_step_245 : decode cX8_step 245 = .ok (.bipush 8, 2) := by decide +kernel
theorem dX8_step_247 : decode cX8_step 247 = .ok (.iload 10, 2) := by decide +kernel
theorem dX8_step_249 : decode cX8_step 249 = .ok (.imul, 1) := by decide +kernel
theorem dX8_step_250 : decode cX8_step 250 = .ok (.iload 4, 2) := by decide +kernel
theorem dX8_step_252 : decode cX8_step 252 = .ok (.iadd, 1) := by decide +kernel
theorem dX8_step_253 : decode cX8_step 253 = .ok (.laload, 1) := by decide +kernel
theorem dX8_step_254 : decode cX8_step 254 = .ok (.ladd, 1) := by decide +kernel
theorem dX8_step_255 : decode cX8_step 255 = .ok (.lastore, 1) := by decide +kernel
theorem dX8_step_256 : decode cX8_step 256 = .ok (.iinc 10 1, 3) := by decide +kernel
theorem dX8_step_259 : decode cX8_step 259 = .ok (.goto (-41), 3) := by decide +kernel
theorem dX8_step_262 : decode cX8_step 262 = .ok (.aload_n 0, 1) := by decide +kernel
theorem dX8_step_263 : decode cX8_step 263 = .ok (.getfield 19, 3) := by decide +kernel
theorem dX8_step_266 : decode cX8_step 266 = .ok (.iload 4, 2) := by decide +kernel
theorem dX8_step_268 : decode cX8_step 268 = .ok (.lload 6, 2) := by decide +kernel
theorem dX8_step_270 : decode cX8_step 270 = .ok (.lastore, 1) := by decide +kernel
theorem dX8_step_271 : decode cX8_step 271 = .ok (.aload_n 0, 1) := by decide +kernel
theorem dX8_step_272 : decode cX8_step 272 = .ok (.getfield 23, 3) := by decide +kernel
theorem dX8_step_275 : decode cX8_step 275 = .ok (.iload 4, 2) := by decide +kernel
theorem dX8_step_277 : decode cX8_step 277 = .ok (.lload 8, 2) := by decide +kernel
theorem dX8_step_279 : decode cX8_step 279 = .ok (.lastore, 1) := by decide +kernel
theorem dX8_step_280 : decode cX8_step 280 = .ok (.aload_n 0, 1) := by decide +kernel
theorem dX8_step_281 : decode cX8_step 281 = .ok (.iload_n 3, 1) := by decide +kernel
theorem dX8_step_282 : decode cX8_step 282 = .ok (.ifCond .le 10, 3) := by decide +kernel
theorem dX8_step_285 : decode cX8_step 285 = .ok (.aload_n 0, 1) := by decide +kernel
theorem dX8_step_286 : decode cX8_step 286 = .ok (.getfield 29, 3) := by decide +kernel
theorem dX8_step_289 : decode cX8_step 289 = .ok (.goto 7, 3) := by decide +kernel
theorem dX8_step_292 : decode cX8_step 292 = .ok (.aload_n 0, 1) := by decide +kernel
theorem dX8_step_293 : decode cX8_step 293 = .ok (.getfield 26, 3) := by decide +kernel
theorem dX8_step_296 : decode cX8_step 296 = .ok (.iload 5, 2) := by decide +kernel
theorem dX8_step_298 : decode cX8_step 298 = .ok (.iload 4, 2) := by decide +kernel
theorem dX8_step_300 : decode cX8_step 300 = .ok (.invokevirtual 171, 3) := by decide +kernel
theorem dX8_step_303 : decode cX8_step 303 = .ok (.aload_n 0, 1) := by decide +kernel
theorem dX8_step_304 : decode cX8_step 304 = .ok (.dup, 1) := by decide +kernel
theorem dX8_step_305 : decode cX8_step 305 = .ok (.getfield 101, 3) := by decide +kernel
theorem dX8_step_308 : decode cX8_step 308 = .ok (.iconst 1, 1) := by decide +kernel
theorem dX8_step_309 : decode cX8_step 309 = .ok (.iadd, 1) := by decide +kernel
theorem dX8_step_310 : decode cX8_step 310 = .ok (.putfield 101, 3) := by decide +kernel
theorem dX8_step_313 : decode cX8_step 313 = .ok (.iload_n 3, 1) := by decide +kernel
theorem dX8_step_314 : decode cX8_step 314 = .ok (.ifCond .le 13, 3) := by decide +kernel
theorem dX8_step_317 : decode cX8_step 317 = .ok (.aload_n 0, 1) := by decide +kernel
theorem dX8_step_318 : decode cX8_step 318 = .ok (.dup, 1) := by decide +kernel
theorem dX8_step_319 : decode cX8_step 319 = .ok (.getfield 104, 3) := by decide +kernel
theorem dX8_step_322 : decode cX8_step 322 = .ok (.iconst 1, 1) := by decide +kernel
theorem dX8_step_323 : decode cX8_step 323 = .ok (.iadd, 1) := by decide +kernel
theorem dX8_step_324 : decode cX8_step 324 = .ok (.putfield 104, 3) := by decide +kernel
theorem dX8_step_327 : decode cX8_step 327 = .ok (.aload_n 0, 1) := by decide +kernel
theorem dX8_step_328 : decode cX8_step 328 = .ok (.getfield 97, 3) := by decide +kernel
theorem dX8_step_331 : decode cX8_step 331 = .ok (.ifCond .eq 23, 3) := by decide +kernel
theorem dX8_step_334 : decode cX8_step 334 = .ok (.aload_n 0, 1) := by decide +kernel
theorem dX8_step_335 : decode cX8_step 335 = .ok (.aload_n 0, 1) := by decide +kernel
theorem dX8_step_336 : decode cX8_step 336 = .ok (.getfield 157, 3) := by decide +kernel
theorem dX8_step_339 : decode cX8_step 339 = .ok (.aload_n 0, 1) := by decide +kernel
theorem dX8_step_340 : decode cX8_step 340 = .ok (.getfield 160, 3) := by decide +kernel
theorem dX8_step_343 : decode cX8_step 343 = .ok (.invokevirtual 154, 3) := by decide +kernel
theorem dX8_step_346 : decode cX8_step 346 = .ok (.ifCond .ne 8, 3) := by decide +kernel
theorem dX8_step_349 : decode cX8_step 349 = .ok (.aload_n 0, 1) := by decide +kernel
theorem dX8_step_350 : decode cX8_step 350 = .ok (.iconst 0, 1) := by decide +kernel
theorem dX8_step_351 : decode cX8_step 351 = .ok (.putfield 97, 3) := by decide +kernel
theorem dX8_step_354 : decode cX8_step 354 = .ok (.iload_n 3, 1) := by decide +kernel
theorem dX8_step_355 : decode cX8_step 355 = .ok (.ifCond .le 7, 3) := by decide +kernel
theorem dX8_step_358 : decode cX8_step 358 = .ok (.iconst 1, 1) := by decide +kernel
theorem dX8_step_359 : decode cX8_step 359 = .ok (.goto 4, 3) := by decide +kernel
theorem dX8_step_362 : decode cX8_step 362 = .ok (.iconst 0, 1) := by decide +kernel
theorem dX8_step_363 : decode cX8_step 363 = .ok (.ireturn, 1) := by decide +kernel
theorem dX8_steps_0 : decode cX8_steps 0 = .ok (.aload_n 0, 1) := by decide +kernel
theorem dX8_steps_1 : decode cX8_steps 1 = .ok (.getfield 94, 3) := by decide +kernel
theorem dX8_steps_4 : decode cX8_steps 4 = .ok (.ifCond .eq 15, 3) := by decide +kernel
theorem dX8_steps_7 : decode cX8_steps 7 = .ok (.iload_n 1, 1) := by decide +kernel
theorem dX8_steps_8 : decode cX8_steps 8 = .ok (.iconst 1, 1) := by decide +kernel
theorem dX8_steps_9 : decode cX8_steps 9 = .ok (.if_icmp .lt 10, 3) := by decide +kernel
theorem dX8_steps_12 : decode cX8_steps 12 = .ok (.iload_n 1, 1) := by decide +kernel
theorem dX8_steps_13 : decode cX8_steps 13 = .ok (.sipush 1000, 3) := by decide +kernel
theorem dX8_steps_16 : decode cX8_steps 16 = .ok (.if_icmp .le 5, 3) := by decide +kernel
theorem dX8_steps_19 : decode cX8_steps 19 = .ok (.iconst (-1), 1) := by decide +kernel
theorem dX8_steps_20 : decode cX8_steps 20 = .ok (.ireturn, 1) := by decide +kernel
theorem dX8_steps_21 : decode cX8_steps 21 = .ok (.iconst 0, 1) := by decide +kernel
theorem dX8_steps_22 : decode cX8_steps 22 = .ok (.istore_n 2, 1) := by decide +kernel
theorem dX8_steps_23 : decode cX8_steps 23 = .ok (.iload_n 2, 1) := by decide +kernel
theorem dX8_steps_24 : decode cX8_steps 24 = .ok (.iload_n 1, 1) := by decide +kernel
theorem dX8_steps_25 : decode cX8_steps 25 = .ok (.if_icmp .ge 16, 3) := by decide +kernel
theorem dX8_steps_28 : decode cX8_steps 28 = .ok (.aload_n 0, 1) := by decide +kernel
theorem dX8_steps_29 : decode cX8_steps 29 = .ok (.invokevirtual 175, 3) := by decide +kernel
theorem dX8_steps_32 : decode cX8_steps 32 = .ok (.ifCond .lt 9, 3) := by decide +kernel
theorem dX8_steps_35 : decode cX8_steps 35 = .ok (.iinc 2 1, 3) := by decide +kernel
theorem dX8_steps_38 : decode cX8_steps 38 = .ok (.goto (-15), 3) := by decide +kernel
theorem dX8_steps_41 : decode cX8_steps 41 = .ok (.iload_n 2, 1) := by decide +kernel
theorem dX8_steps_42 : decode cX8_steps 42 = .ok (.ireturn, 1) := by decide +kernel
theorem dX8_table_0 : decode cX8_table 0 = .ok (.iload_n 1, 1) := by decide +kernel
theorem dX8_table_1 : decode cX8_table 1 = .ok (.ifCond .lt 37, 3) := by decide +kernel
theorem dX8_table_4 : decode cX8_table 4 = .ok (.iload_n 1, 1) := by decide +kernel
theorem dX8_table_5 : decode cX8_table 5 = .ok (.aload_n 0, 1) := by decide +kernel
theorem dX8_table_6 : decode cX8_table 6 = .ok (.getfield 94, 3) := by decide +kernel
theorem dX8_table_9 : decode cX8_table 9 = .ok (.if_icmp .ge 29, 3) := by decide +kernel
theorem dX8_table_12 : decode cX8_table 12 = .ok (.iload_n 2, 1) := by decide +kernel
theorem dX8_table_13 : decode cX8_table 13 = .ok (.ifCond .lt 25, 3) := by decide +kernel
theorem dX8_table_16 : decode cX8_table 16 = .ok (.iload_n 2, 1) := by decide +kernel
theorem dX8_table_17 : decode cX8_table 17 = .ok (.aload_n 0, 1) := by decide +kernel
theorem dX8_table_18 : decode cX8_table 18 = .ok (.getfield 94, 3) := by decide +kernel
theorem dX8_table_21 : decode cX8_table 21 = .ok (.if_icmp .ge 17, 3) := by decide +kernel
theorem dX8_table_24 : decode cX8_table 24 = .ok (.aload_n 0, 1) := by decide +kernel
theorem dX8_table_25 : decode cX8_table 25 = .ok (.getfield 32, 3) := by decide +kernel
theorem dX8_table_28 : decode cX8_table 28 = .ok (.bipush 8, 2) := by decide +kernel
theorem dX8_table_30 : decode cX8_table 30 = .ok (.iload_n 1, 1) := by decide +kernel
theorem dX8_table_31 : decode cX8_table 31 = .ok (.imul, 1) := by decide +kernel
theorem dX8_table_32 : decode cX8_table 32 = .ok (.iload_n 2, 1) := by decide +kernel
theorem dX8_table_33 : decode cX8_table 33 = .ok (.iadd, 1) := by decide +kernel
theorem dX8_table_34 : decode cX8_table 34 = .ok (.laload, 1) := by decide +kernel
theorem dX8_table_35 : decode cX8_table 35 = .ok (.goto 6, 3) := by decide +kernel
theorem dX8_table_38 : decode cX8_table 38 = .ok (.ldc2_w 178, 3) := by decide +kernel
theorem dX8_table_41 : decode cX8_table 41 = .ok (.lreturn, 1) := by decide +kernel
theorem dX8_isShare_0 : decode cX8_isShare 0 = .ok (.aload_n 0, 1) := by decide +kernel
theorem dX8_isShare_1 : decode cX8_isShare 1 = .ok (.getfield 19, 3) := by decide +kernel
theorem dX8_isShare_4 : decode cX8_isShare 4 = .ok (.iload_n 1, 1) := by decide +kernel
theorem dX8_isShare_5 : decode cX8_isShare 5 = .ok (.laload, 1) := by decide +kernel
theorem dX8_isShare_6 : decode cX8_isShare 6 = .ok (.aload_n 0, 1) := by decide +kernel
theorem dX8_isShare_7 : decode cX8_isShare 7 = .ok (.getfield 35, 3) := by decide +kernel
theorem dX8_isShare_10 : decode cX8_isShare 10 = .ok (.iconst 0, 1) := by decide +kernel
theorem dX8_isShare_11 : decode cX8_isShare 11 = .ok (.laload, 1) := by decide +kernel
theorem dX8_isShare_12 : decode cX8_isShare 12 = .ok (.lmul, 1) := by decide +kernel
theorem dX8_isShare_13 : decode cX8_isShare 13 = .ok (.aload_n 0, 1) := by decide +kernel
theorem dX8_isShare_14 : decode cX8_isShare 14 = .ok (.getfield 87, 3) := by decide +kernel
theorem dX8_isShare_17 : decode cX8_isShare 17 = .ok (.i2l, 1) := by decide +kernel
theorem dX8_isShare_18 : decode cX8_isShare 18 = .ok (.aload_n 0, 1) := by decide +kernel
theorem dX8_isShare_19 : decode cX8_isShare 19 = .ok (.getfield 23, 3) := by decide +kernel
theorem dX8_isShare_22 : decode cX8_isShare 22 = .ok (.iload_n 1, 1) := by decide +kernel
theorem dX8_isShare_23 : decode cX8_isShare 23 = .ok (.laload, 1) := by decide +kernel
theorem dX8_isShare_24 : decode cX8_isShare 24 = .ok (.lmul, 1) := by decide +kernel
theorem dX8_isShare_25 : decode cX8_isShare 25 = .ok (.aload_n 0, 1) := by decide +kernel
theorem dX8_isShare_26 : decode cX8_isShare 26 = .ok (.getfield 38, 3) := by decide +kernel
theorem dX8_isShare_29 : decode cX8_isShare 29 = .ok (.iconst 0, 1) := by decide +kernel
theorem dX8_isShare_30 : decode cX8_isShare 30 = .ok (.laload, 1) := by decide +kernel
theorem dX8_isShare_31 : decode cX8_isShare 31 = .ok (.lmul, 1) := by decide +kernel
theorem dX8_isShare_32 : decode cX8_isShare 32 = .ok (.ladd, 1) := by decide +kernel
theorem dX8_isShare_33 : decode cX8_isShare 33 = .ok (.lstore_n 2, 1) := by decide +kernel
theorem dX8_isShare_34 : decode cX8_isShare 34 = .ok (.aload_n 0, 1) := by decide +kernel
theorem dX8_isShare_35 : decode cX8_isShare 35 = .ok (.getfield 19, 3) := by decide +kernel
theorem dX8_isShare_38 : decode cX8_isShare 38 = .ok (.iload_n 1, 1) := by decide +kernel
theorem dX8_isShare_39 : decode cX8_isShare 39 = .ok (.laload, 1) := by decide +kernel
theorem dX8_isShare_40 : decode cX8_isShare 40 = .ok (.aload_n 0, 1) := by decide +kernel
theorem dX8_isShare_41 : decode cX8_isShare 41 = .ok (.getfield 38, 3) := by decide +kernel
theorem dX8_isShare_44 : decode cX8_isShare 44 = .ok (.iconst 0, 1) := by decide +kernel
theorem dX8_isShare_45 : decode cX8_isShare 45 = .ok (.laload, 1) := by decide +kernel
theorem dX8_isShare_46 : decode cX8_isShare 46 = .ok (.lmul, 1) := by decide +kernel
theorem dX8_isShare_47 : decode cX8_isShare 47 = .ok (.aload_n 0, 1) := by decide +kernel
theorem dX8_isShare_48 : decode cX8_isShare 48 = .ok (.getfield 23, 3) := by decide +kernel
theorem dX8_isShare_51 : decode cX8_isShare 51 = .ok (.iload_n 1, 1) := by decide +kernel
theorem dX8_isShare_52 : decode cX8_isShare 52 = .ok (.laload, 1) := by decide +kernel
theorem dX8_isShare_53 : decode cX8_isShare 53 = .ok (.aload_n 0, 1) := by decide +kernel
theorem dX8_isShare_54 : decode cX8_isShare 54 = .ok (.getfield 35, 3) := by decide +kernel
theorem dX8_isShare_57 : decode cX8_isShare 57 = .ok (.iconst 0, 1) := by decide +kernel
theorem dX8_isShare_58 : decode cX8_isShare 58 = .ok (.laload, 1) := by decide +kernel
theorem dX8_isShare_59 : decode cX8_isShare 59 = .ok (.lmul, 1) := by decide +kernel
theorem dX8_isShare_60 : decode cX8_isShare 60 = .ok (.ladd, 1) := by decide +kernel
theorem dX8_isShare_61 : decode cX8_isShare 61 = .ok (.lstore 4, 2) := by decide +kernel
theorem dX8_isShare_63 : decode cX8_isShare 63 = .ok (.aload_n 0, 1) := by decide +kernel
theorem dX8_isShare_64 : decode cX8_isShare 64 = .ok (.getfield 35, 3) := by decide +kernel
theorem dX8_isShare_67 : decode cX8_isShare 67 = .ok (.iload_n 1, 1) := by decide +kernel
theorem dX8_isShare_68 : decode cX8_isShare 68 = .ok (.laload, 1) := by decide +kernel
theorem dX8_isShare_69 : decode cX8_isShare 69 = .ok (.aload_n 0, 1) := by decide +kernel
theorem dX8_isShare_70 : decode cX8_isShare 70 = .ok (.getfield 19, 3) := by decide +kernel
theorem dX8_isShare_73 : decode cX8_isShare 73 = .ok (.iconst 0, 1) := by decide +kernel
theorem dX8_isShare_74 : decode cX8_isShare 74 = .ok (.laload, 1) := by decide +kernel
theorem dX8_isShare_75 : decode cX8_isShare 75 = .ok (.lmul, 1) := by decide +kernel
theorem dX8_isShare_76 : decode cX8_isShare 76 = .ok (.aload_n 0, 1) := by decide +kernel
theorem dX8_isShare_77 : decode cX8_isShare 77 = .ok (.getfield 87, 3) := by decide +kernel
theorem dX8_isShare_80 : decode cX8_isShare 80 = .ok (.i2l, 1) := by decide +kernel
theorem dX8_isShare_81 : decode cX8_isShare 81 = .ok (.aload_n 0, 1) := by decide +kernel
theorem dX8_isShare_82 : decode cX8_isShare 82 = .ok (.getfield 38, 3) := by decide +kernel
theorem dX8_isShare_85 : decode cX8_isShare 85 = .ok (.iload_n 1, 1) := by decide +kernel
theorem dX8_isShare_86 : decode cX8_isShare 86 = .ok (.laload, 1) := by decide +kernel
theorem dX8_isShare_87 : decode cX8_isShare 87 = .ok (.lmul, 1) := by decide +kernel
theorem dX8_isShare_88 : decode cX8_isShare 88 = .ok (.aload_n 0, 1) := by decide +kernel
theorem dX8_isShare_89 : decode cX8_isShare 89 = .ok (.getfield 23, 3) := by decide +kernel
theorem dX8_isShare_92 : decode cX8_isShare 92 = .ok (.iconst 0, 1) := by decide +kernel
theorem dX8_isShare_93 : decode cX8_isShare 93 = .ok (.laload, 1) := by decide +kernel
theorem dX8_isShare_94 : decode cX8_isShare 94 = .ok (.lmul, 1) := by decide +kernel
theorem dX8_isShare_95 : decode cX8_isShare 95 = .ok (.ladd, 1) := by decide +kernel
theorem dX8_isShare_96 : decode cX8_isShare 96 = .ok (.lstore 6, 2) := by decide +kernel
theorem dX8_isShare_98 : decode cX8_isShare 98 = .ok (.aload_n 0, 1) := by decide +kernel
theorem dX8_isShare_99 : decode cX8_isShare 99 = .ok (.getfield 35, 3) := by decide +kernel
theorem dX8_isShare_102 : decode cX8_isShare 102 = .ok (.iload_n 1, 1) := by decide +kernel
theorem dX8_isShare_103 : decode cX8_isShare 103 = .ok (.laload, 1) := by decide +kernel
theorem dX8_isShare_104 : decode cX8_isShare 104 = .ok (.aload_n 0, 1) := by decide +kernel
theorem dX8_isShare_105 : decode cX8_isShare 105 = .ok (.getfield 23, 3) := by decide +kernel
theorem dX8_isShare_108 : decode cX8_isShare 108 = .ok (.iconst 0, 1) := by decide +kernel
theorem dX8_isShare_109 : decode cX8_isShare 109 = .ok (.laload, 1) := by decide +kernel
theorem dX8_isShare_110 : decode cX8_isShare 110 = .ok (.lmul, 1) := by decide +kernel
theorem dX8_isShare_111 : decode cX8_isShare 111 = .ok (.aload_n 0, 1) := by decide +kernel
theorem dX8_isShare_112 : decode cX8_isShare 112 = .ok (.getfield 38, 3) := by decide +kernel
theorem dX8_isShare_115 : decode cX8_isShare 115 = .ok (.iload_n 1, 1) := by decide +kernel
theorem dX8_isShare_116 : decode cX8_isShare 116 = .ok (.laload, 1) := by decide +kernel
theorem dX8_isShare_117 : decode cX8_isShare 117 = .ok (.aload_n 0, 1) := by decide +kernel
theorem dX8_isShare_118 : decode cX8_isShare 118 = .ok (.getfield 19, 3) := by decide +kernel
theorem dX8_isShare_121 : decode cX8_isShare 121 = .ok (.iconst 0, 1) := by decide +kernel
theorem dX8_isShare_122 : decode cX8_isShare 122 = .ok (.laload, 1) := by decide +kernel
theorem dX8_isShare_123 : decode cX8_isShare 123 = .ok (.lmul, 1) := by decide +kernel
theorem dX8_isShare_124 : decode cX8_isShare 124 = .ok (.ladd, 1) := by decide +kernel
theorem dX8_isShare_125 : decode cX8_isShare 125 = .ok (.lstore 8, 2) := by decide +kernel
theorem dX8_isShare_127 : decode cX8_isShare 127 = .ok (.lload_n 2, 1) := by decide +kernel
theorem dX8_isShare_128 : decode cX8_isShare 128 = .ok (.lload 6, 2) := by decide +kernel
theorem dX8_isShare_130 : decode cX8_isShare 130 = .ok (.lcmp, 1) := by decide +kernel
theorem dX8_isShare_131 : decode cX8_isShare 131 = .ok (.ifCond .ne 15, 3) := by decide +kernel
theorem dX8_isShare_134 : decode cX8_isShare 134 = .ok (.lload 4, 2) := by decide +kernel
theorem dX8_isShare_136 : decode cX8_isShare 136 = .ok (.lload 8, 2) := by decide +kernel
theorem dX8_isShare_138 : decode cX8_isShare 138 = .ok (.lcmp, 1) := by decide +kernel
theorem dX8_isShare_139 : decode cX8_isShare 139 = .ok (.ifCond .ne 7, 3) := by decide +kernel
theorem dX8_isShare_142 : decode cX8_isShare 142 = .ok (.iconst 1, 1) := by decide +kernel
theorem dX8_isShare_143 : decode cX8_isShare 143 = .ok (.goto 4, 3) := by decide +kernel
theorem dX8_isShare_146 : decode cX8_isShare 146 = .ok (.iconst 0, 1) := by decide +kernel
theorem dX8_isShare_147 : decode cX8_isShare 147 = .ok (.ireturn, 1) := by decide +kernel
theorem dX8_isLoop_0 : decode cX8_isLoop 0 = .ok (.iconst 0, 1) := by decide +kernel
theorem dX8_isLoop_1 : decode cX8_isLoop 1 = .ok (.istore_n 1, 1) := by decide +kernel
theorem dX8_isLoop_2 : decode cX8_isLoop 2 = .ok (.iload_n 1, 1) := by decide +kernel
theorem dX8_isLoop_3 : decode cX8_isLoop 3 = .ok (.aload_n 0, 1) := by decide +kernel
theorem dX8_isLoop_4 : decode cX8_isLoop 4 = .ok (.getfield 94, 3) := by decide +kernel
theorem dX8_isLoop_7 : decode cX8_isLoop 7 = .ok (.if_icmp .ge 49, 3) := by decide +kernel
theorem dX8_isLoop_10 : decode cX8_isLoop 10 = .ok (.aload_n 0, 1) := by decide +kernel
theorem dX8_isLoop_11 : decode cX8_isLoop 11 = .ok (.getfield 26, 3) := by decide +kernel
theorem dX8_isLoop_14 : decode cX8_isLoop 14 = .ok (.iload_n 1, 1) := by decide +kernel
theorem dX8_isLoop_15 : decode cX8_isLoop 15 = .ok (.iaload, 1) := by decide +kernel
theorem dX8_isLoop_16 : decode cX8_isLoop 16 = .ok (.aload_n 0, 1) := by decide +kernel
theorem dX8_isLoop_17 : decode cX8_isLoop 17 = .ok (.getfield 41, 3) := by decide +kernel
theorem dX8_isLoop_20 : decode cX8_isLoop 20 = .ok (.iload_n 1, 1) := by decide +kernel
theorem dX8_isLoop_21 : decode cX8_isLoop 21 = .ok (.iaload, 1) := by decide +kernel
theorem dX8_isLoop_22 : decode cX8_isLoop 22 = .ok (.if_icmp .ne 26, 3) := by decide +kernel
theorem dX8_isLoop_25 : decode cX8_isLoop 25 = .ok (.aload_n 0, 1) := by decide +kernel
theorem dX8_isLoop_26 : decode cX8_isLoop 26 = .ok (.getfield 29, 3) := by decide +kernel
theorem dX8_isLoop_29 : decode cX8_isLoop 29 = .ok (.iload_n 1, 1) := by decide +kernel
theorem dX8_isLoop_30 : decode cX8_isLoop 30 = .ok (.iaload, 1) := by decide +kernel
theorem dX8_isLoop_31 : decode cX8_isLoop 31 = .ok (.aload_n 0, 1) := by decide +kernel
theorem dX8_isLoop_32 : decode cX8_isLoop 32 = .ok (.getfield 44, 3) := by decide +kernel
theorem dX8_isLoop_35 : decode cX8_isLoop 35 = .ok (.iload_n 1, 1) := by decide +kernel
theorem dX8_isLoop_36 : decode cX8_isLoop 36 = .ok (.iaload, 1) := by decide +kernel
theorem dX8_isLoop_37 : decode cX8_isLoop 37 = .ok (.if_icmp .ne 11, 3) := by decide +kernel
theorem dX8_isLoop_40 : decode cX8_isLoop 40 = .ok (.aload_n 0, 1) := by decide +kernel
theorem dX8_isLoop_41 : decode cX8_isLoop 41 = .ok (.iload_n 1, 1) := by decide +kernel
theorem dX8_isLoop_42 : decode cX8_isLoop 42 = .ok (.invokevirtual 180, 3) := by decide +kernel
theorem dX8_isLoop_45 : decode cX8_isLoop 45 = .ok (.ifCond .ne 5, 3) := by decide +kernel
theorem dX8_isLoop_48 : decode cX8_isLoop 48 = .ok (.iconst 0, 1) := by decide +kernel
theorem dX8_isLoop_49 : decode cX8_isLoop 49 = .ok (.ireturn, 1) := by decide +kernel
theorem dX8_isLoop_50 : decode cX8_isLoop 50 = .ok (.iinc 1 1, 3) := by decide +kernel
theorem dX8_isLoop_53 : decode cX8_isLoop 53 = .ok (.goto (-51), 3) := by decide +kernel
theorem dX8_isLoop_56 : decode cX8_isLoop 56 = .ok (.iconst 1, 1) := by decide +kernel
theorem dX8_isLoop_57 : decode cX8_isLoop 57 = .ok (.ireturn, 1) := by decide +kernel
theorem dX8_loop_0 : decode cX8_loop 0 = .ok (.aload_n 0, 1) := by decide +kernel
theorem dX8_loop_1 : decode cX8_loop 1 = .ok (.getfield 94, 3) := by decide +kernel
theorem dX8_loop_4 : decode cX8_loop 4 = .ok (.ifCond .ne 5, 3) := by decide +kernel
theorem dX8_loop_7 : decode cX8_loop 7 = .ok (.iconst (-1), 1) := by decide +kernel
theorem dX8_loop_8 : decode cX8_loop 8 = .ok (.ireturn, 1) := by decide +kernel
theorem dX8_loop_9 : decode cX8_loop 9 = .ok (.iconst 0, 1) := by decide +kernel
theorem dX8_loop_10 : decode cX8_loop 10 = .ok (.istore_n 1, 1) := by decide +kernel
theorem dX8_loop_11 : decode cX8_loop 11 = .ok (.iload_n 1, 1) := by decide +kernel
theorem dX8_loop_12 : decode cX8_loop 12 = .ok (.aload_n 0, 1) := by decide +kernel
theorem dX8_loop_13 : decode cX8_loop 13 = .ok (.getfield 94, 3) := by decide +kernel
theorem dX8_loop_16 : decode cX8_loop 16 = .ok (.if_icmp .ge 57, 3) := by decide +kernel
theorem dX8_loop_19 : decode cX8_loop 19 = .ok (.aload_n 0, 1) := by decide +kernel
theorem dX8_loop_20 : decode cX8_loop 20 = .ok (.getfield 35, 3) := by decide +kernel
theorem dX8_loop_23 : decode cX8_loop 23 = .ok (.iload_n 1, 1) := by decide +kernel
theorem dX8_loop_24 : decode cX8_loop 24 = .ok (.aload_n 0, 1) := by decide +kernel
theorem dX8_loop_25 : decode cX8_loop 25 = .ok (.getfield 19, 3) := by decide +kernel
theorem dX8_loop_28 : decode cX8_loop 28 = .ok (.iload_n 1, 1) := by decide +kernel
theorem dX8_loop_29 : decode cX8_loop 29 = .ok (.laload, 1) := by decide +kernel
theorem dX8_loop_30 : decode cX8_loop 30 = .ok (.lastore, 1) := by decide +kernel
theorem dX8_loop_31 : decode cX8_loop 31 = .ok (.aload_n 0, 1) := by decide +kernel
theorem dX8_loop_32 : decode cX8_loop 32 = .ok (.getfield 38, 3) := by decide +kernel
theorem dX8_loop_35 : decode cX8_loop 35 = .ok (.iload_n 1, 1) := by decide +kernel
theorem dX8_loop_36 : decode cX8_loop 36 = .ok (.aload_n 0, 1) := by decide +kernel
theorem dX8_loop_37 : decode cX8_loop 37 = .ok (.getfield 23, 3) := by decide +kernel
theorem dX8_loop_40 : decode cX8_loop 40 = .ok (.iload_n 1, 1) := by decide +kernel
theorem dX8_loop_41 : decode cX8_loop 41 = .ok (.laload, 1) := by decide +kernel
theorem dX8_loop_42 : decode cX8_loop 42 = .ok (.lastore, 1) := by decide +kernel
theorem dX8_loop_43 : decode cX8_loop 43 = .ok (.aload_n 0, 1) := by decide +kernel
theorem dX8_loop_44 : decode cX8_loop 44 = .ok (.getfield 41, 3) := by decide +kernel
theorem dX8_loop_47 : decode cX8_loop 47 = .ok (.iload_n 1, 1) := by decide +kernel
theorem dX8_loop_48 : decode cX8_loop 48 = .ok (.aload_n 0, 1) := by decide +kernel
theorem dX8_loop_49 : decode cX8_loop 49 = .ok (.getfield 26, 3) := by decide +kernel
theorem dX8_loop_52 : decode cX8_loop 52 = .ok (.iload_n 1, 1) := by decide +kernel
theorem dX8_loop_53 : decode cX8_loop 53 = .ok (.iaload, 1) := by decide +kernel
theorem dX8_loop_54 : decode cX8_loop 54 = .ok (.iastore, 1) := by decide +kernel
theorem dX8_loop_55 : decode cX8_loop 55 = .ok (.aload_n 0, 1) := by decide +kernel
theorem dX8_loop_56 : decode cX8_loop 56 = .ok (.getfield 44, 3) := by decide +kernel
theorem dX8_loop_59 : decode cX8_loop 59 = .ok (.iload_n 1, 1) := by decide +kernel
theorem dX8_loop_60 : decode cX8_loop 60 = .ok (.aload_n 0, 1) := by decide +kernel
theorem dX8_loop_61 : decode cX8_loop 61 = .ok (.getfield 29, 3) := by decide +kernel
theorem dX8_loop_64 : decode cX8_loop 64 = .ok (.iload_n 1, 1) := by decide +kernel
theorem dX8_loop_65 : decode cX8_loop 65 = .ok (.iaload, 1) := by decide +kernel
theorem dX8_loop_66 : decode cX8_loop 66 = .ok (.iastore, 1) := by decide +kernel
theorem dX8_loop_67 : decode cX8_loop 67 = .ok (.iinc 1 1, 3) := by decide +kernel
theorem dX8_loop_70 : decode cX8_loop 70 = .ok (.goto (-59), 3) := by decide +kernel
theorem dX8_loop_73 : decode cX8_loop 73 = .ok (.iconst 0, 1) := by decide +kernel
theorem dX8_loop_74 : decode cX8_loop 74 = .ok (.istore_n 1, 1) := by decide +kernel
theorem dX8_loop_75 : decode cX8_loop 75 = .ok (.iload_n 1, 1) := by decide +kernel
theorem dX8_loop_76 : decode cX8_loop 76 = .ok (.bipush 64, 2) := by decide +kernel
theorem dX8_loop_78 : decode cX8_loop 78 = .ok (.if_icmp .ge 21, 3) := by decide +kernel
theorem dX8_loop_81 : decode cX8_loop 81 = .ok (.aload_n 0, 1) := by decide +kernel
theorem dX8_loop_82 : decode cX8_loop 82 = .ok (.getfield 47, 3) := by decide +kernel
theorem dX8_loop_85 : decode cX8_loop 85 = .ok (.iload_n 1, 1) := by decide +kernel
theorem dX8_loop_86 : decode cX8_loop 86 = .ok (.aload_n 0, 1) := by decide +kernel
theorem dX8_loop_87 : decode cX8_loop 87 = .ok (.getfield 32, 3) := by decide +kernel
theorem dX8_loop_90 : decode cX8_loop 90 = .ok (.iload_n 1, 1) := by decide +kernel
theorem dX8_loop_91 : decode cX8_loop 91 = .ok (.laload, 1) := by decide +kernel
theorem dX8_loop_92 : decode cX8_loop 92 = .ok (.lastore, 1) := by decide +kernel
theorem dX8_loop_93 : decode cX8_loop 93 = .ok (.iinc 1 1, 3) := by decide +kernel
theorem dX8_loop_96 : decode cX8_loop 96 = .ok (.goto (-21), 3) := by decide +kernel
theorem dX8_loop_99 : decode cX8_loop 99 = .ok (.aload_n 0, 1) := by decide +kernel
theorem dX8_loop_100 : decode cX8_loop 100 = .ok (.getfield 101, 3) := by decide +kernel
theorem dX8_loop_103 : decode cX8_loop 103 = .ok (.istore_n 1, 1) := by decide +kernel
theorem dX8_loop_104 : decode cX8_loop 104 = .ok (.aload_n 0, 1) := by decide +kernel
theorem dX8_loop_105 : decode cX8_loop 105 = .ok (.getfield 104, 3) := by decide +kernel
theorem dX8_loop_108 : decode cX8_loop 108 = .ok (.istore_n 2, 1) := by decide +kernel
theorem dX8_loop_109 : decode cX8_loop 109 = .ok (.aload_n 0, 1) := by decide +kernel
theorem dX8_loop_110 : decode cX8_loop 110 = .ok (.getfield 97, 3) := by decide +kernel
end
section
theorem dX8_loop_113 : decode cX8_loop 113 = .ok (.istore_n 3, 1) := by decide +kernel
theorem dX8_loop_114 : decode cX8_loop 114 = .ok (.iconst 0, 1) := by decide +kernel
theorem dX8_loop_115 : decode cX8_loop 115 = .ok (.istore 4, 2) := by decide +kernel
theorem dX8_loop_117 : decode cX8_loop 117 = .ok (.iconst 1, 1) := by decide +kernel
theorem dX8_loop_118 : decode cX8_loop 118 = .ok (.istore 5, 2) := by decide +kernel
theorem dX8_loop_120 : decode cX8_loop 120 = .ok (.iconst 1, 1) := by decide +kernel
theorem dX8_loop_121 : decode cX8_loop 121 = .ok (.istore 6, 2) := by decide +kernel
theorem dX8_loop_123 : decode cX8_loop 123 = .ok (.iload 6, 2) := by decide +kernel
theorem dX8_loop_125 : decode cX8_loop 125 = .ok (.sipush 300, 3) := by decide +kernel
theorem dX8_loop_128 : decode cX8_loop 128 = .ok (.if_icmp .gt 50, 3) := by decide +kernel
theorem dX8_loop_131 : decode cX8_loop 131 = .ok (.iload 5, 2) := by decide +kernel
theorem dX8_loop_133 : decode cX8_loop 133 = .ok (.ifCond .eq 45, 3) := by decide +kernel
theorem dX8_loop_136 : decode cX8_loop 136 = .ok (.aload_n 0, 1) := by decide +kernel
theorem dX8_loop_137 : decode cX8_loop 137 = .ok (.invokevirtual 175, 3) := by decide +kernel
theorem dX8_loop_140 : decode cX8_loop 140 = .ok (.ifCond .lt 7, 3) := by decide +kernel
theorem dX8_loop_143 : decode cX8_loop 143 = .ok (.iconst 1, 1) := by decide +kernel
theorem dX8_loop_144 : decode cX8_loop 144 = .ok (.goto 4, 3) := by decide +kernel
theorem dX8_loop_147 : decode cX8_loop 147 = .ok (.iconst 0, 1) := by decide +kernel
theorem dX8_loop_148 : decode cX8_loop 148 = .ok (.istore 5, 2) := by decide +kernel
theorem dX8_loop_150 : decode cX8_loop 150 = .ok (.iload 5, 2) := by decide +kernel
theorem dX8_loop_152 : decode cX8_loop 152 = .ok (.ifCond .eq 20, 3) := by decide +kernel
theorem dX8_loop_155 : decode cX8_loop 155 = .ok (.aload_n 0, 1) := by decide +kernel
theorem dX8_loop_156 : decode cX8_loop 156 = .ok (.invokevirtual 184, 3) := by decide +kernel
theorem dX8_loop_159 : decode cX8_loop 159 = .ok (.ifCond .ne 6, 3) := by decide +kernel
theorem dX8_loop_162 : decode cX8_loop 162 = .ok (.goto 10, 3) := by decide +kernel
theorem dX8_loop_165 : decode cX8_loop 165 = .ok (.iload 6, 2) := by decide +kernel
theorem dX8_loop_167 : decode cX8_loop 167 = .ok (.istore 4, 2) := by decide +kernel
theorem dX8_loop_169 : decode cX8_loop 169 = .ok (.iconst 0, 1) := by decide +kernel
theorem dX8_loop_170 : decode cX8_loop 170 = .ok (.istore 5, 2) := by decide +kernel
theorem dX8_loop_172 : decode cX8_loop 172 = .ok (.iinc 6 1, 3) := by decide +kernel
theorem dX8_loop_175 : decode cX8_loop 175 = .ok (.goto (-52), 3) := by decide +kernel
theorem dX8_loop_178 : decode cX8_loop 178 = .ok (.iconst 0, 1) := by decide +kernel
theorem dX8_loop_179 : decode cX8_loop 179 = .ok (.istore 6, 2) := by decide +kernel
theorem dX8_loop_181 : decode cX8_loop 181 = .ok (.iload 6, 2) := by decide +kernel
theorem dX8_loop_183 : decode cX8_loop 183 = .ok (.aload_n 0, 1) := by decide +kernel
theorem dX8_loop_184 : decode cX8_loop 184 = .ok (.getfield 94, 3) := by decide +kernel
theorem dX8_loop_187 : decode cX8_loop 187 = .ok (.if_icmp .ge 65, 3) := by decide +kernel
theorem dX8_loop_190 : decode cX8_loop 190 = .ok (.aload_n 0, 1) := by decide +kernel
theorem dX8_loop_191 : decode cX8_loop 191 = .ok (.getfield 19, 3) := by decide +kernel
theorem dX8_loop_194 : decode cX8_loop 194 = .ok (.iload 6, 2) := by decide +kernel
theorem dX8_loop_196 : decode cX8_loop 196 = .ok (.aload_n 0, 1) := by decide +kernel
theorem dX8_loop_197 : decode cX8_loop 197 = .ok (.getfield 35, 3) := by decide +kernel
theorem dX8_loop_200 : decode cX8_loop 200 = .ok (.iload 6, 2) := by decide +kernel
theorem dX8_loop_202 : decode cX8_loop 202 = .ok (.laload, 1) := by decide +kernel
theorem dX8_loop_203 : decode cX8_loop 203 = .ok (.lastore, 1) := by decide +kernel
theorem dX8_loop_204 : decode cX8_loop 204 = .ok (.aload_n 0, 1) := by decide +kernel
theorem dX8_loop_205 : decode cX8_loop 205 = .ok (.getfield 23, 3) := by decide +kernel
theorem dX8_loop_208 : decode cX8_loop 208 = .ok (.iload 6, 2) := by decide +kernel
theorem dX8_loop_210 : decode cX8_loop 210 = .ok (.aload_n 0, 1) := by decide +kernel
theorem dX8_loop_211 : decode cX8_loop 211 = .ok (.getfield 38, 3) := by decide +kernel
theorem dX8_loop_214 : decode cX8_loop 214 = .ok (.iload 6, 2) := by decide +kernel
theorem dX8_loop_216 : decode cX8_loop 216 = .ok (.laload, 1) := by decide +kernel
theorem dX8_loop_217 : decode cX8_loop 217 = .ok (.lastore, 1) := by decide +kernel
theorem dX8_loop_218 : decode cX8_loop 218 = .ok (.aload_n 0, 1) := by decide +kernel
theorem dX8_loop_219 : decode cX8_loop 219 = .ok (.getfield 26, 3) := by decide +kernel
theorem dX8_loop_222 : decode cX8_loop 222 = .ok (.iload 6, 2) := by decide +kernel
theorem dX8_loop_224 : decode cX8_loop 224 = .ok (.aload_n 0, 1) := by decide +kernel
theorem dX8_loop_225 : decode cX8_loop 225 = .ok (.getfield 41, 3) := by decide +kernel
theorem dX8_loop_228 : decode cX8_loop 228 = .ok (.iload 6, 2) := by decide +kernel
theorem dX8_loop_230 : decode cX8_loop 230 = .ok (.iaload, 1) := by decide +kernel
theorem dX8_loop_231 : decode cX8_loop 231 = .ok (.iastore, 1) := by decide +kernel
theorem dX8_loop_232 : decode cX8_loop 232 = .ok (.aload_n 0, 1) := by decide +kernel
theorem dX8_loop_233 : decode cX8_loop 233 = .ok (.getfield 29, 3) := by decide +kernel
theorem dX8_loop_236 : decode cX8_loop 236 = .ok (.iload 6, 2) := by decide +kernel
theorem dX8_loop_238 : decode cX8_loop 238 = .ok (.aload_n 0, 1) := by decide +kernel
theorem dX8_loop_239 : decode cX8_loop 239 = .ok (.getfield 44, 3) := by decide +kernel
theorem dX8_loop_242 : decode cX8_loop 242 = .ok (.iload 6, 2) := by decide +kernel
theorem dX8_loop_244 : decode cX8_loop 244 = .ok (.iaload, 1) := by decide +kernel
theorem dX8_loop_245 : decode cX8_loop 245 = .ok (.iastore, 1) := by decide +kernel
theorem dX8_loop_246 : decode cX8_loop 246 = .ok (.iinc 6 1, 3) := by decide +kernel
theorem dX8_loop_249 : decode cX8_loop 249 = .ok (.goto (-68), 3) := by decide +kernel
theorem dX8_loop_252 : decode cX8_loop 252 = .ok (.iconst 0, 1) := by decide +kernel
theorem dX8_loop_253 : decode cX8_loop 253 = .ok (.istore 6, 2) := by decide +kernel
theorem dX8_loop_255 : decode cX8_loop 255 = .ok (.iload 6, 2) := by decide +kernel
theorem dX8_loop_257 : decode cX8_loop 257 = .ok (.bipush 64, 2) := by decide +kernel
theorem dX8_loop_259 : decode cX8_loop 259 = .ok (.if_icmp .ge 23, 3) := by decide +kernel
theorem dX8_loop_262 : decode cX8_loop 262 = .ok (.aload_n 0, 1) := by decide +kernel
theorem dX8_loop_263 : decode cX8_loop 263 = .ok (.getfield 32, 3) := by decide +kernel
theorem dX8_loop_266 : decode cX8_loop 266 = .ok (.iload 6, 2) := by decide +kernel
theorem dX8_loop_268 : decode cX8_loop 268 = .ok (.aload_n 0, 1) := by decide +kernel
theorem dX8_loop_269 : decode cX8_loop 269 = .ok (.getfield 47, 3) := by decide +kernel
theorem dX8_loop_272 : decode cX8_loop 272 = .ok (.iload 6, 2) := by decide +kernel
theorem dX8_loop_274 : decode cX8_loop 274 = .ok (.laload, 1) := by decide +kernel
theorem dX8_loop_275 : decode cX8_loop 275 = .ok (.lastore, 1) := by decide +kernel
theorem dX8_loop_276 : decode cX8_loop 276 = .ok (.iinc 6 1, 3) := by decide +kernel
theorem dX8_loop_279 : decode cX8_loop 279 = .ok (.goto (-24), 3) := by decide +kernel
theorem dX8_loop_282 : decode cX8_loop 282 = .ok (.aload_n 0, 1) := by decide +kernel
theorem dX8_loop_283 : decode cX8_loop 283 = .ok (.iload_n 1, 1) := by decide +kernel
theorem dX8_loop_284 : decode cX8_loop 284 = .ok (.putfield 101, 3) := by decide +kernel
theorem dX8_loop_287 : decode cX8_loop 287 = .ok (.aload_n 0, 1) := by decide +kernel
theorem dX8_loop_288 : decode cX8_loop 288 = .ok (.iload_n 2, 1) := by decide +kernel
theorem dX8_loop_289 : decode cX8_loop 289 = .ok (.putfield 104, 3) := by decide +kernel
theorem dX8_loop_292 : decode cX8_loop 292 = .ok (.aload_n 0, 1) := by decide +kernel
theorem dX8_loop_293 : decode cX8_loop 293 = .ok (.iload_n 3, 1) := by decide +kernel
theorem dX8_loop_294 : decode cX8_loop 294 = .ok (.putfield 97, 3) := by decide +kernel
theorem dX8_loop_297 : decode cX8_loop 297 = .ok (.iload 4, 2) := by decide +kernel
theorem dX8_loop_299 : decode cX8_loop 299 = .ok (.ireturn, 1) := by decide +kernel
theorem dX8_pieces_0 : decode cX8_pieces 0 = .ok (.aload_n 0, 1) := by decide +kernel
theorem dX8_pieces_1 : decode cX8_pieces 1 = .ok (.iconst 0, 1) := by decide +kernel
theorem dX8_pieces_2 : decode cX8_pieces 2 = .ok (.invokevirtual 124, 3) := by decide +kernel
theorem dX8_pieces_5 : decode cX8_pieces 5 = .ok (.l2i, 1) := by decide +kernel
theorem dX8_pieces_6 : decode cX8_pieces 6 = .ok (.istore_n 1, 1) := by decide +kernel
theorem dX8_pieces_7 : decode cX8_pieces 7 = .ok (.iconst 0, 1) := by decide +kernel
theorem dX8_pieces_8 : decode cX8_pieces 8 = .ok (.istore_n 2, 1) := by decide +kernel
theorem dX8_pieces_9 : decode cX8_pieces 9 = .ok (.iload_n 2, 1) := by decide +kernel
theorem dX8_pieces_10 : decode cX8_pieces 10 = .ok (.iload_n 1, 1) := by decide +kernel
theorem dX8_pieces_11 : decode cX8_pieces 11 = .ok (.if_icmp .ge 45, 3) := by decide +kernel
theorem dX8_pieces_14 : decode cX8_pieces 14 = .ok (.aload_n 0, 1) := by decide +kernel
theorem dX8_pieces_15 : decode cX8_pieces 15 = .ok (.getfield 62, 3) := by decide +kernel
theorem dX8_pieces_18 : decode cX8_pieces 18 = .ok (.iload_n 2, 1) := by decide +kernel
theorem dX8_pieces_19 : decode cX8_pieces 19 = .ok (.aload_n 0, 1) := by decide +kernel
theorem dX8_pieces_20 : decode cX8_pieces 20 = .ok (.aload_n 0, 1) := by decide +kernel
theorem dX8_pieces_21 : decode cX8_pieces 21 = .ok (.getfield 26, 3) := by decide +kernel
theorem dX8_pieces_24 : decode cX8_pieces 24 = .ok (.iload_n 2, 1) := by decide +kernel
theorem dX8_pieces_25 : decode cX8_pieces 25 = .ok (.i2l, 1) := by decide +kernel
theorem dX8_pieces_26 : decode cX8_pieces 26 = .ok (.lconst 0, 1) := by decide +kernel
theorem dX8_pieces_27 : decode cX8_pieces 27 = .ok (.invokevirtual 135, 3) := by decide +kernel
theorem dX8_pieces_30 : decode cX8_pieces 30 = .ok (.iastore, 1) := by decide +kernel
theorem dX8_pieces_31 : decode cX8_pieces 31 = .ok (.aload_n 0, 1) := by decide +kernel
theorem dX8_pieces_32 : decode cX8_pieces 32 = .ok (.iload_n 2, 1) := by decide +kernel
theorem dX8_pieces_33 : decode cX8_pieces 33 = .ok (.i2l, 1) := by decide +kernel
theorem dX8_pieces_34 : decode cX8_pieces 34 = .ok (.lconst 0, 1) := by decide +kernel
theorem dX8_pieces_35 : decode cX8_pieces 35 = .ok (.iconst 0, 1) := by decide +kernel
theorem dX8_pieces_36 : decode cX8_pieces 36 = .ok (.invokevirtual 163, 3) := by decide +kernel
theorem dX8_pieces_39 : decode cX8_pieces 39 = .ok (.aload_n 0, 1) := by decide +kernel
theorem dX8_pieces_40 : decode cX8_pieces 40 = .ok (.getfield 59, 3) := by decide +kernel
theorem dX8_pieces_43 : decode cX8_pieces 43 = .ok (.iload_n 2, 1) := by decide +kernel
theorem dX8_pieces_44 : decode cX8_pieces 44 = .ok (.aload_n 0, 1) := by decide +kernel
theorem dX8_pieces_45 : decode cX8_pieces 45 = .ok (.getfield 139, 3) := by decide +kernel
theorem dX8_pieces_48 : decode cX8_pieces 48 = .ok (.l2i, 1) := by decide +kernel
theorem dX8_pieces_49 : decode cX8_pieces 49 = .ok (.iastore, 1) := by decide +kernel
theorem dX8_pieces_50 : decode cX8_pieces 50 = .ok (.iinc 2 1, 3) := by decide +kernel
theorem dX8_pieces_53 : decode cX8_pieces 53 = .ok (.goto (-44), 3) := by decide +kernel
theorem dX8_pieces_56 : decode cX8_pieces 56 = .ok (.iload_n 1, 1) := by decide +kernel
theorem dX8_pieces_57 : decode cX8_pieces 57 = .ok (.ireturn, 1) := by decide +kernel
theorem dX8_isJoined_0 : decode cX8_isJoined 0 = .ok (.iload_n 1, 1) := by decide +kernel
theorem dX8_isJoined_1 : decode cX8_isJoined 1 = .ok (.istore_n 3, 1) := by decide +kernel
theorem dX8_isJoined_2 : decode cX8_isJoined 2 = .ok (.iconst 1, 1) := by decide +kernel
theorem dX8_isJoined_3 : decode cX8_isJoined 3 = .ok (.istore 4, 2) := by decide +kernel
theorem dX8_isJoined_5 : decode cX8_isJoined 5 = .ok (.iload 4, 2) := by decide +kernel
theorem dX8_isJoined_7 : decode cX8_isJoined 7 = .ok (.ifCond .ne 8, 3) := by decide +kernel
theorem dX8_isJoined_10 : decode cX8_isJoined 10 = .ok (.iload_n 3, 1) := by decide +kernel
theorem dX8_isJoined_11 : decode cX8_isJoined 11 = .ok (.iload_n 1, 1) := by decide +kernel
theorem dX8_isJoined_12 : decode cX8_isJoined 12 = .ok (.if_icmp .eq 42, 3) := by decide +kernel
theorem dX8_isJoined_15 : decode cX8_isJoined 15 = .ok (.iconst 0, 1) := by decide +kernel
theorem dX8_isJoined_16 : decode cX8_isJoined 16 = .ok (.istore 4, 2) := by decide +kernel
theorem dX8_isJoined_18 : decode cX8_isJoined 18 = .ok (.iload_n 3, 1) := by decide +kernel
theorem dX8_isJoined_19 : decode cX8_isJoined 19 = .ok (.iconst 1, 1) := by decide +kernel
theorem dX8_isJoined_20 : decode cX8_isJoined 20 = .ok (.iadd, 1) := by decide +kernel
theorem dX8_isJoined_21 : decode cX8_isJoined 21 = .ok (.iload_n 2, 1) := by decide +kernel
theorem dX8_isJoined_22 : decode cX8_isJoined 22 = .ok (.if_icmp .ge 20, 3) := by decide +kernel
theorem dX8_isJoined_25 : decode cX8_isJoined 25 = .ok (.aload_n 0, 1) := by decide +kernel
theorem dX8_isJoined_26 : decode cX8_isJoined 26 = .ok (.getfield 62, 3) := by decide +kernel
theorem dX8_isJoined_29 : decode cX8_isJoined 29 = .ok (.iload_n 3, 1) := by decide +kernel
theorem dX8_isJoined_30 : decode cX8_isJoined 30 = .ok (.iaload, 1) := by decide +kernel
theorem dX8_isJoined_31 : decode cX8_isJoined 31 = .ok (.aload_n 0, 1) := by decide +kernel
theorem dX8_isJoined_32 : decode cX8_isJoined 32 = .ok (.getfield 62, 3) := by decide +kernel
theorem dX8_isJoined_35 : decode cX8_isJoined 35 = .ok (.iload_n 3, 1) := by decide +kernel
theorem dX8_isJoined_36 : decode cX8_isJoined 36 = .ok (.iconst 1, 1) := by decide +kernel
theorem dX8_isJoined_37 : decode cX8_isJoined 37 = .ok (.iadd, 1) := by decide +kernel
theorem dX8_isJoined_38 : decode cX8_isJoined 38 = .ok (.iaload, 1) := by decide +kernel
theorem dX8_isJoined_39 : decode cX8_isJoined 39 = .ok (.if_icmp .eq 5, 3) := by decide +kernel
theorem dX8_isJoined_42 : decode cX8_isJoined 42 = .ok (.iconst 0, 1) := by decide +kernel
theorem dX8_isJoined_43 : decode cX8_isJoined 43 = .ok (.ireturn, 1) := by decide +kernel
theorem dX8_isJoined_44 : decode cX8_isJoined 44 = .ok (.aload_n 0, 1) := by decide +kernel
theorem dX8_isJoined_45 : decode cX8_isJoined 45 = .ok (.getfield 59, 3) := by decide +kernel
theorem dX8_isJoined_48 : decode cX8_isJoined 48 = .ok (.iload_n 3, 1) := by decide +kernel
theorem dX8_isJoined_49 : decode cX8_isJoined 49 = .ok (.iaload, 1) := by decide +kernel
theorem dX8_isJoined_50 : decode cX8_isJoined 50 = .ok (.istore_n 3, 1) := by decide +kernel
theorem dX8_isJoined_51 : decode cX8_isJoined 51 = .ok (.goto (-46), 3) := by decide +kernel
theorem dX8_isJoined_54 : decode cX8_isJoined 54 = .ok (.iconst 1, 1) := by decide +kernel
theorem dX8_isJoined_55 : decode cX8_isJoined 55 = .ok (.ireturn, 1) := by decide +kernel
theorem dX8_rounds_0 : decode cX8_rounds 0 = .ok (.aload_n 0, 1) := by decide +kernel
theorem dX8_rounds_1 : decode cX8_rounds 1 = .ok (.getfield 94, 3) := by decide +kernel
theorem dX8_rounds_4 : decode cX8_rounds 4 = .ok (.ifCond .ne 5, 3) := by decide +kernel
theorem dX8_rounds_7 : decode cX8_rounds 7 = .ok (.iconst (-1), 1) := by decide +kernel
theorem dX8_rounds_8 : decode cX8_rounds 8 = .ok (.ireturn, 1) := by decide +kernel
theorem dX8_rounds_9 : decode cX8_rounds 9 = .ok (.aload_n 0, 1) := by decide +kernel
theorem dX8_rounds_10 : decode cX8_rounds 10 = .ok (.getfield 87, 3) := by decide +kernel
theorem dX8_rounds_13 : decode cX8_rounds 13 = .ok (.ifCond .ne 15, 3) := by decide +kernel
theorem dX8_rounds_16 : decode cX8_rounds 16 = .ok (.aload_n 0, 1) := by decide +kernel
theorem dX8_rounds_17 : decode cX8_rounds 17 = .ok (.iconst 0, 1) := by decide +kernel
theorem dX8_rounds_18 : decode cX8_rounds 18 = .ok (.invokevirtual 124, 3) := by decide +kernel
theorem dX8_rounds_21 : decode cX8_rounds 21 = .ok (.ldc2_w 188, 3) := by decide +kernel
theorem dX8_rounds_24 : decode cX8_rounds 24 = .ok (.lcmp, 1) := by decide +kernel
theorem dX8_rounds_25 : decode cX8_rounds 25 = .ok (.ifCond .le 6, 3) := by decide +kernel
theorem dX8_rounds_28 : decode cX8_rounds 28 = .ok (.bipush (-2), 2) := by decide +kernel
theorem dX8_rounds_30 : decode cX8_rounds 30 = .ok (.ireturn, 1) := by decide +kernel
theorem dX8_rounds_31 : decode cX8_rounds 31 = .ok (.aload_n 0, 1) := by decide +kernel
theorem dX8_rounds_32 : decode cX8_rounds 32 = .ok (.invokevirtual 190, 3) := by decide +kernel
theorem dX8_rounds_35 : decode cX8_rounds 35 = .ok (.istore_n 1, 1) := by decide +kernel
theorem dX8_rounds_36 : decode cX8_rounds 36 = .ok (.iconst 0, 1) := by decide +kernel
theorem dX8_rounds_37 : decode cX8_rounds 37 = .ok (.istore_n 2, 1) := by decide +kernel
theorem dX8_rounds_38 : decode cX8_rounds 38 = .ok (.iload_n 2, 1) := by decide +kernel
theorem dX8_rounds_39 : decode cX8_rounds 39 = .ok (.iload_n 1, 1) := by decide +kernel
theorem dX8_rounds_40 : decode cX8_rounds 40 = .ok (.if_icmp .ge 16, 3) := by decide +kernel
theorem dX8_rounds_43 : decode cX8_rounds 43 = .ok (.aload_n 0, 1) := by decide +kernel
theorem dX8_rounds_44 : decode cX8_rounds 44 = .ok (.getfield 65, 3) := by decide +kernel
theorem dX8_rounds_47 : decode cX8_rounds 47 = .ok (.iload_n 2, 1) := by decide +kernel
theorem dX8_rounds_48 : decode cX8_rounds 48 = .ok (.iconst 0, 1) := by decide +kernel
theorem dX8_rounds_49 : decode cX8_rounds 49 = .ok (.bastore, 1) := by decide +kernel
theorem dX8_rounds_50 : decode cX8_rounds 50 = .ok (.iinc 2 1, 3) := by decide +kernel
theorem dX8_rounds_53 : decode cX8_rounds 53 = .ok (.goto (-15), 3) := by decide +kernel
theorem dX8_rounds_56 : decode cX8_rounds 56 = .ok (.aload_n 0, 1) := by decide +kernel
theorem dX8_rounds_57 : decode cX8_rounds 57 = .ok (.iconst 0, 1) := by decide +kernel
theorem dX8_rounds_58 : decode cX8_rounds 58 = .ok (.putfield 193, 3) := by decide +kernel
theorem dX8_rounds_61 : decode cX8_rounds 61 = .ok (.iconst 0, 1) := by decide +kernel
theorem dX8_rounds_62 : decode cX8_rounds 62 = .ok (.istore_n 2, 1) := by decide +kernel
theorem dX8_rounds_63 : decode cX8_rounds 63 = .ok (.iload_n 2, 1) := by decide +kernel
theorem dX8_rounds_64 : decode cX8_rounds 64 = .ok (.iload_n 1, 1) := by decide +kernel
theorem dX8_rounds_65 : decode cX8_rounds 65 = .ok (.if_icmp .ge 170, 3) := by decide +kernel
theorem dX8_rounds_68 : decode cX8_rounds 68 = .ok (.aload_n 0, 1) := by decide +kernel
theorem dX8_rounds_69 : decode cX8_rounds 69 = .ok (.getfield 65, 3) := by decide +kernel
theorem dX8_rounds_72 : decode cX8_rounds 72 = .ok (.iload_n 2, 1) := by decide +kernel
theorem dX8_rounds_73 : decode cX8_rounds 73 = .ok (.baload, 1) := by decide +kernel
theorem dX8_rounds_74 : decode cX8_rounds 74 = .ok (.ifCond .eq 6, 3) := by decide +kernel
theorem dX8_rounds_77 : decode cX8_rounds 77 = .ok (.goto 152, 3) := by decide +kernel
theorem dX8_rounds_80 : decode cX8_rounds 80 = .ok (.iload_n 2, 1) := by decide +kernel
theorem dX8_rounds_81 : decode cX8_rounds 81 = .ok (.istore_n 3, 1) := by decide +kernel
theorem dX8_rounds_82 : decode cX8_rounds 82 = .ok (.iload_n 3, 1) := by decide +kernel
theorem dX8_rounds_83 : decode cX8_rounds 83 = .ok (.ifCond .le 20, 3) := by decide +kernel
theorem dX8_rounds_86 : decode cX8_rounds 86 = .ok (.aload_n 0, 1) := by decide +kernel
theorem dX8_rounds_87 : decode cX8_rounds 87 = .ok (.iload_n 3, 1) := by decide +kernel
theorem dX8_rounds_88 : decode cX8_rounds 88 = .ok (.iconst 1, 1) := by decide +kernel
theorem dX8_rounds_89 : decode cX8_rounds 89 = .ok (.isub, 1) := by decide +kernel
theorem dX8_rounds_90 : decode cX8_rounds 90 = .ok (.iload_n 1, 1) := by decide +kernel
theorem dX8_rounds_91 : decode cX8_rounds 91 = .ok (.invokevirtual 196, 3) := by decide +kernel
theorem dX8_rounds_94 : decode cX8_rounds 94 = .ok (.ifCond .eq 9, 3) := by decide +kernel
theorem dX8_rounds_97 : decode cX8_rounds 97 = .ok (.iinc 3 (-1), 3) := by decide +kernel
theorem dX8_rounds_100 : decode cX8_rounds 100 = .ok (.goto (-18), 3) := by decide +kernel
theorem dX8_rounds_103 : decode cX8_rounds 103 = .ok (.iload_n 3, 1) := by decide +kernel
theorem dX8_rounds_104 : decode cX8_rounds 104 = .ok (.istore 4, 2) := by decide +kernel
theorem dX8_rounds_106 : decode cX8_rounds 106 = .ok (.aload_n 0, 1) := by decide +kernel
theorem dX8_rounds_107 : decode cX8_rounds 107 = .ok (.iload 4, 2) := by decide +kernel
theorem dX8_rounds_109 : decode cX8_rounds 109 = .ok (.iload_n 1, 1) := by decide +kernel
theorem dX8_rounds_110 : decode cX8_rounds 110 = .ok (.invokevirtual 196, 3) := by decide +kernel
theorem dX8_rounds_113 : decode cX8_rounds 113 = .ok (.ifCond .eq 9, 3) := by decide +kernel
theorem dX8_rounds_116 : decode cX8_rounds 116 = .ok (.iinc 4 1, 3) := by decide +kernel
theorem dX8_rounds_119 : decode cX8_rounds 119 = .ok (.goto (-13), 3) := by decide +kernel
theorem dX8_rounds_122 : decode cX8_rounds 122 = .ok (.iconst 0, 1) := by decide +kernel
theorem dX8_rounds_123 : decode cX8_rounds 123 = .ok (.istore 5, 2) := by decide +kernel
theorem dX8_rounds_125 : decode cX8_rounds 125 = .ok (.iload_n 3, 1) := by decide +kernel
theorem dX8_rounds_126 : decode cX8_rounds 126 = .ok (.istore 6, 2) := by decide +kernel
theorem dX8_rounds_128 : decode cX8_rounds 128 = .ok (.iload 6, 2) := by decide +kernel
theorem dX8_rounds_130 : decode cX8_rounds 130 = .ok (.iload 4, 2) := by decide +kernel
theorem dX8_rounds_132 : decode cX8_rounds 132 = .ok (.if_icmp .gt 51, 3) := by decide +kernel
theorem dX8_rounds_135 : decode cX8_rounds 135 = .ok (.iload 6, 2) := by decide +kernel
theorem dX8_rounds_137 : decode cX8_rounds 137 = .ok (.istore 7, 2) := by decide +kernel
theorem dX8_rounds_139 : decode cX8_rounds 139 = .ok (.iconst 0, 1) := by decide +kernel
theorem dX8_rounds_140 : decode cX8_rounds 140 = .ok (.istore 5, 2) := by decide +kernel
theorem dX8_rounds_142 : decode cX8_rounds 142 = .ok (.iload 5, 2) := by decide +kernel
theorem dX8_rounds_144 : decode cX8_rounds 144 = .ok (.ifCond .eq 10, 3) := by decide +kernel
theorem dX8_rounds_147 : decode cX8_rounds 147 = .ok (.iload 7, 2) := by decide +kernel
theorem dX8_rounds_149 : decode cX8_rounds 149 = .ok (.iload 6, 2) := by decide +kernel
theorem dX8_rounds_151 : decode cX8_rounds 151 = .ok (.if_icmp .eq 26, 3) := by decide +kernel
theorem dX8_rounds_154 : decode cX8_rounds 154 = .ok (.aload_n 0, 1) := by decide +kernel
theorem dX8_rounds_155 : decode cX8_rounds 155 = .ok (.getfield 65, 3) := by decide +kernel
theorem dX8_rounds_158 : decode cX8_rounds 158 = .ok (.iload 7, 2) := by decide +kernel
theorem dX8_rounds_160 : decode cX8_rounds 160 = .ok (.iconst 1, 1) := by decide +kernel
theorem dX8_rounds_161 : decode cX8_rounds 161 = .ok (.bastore, 1) := by decide +kernel
theorem dX8_rounds_162 : decode cX8_rounds 162 = .ok (.aload_n 0, 1) := by decide +kernel
theorem dX8_rounds_163 : decode cX8_rounds 163 = .ok (.getfield 59, 3) := by decide +kernel
theorem dX8_rounds_166 : decode cX8_rounds 166 = .ok (.iload 7, 2) := by decide +kernel
theorem dX8_rounds_168 : decode cX8_rounds 168 = .ok (.iaload, 1) := by decide +kernel
theorem dX8_rounds_169 : decode cX8_rounds 169 = .ok (.istore 7, 2) := by decide +kernel
theorem dX8_rounds_171 : decode cX8_rounds 171 = .ok (.iinc 5 1, 3) := by decide +kernel
theorem dX8_rounds_174 : decode cX8_rounds 174 = .ok (.goto (-32), 3) := by decide +kernel
theorem dX8_rounds_177 : decode cX8_rounds 177 = .ok (.iinc 6 1, 3) := by decide +kernel
theorem dX8_rounds_180 : decode cX8_rounds 180 = .ok (.goto (-52), 3) := by decide +kernel
theorem dX8_rounds_183 : decode cX8_rounds 183 = .ok (.aload_n 0, 1) := by decide +kernel
theorem dX8_rounds_184 : decode cX8_rounds 184 = .ok (.getfield 50, 3) := by decide +kernel
theorem dX8_rounds_187 : decode cX8_rounds 187 = .ok (.aload_n 0, 1) := by decide +kernel
theorem dX8_rounds_188 : decode cX8_rounds 188 = .ok (.getfield 193, 3) := by decide +kernel
theorem dX8_rounds_191 : decode cX8_rounds 191 = .ok (.iload 4, 2) := by decide +kernel
theorem dX8_rounds_193 : decode cX8_rounds 193 = .ok (.iload_n 3, 1) := by decide +kernel
theorem dX8_rounds_194 : decode cX8_rounds 194 = .ok (.isub, 1) := by decide +kernel
theorem dX8_rounds_195 : decode cX8_rounds 195 = .ok (.iconst 1, 1) := by decide +kernel
theorem dX8_rounds_196 : decode cX8_rounds 196 = .ok (.iadd, 1) := by decide +kernel
theorem dX8_rounds_197 : decode cX8_rounds 197 = .ok (.iastore, 1) := by decide +kernel
theorem dX8_rounds_198 : decode cX8_rounds 198 = .ok (.aload_n 0, 1) := by decide +kernel
theorem dX8_rounds_199 : decode cX8_rounds 199 = .ok (.getfield 53, 3) := by decide +kernel
theorem dX8_rounds_202 : decode cX8_rounds 202 = .ok (.aload_n 0, 1) := by decide +kernel
theorem dX8_rounds_203 : decode cX8_rounds 203 = .ok (.getfield 193, 3) := by decide +kernel
theorem dX8_rounds_206 : decode cX8_rounds 206 = .ok (.iload 5, 2) := by decide +kernel
theorem dX8_rounds_208 : decode cX8_rounds 208 = .ok (.iastore, 1) := by decide +kernel
theorem dX8_rounds_209 : decode cX8_rounds 209 = .ok (.aload_n 0, 1) := by decide +kernel
theorem dX8_rounds_210 : decode cX8_rounds 210 = .ok (.getfield 56, 3) := by decide +kernel
theorem dX8_rounds_213 : decode cX8_rounds 213 = .ok (.aload_n 0, 1) := by decide +kernel
theorem dX8_rounds_214 : decode cX8_rounds 214 = .ok (.getfield 193, 3) := by decide +kernel
theorem dX8_rounds_217 : decode cX8_rounds 217 = .ok (.iload_n 2, 1) := by decide +kernel
theorem dX8_rounds_218 : decode cX8_rounds 218 = .ok (.iastore, 1) := by decide +kernel
theorem dX8_rounds_219 : decode cX8_rounds 219 = .ok (.aload_n 0, 1) := by decide +kernel
theorem dX8_rounds_220 : decode cX8_rounds 220 = .ok (.dup, 1) := by decide +kernel
theorem dX8_rounds_221 : decode cX8_rounds 221 = .ok (.getfield 193, 3) := by decide +kernel
theorem dX8_rounds_224 : decode cX8_rounds 224 = .ok (.iconst 1, 1) := by decide +kernel
theorem dX8_rounds_225 : decode cX8_rounds 225 = .ok (.iadd, 1) := by decide +kernel
theorem dX8_rounds_226 : decode cX8_rounds 226 = .ok (.putfield 193, 3) := by decide +kernel
theorem dX8_rounds_229 : decode cX8_rounds 229 = .ok (.iinc 2 1, 3) := by decide +kernel
theorem dX8_rounds_232 : decode cX8_rounds 232 = .ok (.goto (-169), 3) := by decide +kernel
theorem dX8_rounds_235 : decode cX8_rounds 235 = .ok (.aload_n 0, 1) := by decide +kernel
theorem dX8_rounds_236 : decode cX8_rounds 236 = .ok (.getfield 193, 3) := by decide +kernel
theorem dX8_rounds_239 : decode cX8_rounds 239 = .ok (.ireturn, 1) := by decide +kernel
theorem dX8_round_0 : decode cX8_round 0 = .ok (.iload_n 1, 1) := by decide +kernel
theorem dX8_round_1 : decode cX8_round 1 = .ok (.ifCond .lt 11, 3) := by decide +kernel
theorem dX8_round_4 : decode cX8_round 4 = .ok (.iload_n 1, 1) := by decide +kernel
theorem dX8_round_5 : decode cX8_round 5 = .ok (.aload_n 0, 1) := by decide +kernel
theorem dX8_round_6 : decode cX8_round 6 = .ok (.getfield 193, 3) := by decide +kernel
theorem dX8_round_9 : decode cX8_round 9 = .ok (.if_icmp .lt 5, 3) := by decide +kernel
theorem dX8_round_12 : decode cX8_round 12 = .ok (.iconst (-1), 1) := by decide +kernel
theorem dX8_round_13 : decode cX8_round 13 = .ok (.ireturn, 1) := by decide +kernel
theorem dX8_round_14 : decode cX8_round 14 = .ok (.iload_n 2, 1) := by decide +kernel
theorem dX8_round_15 : decode cX8_round 15 = .ok (.ifCond .ne 12, 3) := by decide +kernel
theorem dX8_round_18 : decode cX8_round 18 = .ok (.aload_n 0, 1) := by decide +kernel
theorem dX8_round_19 : decode cX8_round 19 = .ok (.getfield 50, 3) := by decide +kernel
theorem dX8_round_22 : decode cX8_round 22 = .ok (.iload_n 1, 1) := by decide +kernel
theorem dX8_round_23 : decode cX8_round 23 = .ok (.iaload, 1) := by decide +kernel
theorem dX8_round_24 : decode cX8_round 24 = .ok (.goto 32, 3) := by decide +kernel
theorem dX8_round_27 : decode cX8_round 27 = .ok (.iload_n 2, 1) := by decide +kernel
theorem dX8_round_28 : decode cX8_round 28 = .ok (.iconst 1, 1) := by decide +kernel
theorem dX8_round_29 : decode cX8_round 29 = .ok (.if_icmp .ne 12, 3) := by decide +kernel
theorem dX8_round_32 : decode cX8_round 32 = .ok (.aload_n 0, 1) := by decide +kernel
theorem dX8_round_33 : decode cX8_round 33 = .ok (.getfield 53, 3) := by decide +kernel
theorem dX8_round_36 : decode cX8_round 36 = .ok (.iload_n 1, 1) := by decide +kernel
theorem dX8_round_37 : decode cX8_round 37 = .ok (.iaload, 1) := by decide +kernel
theorem dX8_round_38 : decode cX8_round 38 = .ok (.goto 18, 3) := by decide +kernel
theorem dX8_round_41 : decode cX8_round 41 = .ok (.iload_n 2, 1) := by decide +kernel
theorem dX8_round_42 : decode cX8_round 42 = .ok (.iconst 2, 1) := by decide +kernel
theorem dX8_round_43 : decode cX8_round 43 = .ok (.if_icmp .ne 12, 3) := by decide +kernel
theorem dX8_round_46 : decode cX8_round 46 = .ok (.aload_n 0, 1) := by decide +kernel
theorem dX8_round_47 : decode cX8_round 47 = .ok (.getfield 56, 3) := by decide +kernel
theorem dX8_round_50 : decode cX8_round 50 = .ok (.iload_n 1, 1) := by decide +kernel
theorem dX8_round_51 : decode cX8_round 51 = .ok (.iaload, 1) := by decide +kernel
theorem dX8_round_52 : decode cX8_round 52 = .ok (.goto 4, 3) := by decide +kernel
theorem dX8_round_55 : decode cX8_round 55 = .ok (.iconst (-1), 1) := by decide +kernel
theorem dX8_round_56 : decode cX8_round 56 = .ok (.ireturn, 1) := by decide +kernel
theorem dX8_words_0 : decode cX8_words 0 = .ok (.aload_n 0, 1) := by decide +kernel
theorem dX8_words_1 : decode cX8_words 1 = .ok (.getfield 94, 3) := by decide +kernel
theorem dX8_words_4 : decode cX8_words 4 = .ok (.ifCond .ne 5, 3) := by decide +kernel
theorem dX8_words_7 : decode cX8_words 7 = .ok (.iconst (-1), 1) := by decide +kernel
theorem dX8_words_8 : decode cX8_words 8 = .ok (.ireturn, 1) := by decide +kernel
theorem dX8_words_9 : decode cX8_words 9 = .ok (.iload_n 1, 1) := by decide +kernel
theorem dX8_words_10 : decode cX8_words 10 = .ok (.iconst 1, 1) := by decide +kernel
theorem dX8_words_11 : decode cX8_words 11 = .ok (.if_icmp .lt 9, 3) := by decide +kernel
theorem dX8_words_14 : decode cX8_words 14 = .ok (.iload_n 1, 1) := by decide +kernel
theorem dX8_words_15 : decode cX8_words 15 = .ok (.bipush 10, 2) := by decide +kernel
theorem dX8_words_17 : decode cX8_words 17 = .ok (.if_icmp .le 6, 3) := by decide +kernel
theorem dX8_words_20 : decode cX8_words 20 = .ok (.bipush (-2), 2) := by decide +kernel
theorem dX8_words_22 : decode cX8_words 22 = .ok (.ireturn, 1) := by decide +kernel
theorem dX8_words_23 : decode cX8_words 23 = .ok (.iconst 0, 1) := by decide +kernel
theorem dX8_words_24 : decode cX8_words 24 = .ok (.istore_n 2, 1) := by decide +kernel
theorem dX8_words_25 : decode cX8_words 25 = .ok (.lconst 0, 1) := by decide +kernel
theorem dX8_words_26 : decode cX8_words 26 = .ok (.lstore_n 3, 1) := by decide +kernel
theorem dX8_words_27 : decode cX8_words 27 = .ok (.lconst 0, 1) := by decide +kernel
theorem dX8_words_28 : decode cX8_words 28 = .ok (.lstore 5, 2) := by decide +kernel
theorem dX8_words_30 : decode cX8_words 30 = .ok (.iconst 0, 1) := by decide +kernel
theorem dX8_words_31 : decode cX8_words 31 = .ok (.istore 7, 2) := by decide +kernel
theorem dX8_words_33 : decode cX8_words 33 = .ok (.iload 7, 2) := by decide +kernel
theorem dX8_words_35 : decode cX8_words 35 = .ok (.iconst 1, 1) := by decide +kernel
theorem dX8_words_36 : decode cX8_words 36 = .ok (.iadd, 1) := by decide +kernel
theorem dX8_words_37 : decode cX8_words 37 = .ok (.aload_n 0, 1) := by decide +kernel
theorem dX8_words_38 : decode cX8_words 38 = .ok (.getfield 94, 3) := by decide +kernel
theorem dX8_words_41 : decode cX8_words 41 = .ok (.if_icmp .ge 190, 3) := by decide +kernel
theorem dX8_words_44 : decode cX8_words 44 = .ok (.lload_n 3, 1) := by decide +kernel
theorem dX8_words_45 : decode cX8_words 45 = .ok (.aload_n 0, 1) := by decide +kernel
theorem dX8_words_46 : decode cX8_words 46 = .ok (.getfield 19, 3) := by decide +kernel
theorem dX8_words_49 : decode cX8_words 49 = .ok (.aload_n 0, 1) := by decide +kernel
theorem dX8_words_50 : decode cX8_words 50 = .ok (.getfield 26, 3) := by decide +kernel
theorem dX8_words_53 : decode cX8_words 53 = .ok (.iload 7, 2) := by decide +kernel
theorem dX8_words_55 : decode cX8_words 55 = .ok (.iaload, 1) := by decide +kernel
theorem dX8_words_56 : decode cX8_words 56 = .ok (.laload, 1) := by decide +kernel
theorem dX8_words_57 : decode cX8_words 57 = .ok (.ladd, 1) := by decide +kernel
theorem dX8_words_58 : decode cX8_words 58 = .ok (.lstore_n 3, 1) := by decide +kernel
theorem dX8_words_59 : decode cX8_words 59 = .ok (.lload 5, 2) := by decide +kernel
theorem dX8_words_61 : decode cX8_words 61 = .ok (.aload_n 0, 1) := by decide +kernel
theorem dX8_words_62 : decode cX8_words 62 = .ok (.getfield 23, 3) := by decide +kernel
theorem dX8_words_65 : decode cX8_words 65 = .ok (.aload_n 0, 1) := by decide +kernel
theorem dX8_words_66 : decode cX8_words 66 = .ok (.getfield 26, 3) := by decide +kernel
theorem dX8_words_69 : decode cX8_words 69 = .ok (.iload 7, 2) := by decide +kernel
theorem dX8_words_71 : decode cX8_words 71 = .ok (.iaload, 1) := by decide +kernel
theorem dX8_words_72 : decode cX8_words 72 = .ok (.laload, 1) := by decide +kernel
theorem dX8_words_73 : decode cX8_words 73 = .ok (.ladd, 1) := by decide +kernel
theorem dX8_words_74 : decode cX8_words 74 = .ok (.lstore 5, 2) := by decide +kernel
theorem dX8_words_76 : decode cX8_words 76 = .ok (.lload_n 3, 1) := by decide +kernel
theorem dX8_words_77 : decode cX8_words 77 = .ok (.lstore 8, 2) := by decide +kernel
theorem dX8_words_79 : decode cX8_words 79 = .ok (.lload 5, 2) := by decide +kernel
theorem dX8_words_81 : decode cX8_words 81 = .ok (.lstore 10, 2) := by decide +kernel
theorem dX8_words_83 : decode cX8_words 83 = .ok (.iconst 0, 1) := by decide +kernel
theorem dX8_words_84 : decode cX8_words 84 = .ok (.istore 12, 2) := by decide +kernel
theorem dX8_words_86 : decode cX8_words 86 = .ok (.iload 12, 2) := by decide +kernel
theorem dX8_words_88 : decode cX8_words 88 = .ok (.iload_n 1, 1) := by decide +kernel
theorem dX8_words_89 : decode cX8_words 89 = .ok (.if_icmp .ge 136, 3) := by decide +kernel
theorem dX8_words_92 : decode cX8_words 92 = .ok (.iload 12, 2) := by decide +kernel
theorem dX8_words_94 : decode cX8_words 94 = .ok (.ifCond .le 24, 3) := by decide +kernel
theorem dX8_words_97 : decode cX8_words 97 = .ok (.aload_n 0, 1) := by decide +kernel
theorem dX8_words_98 : decode cX8_words 98 = .ok (.lload 8, 2) := by decide +kernel
theorem dX8_words_100 : decode cX8_words 100 = .ok (.lload 10, 2) := by decide +kernel
theorem dX8_words_102 : decode cX8_words 102 = .ok (.iconst 1, 1) := by decide +kernel
theorem dX8_words_103 : decode cX8_words 103 = .ok (.invokevirtual 163, 3) := by decide +kernel
theorem dX8_words_106 : decode cX8_words 106 = .ok (.aload_n 0, 1) := by decide +kernel
theorem dX8_words_107 : decode cX8_words 107 = .ok (.getfield 139, 3) := by decide +kernel
theorem dX8_words_110 : decode cX8_words 110 = .ok (.lstore 8, 2) := by decide +kernel
theorem dX8_words_112 : decode cX8_words 112 = .ok (.aload_n 0, 1) := by decide +kernel
theorem dX8_words_113 : decode cX8_words 113 = .ok (.getfield 142, 3) := by decide +kernel
theorem dX8_words_116 : decode cX8_words 116 = .ok (.lstore 10, 2) := by decide +kernel
theorem dX8_words_118 : decode cX8_words 118 = .ok (.lload 8, 2) := by decide +kernel
theorem dX8_words_120 : decode cX8_words 120 = .ok (.lconst 0, 1) := by decide +kernel
theorem dX8_words_121 : decode cX8_words 121 = .ok (.lcmp, 1) := by decide +kernel
theorem dX8_words_122 : decode cX8_words 122 = .ok (.ifCond .ne 14, 3) := by decide +kernel
theorem dX8_words_125 : decode cX8_words 125 = .ok (.lload 10, 2) := by decide +kernel
theorem dX8_words_127 : decode cX8_words 127 = .ok (.lconst 0, 1) := by decide +kernel
theorem dX8_words_128 : decode cX8_words 128 = .ok (.lcmp, 1) := by decide +kernel
theorem dX8_words_129 : decode cX8_words 129 = .ok (.ifCond .ne 7, 3) := by decide +kernel
theorem dX8_words_132 : decode cX8_words 132 = .ok (.iconst 1, 1) := by decide +kernel
theorem dX8_words_133 : decode cX8_words 133 = .ok (.goto 4, 3) := by decide +kernel
theorem dX8_words_136 : decode cX8_words 136 = .ok (.iconst 0, 1) := by decide +kernel
theorem dX8_words_137 : decode cX8_words 137 = .ok (.istore 13, 2) := by decide +kernel
theorem dX8_words_139 : decode cX8_words 139 = .ok (.iconst 0, 1) := by decide +kernel
theorem dX8_words_140 : decode cX8_words 140 = .ok (.istore 14, 2) := by decide +kernel
theorem dX8_words_142 : decode cX8_words 142 = .ok (.iload 14, 2) := by decide +kernel
theorem dX8_words_144 : decode cX8_words 144 = .ok (.iload_n 2, 1) := by decide +kernel
theorem dX8_words_145 : decode cX8_words 145 = .ok (.if_icmp .ge 47, 3) := by decide +kernel
theorem dX8_words_148 : decode cX8_words 148 = .ok (.iload 13, 2) := by decide +kernel
theorem dX8_words_150 : decode cX8_words 150 = .ok (.ifCond .ne 29, 3) := by decide +kernel
theorem dX8_words_153 : decode cX8_words 153 = .ok (.aload_n 0, 1) := by decide +kernel
theorem dX8_words_154 : decode cX8_words 154 = .ok (.getfield 69, 3) := by decide +kernel
theorem dX8_words_157 : decode cX8_words 157 = .ok (.iload 14, 2) := by decide +kernel
theorem dX8_words_159 : decode cX8_words 159 = .ok (.laload, 1) := by decide +kernel
theorem dX8_words_160 : decode cX8_words 160 = .ok (.lload 8, 2) := by decide +kernel
theorem dX8_words_162 : decode cX8_words 162 = .ok (.lcmp, 1) := by decide +kernel
theorem dX8_words_163 : decode cX8_words 163 = .ok (.ifCond .ne 20, 3) := by decide +kernel
theorem dX8_words_166 : decode cX8_words 166 = .ok (.aload_n 0, 1) := by decide +kernel
theorem dX8_words_167 : decode cX8_words 167 = .ok (.getfield 72, 3) := by decide +kernel
theorem dX8_words_170 : decode cX8_words 170 = .ok (.iload 14, 2) := by decide +kernel
theorem dX8_words_172 : decode cX8_words 172 = .ok (.laload, 1) := by decide +kernel
theorem dX8_words_173 : decode cX8_words 173 = .ok (.lload 10, 2) := by decide +kernel
theorem dX8_words_175 : decode cX8_words 175 = .ok (.lcmp, 1) := by decide +kernel
theorem dX8_words_176 : decode cX8_words 176 = .ok (.ifCond .ne 7, 3) := by decide +kernel
theorem dX8_words_179 : decode cX8_words 179 = .ok (.iconst 1, 1) := by decide +kernel
theorem dX8_words_180 : decode cX8_words 180 = .ok (.goto 4, 3) := by decide +kernel
theorem dX8_words_183 : decode cX8_words 183 = .ok (.iconst 0, 1) := by decide +kernel
theorem dX8_words_184 : decode cX8_words 184 = .ok (.istore 13, 2) := by decide +kernel
theorem dX8_words_186 : decode cX8_words 186 = .ok (.iinc 14 1, 3) := by decide +kernel
theorem dX8_words_189 : decode cX8_words 189 = .ok (.goto (-47), 3) := by decide +kernel
theorem dX8_words_192 : decode cX8_words 192 = .ok (.iload 13, 2) := by decide +kernel
theorem dX8_words_194 : decode cX8_words 194 = .ok (.ifCond .eq 6, 3) := by decide +kernel
theorem dX8_words_197 : decode cX8_words 197 = .ok (.goto 22, 3) := by decide +kernel
theorem dX8_words_200 : decode cX8_words 200 = .ok (.aload_n 0, 1) := by decide +kernel
theorem dX8_words_201 : decode cX8_words 201 = .ok (.getfield 69, 3) := by decide +kernel
theorem dX8_words_204 : decode cX8_words 204 = .ok (.iload_n 2, 1) := by decide +kernel
theorem dX8_words_205 : decode cX8_words 205 = .ok (.lload 8, 2) := by decide +kernel
theorem dX8_words_207 : decode cX8_words 207 = .ok (.lastore, 1) := by decide +kernel
theorem dX8_words_208 : decode cX8_words 208 = .ok (.aload_n 0, 1) := by decide +kernel
theorem dX8_words_209 : decode cX8_words 209 = .ok (.getfield 72, 3) := by decide +kernel
theorem dX8_words_212 : decode cX8_words 212 = .ok (.iload_n 2, 1) := by decide +kernel
theorem dX8_words_213 : decode cX8_words 213 = .ok (.lload 10, 2) := by decide +kernel
theorem dX8_words_215 : decode cX8_words 215 = .ok (.lastore, 1) := by decide +kernel
theorem dX8_words_216 : decode cX8_words 216 = .ok (.iinc 2 1, 3) := by decide +kernel
theorem dX8_words_219 : decode cX8_words 219 = .ok (.iinc 12 1, 3) := by decide +kernel
theorem dX8_words_222 : decode cX8_words 222 = .ok (.goto (-136), 3) := by decide +kernel
theorem dX8_words_225 : decode cX8_words 225 = .ok (.iinc 7 1, 3) := by decide +kernel
theorem dX8_words_228 : decode cX8_words 228 = .ok (.goto (-195), 3) := by decide +kernel
theorem dX8_words_231 : decode cX8_words 231 = .ok (.iload_n 2, 1) := by decide +kernel
theorem dX8_words_232 : decode cX8_words 232 = .ok (.iconst 1, 1) := by decide +kernel
theorem dX8_words_233 : decode cX8_words 233 = .ok (.iadd, 1) := by decide +kernel
theorem dX8_words_234 : decode cX8_words 234 = .ok (.ireturn, 1) := by decide +kernel
theorem dX8_numbered_0 : decode cX8_numbered 0 = .ok (.iconst 0, 1) := by decide +kernel
theorem dX8_numbered_1 : decode cX8_numbered 1 = .ok (.istore_n 1, 1) := by decide +kernel
theorem dX8_numbered_2 : decode cX8_numbered 2 = .ok (.aload_n 0, 1) := by decide +kernel
theorem dX8_numbered_3 : decode cX8_numbered 3 = .ok (.getfield 94, 3) := by decide +kernel
theorem dX8_numbered_6 : decode cX8_numbered 6 = .ok (.iconst 1, 1) := by decide +kernel
theorem dX8_numbered_7 : decode cX8_numbered 7 = .ok (.isub, 1) := by decide +kernel
theorem dX8_numbered_8 : decode cX8_numbered 8 = .ok (.istore_n 2, 1) := by decide +kernel
theorem dX8_numbered_9 : decode cX8_numbered 9 = .ok (.iload_n 2, 1) := by decide +kernel
theorem dX8_numbered_10 : decode cX8_numbered 10 = .ok (.ifCond .lt 39, 3) := by decide +kernel
theorem dX8_numbered_13 : decode cX8_numbered 13 = .ok (.iconst 0, 1) := by decide +kernel
theorem dX8_numbered_14 : decode cX8_numbered 14 = .ok (.istore_n 3, 1) := by decide +kernel
theorem dX8_numbered_15 : decode cX8_numbered 15 = .ok (.aload_n 0, 1) := by decide +kernel
theorem dX8_numbered_16 : decode cX8_numbered 16 = .ok (.getfield 78, 3) := by decide +kernel
theorem dX8_numbered_19 : decode cX8_numbered 19 = .ok (.iload_n 3, 1) := by decide +kernel
theorem dX8_numbered_20 : decode cX8_numbered 20 = .ok (.iaload, 1) := by decide +kernel
theorem dX8_numbered_21 : decode cX8_numbered 21 = .ok (.aload_n 0, 1) := by decide +kernel
theorem dX8_numbered_22 : decode cX8_numbered 22 = .ok (.getfield 81, 3) := by decide +kernel
theorem dX8_numbered_25 : decode cX8_numbered 25 = .ok (.iload_n 2, 1) := by decide +kernel
theorem dX8_numbered_26 : decode cX8_numbered 26 = .ok (.iaload, 1) := by decide +kernel
theorem dX8_numbered_27 : decode cX8_numbered 27 = .ok (.if_icmp .eq 9, 3) := by decide +kernel
theorem dX8_numbered_30 : decode cX8_numbered 30 = .ok (.iinc 3 1, 3) := by decide +kernel
theorem dX8_numbered_33 : decode cX8_numbered 33 = .ok (.goto (-18), 3) := by decide +kernel
theorem dX8_numbered_36 : decode cX8_numbered 36 = .ok (.bipush 8, 2) := by decide +kernel
theorem dX8_numbered_38 : decode cX8_numbered 38 = .ok (.iload_n 1, 1) := by decide +kernel
theorem dX8_numbered_39 : decode cX8_numbered 39 = .ok (.imul, 1) := by decide +kernel
theorem dX8_numbered_40 : decode cX8_numbered 40 = .ok (.iload_n 3, 1) := by decide +kernel
theorem dX8_numbered_41 : decode cX8_numbered 41 = .ok (.iadd, 1) := by decide +kernel
theorem dX8_numbered_42 : decode cX8_numbered 42 = .ok (.istore_n 1, 1) := by decide +kernel
theorem dX8_numbered_43 : decode cX8_numbered 43 = .ok (.iinc 2 (-1), 3) := by decide +kernel
theorem dX8_numbered_46 : decode cX8_numbered 46 = .ok (.goto (-37), 3) := by decide +kernel
theorem dX8_numbered_49 : decode cX8_numbered 49 = .ok (.iload_n 1, 1) := by decide +kernel
theorem dX8_numbered_50 : decode cX8_numbered 50 = .ok (.ireturn, 1) := by decide +kernel
theorem dX8_notes_0 : decode cX8_notes 0 = .ok (.iconst 0, 1) := by decide +kernel
theorem dX8_notes_1 : decode cX8_notes 1 = .ok (.istore_n 2, 1) := by decide +kernel
theorem dX8_notes_2 : decode cX8_notes 2 = .ok (.iload_n 2, 1) := by decide +kernel
theorem dX8_notes_3 : decode cX8_notes 3 = .ok (.aload_n 0, 1) := by decide +kernel
theorem dX8_notes_4 : decode cX8_notes 4 = .ok (.getfield 200, 3) := by decide +kernel
theorem dX8_notes_7 : decode cX8_notes 7 = .ok (.if_icmp .ge 20, 3) := by decide +kernel
theorem dX8_notes_10 : decode cX8_notes 10 = .ok (.aload_n 0, 1) := by decide +kernel
theorem dX8_notes_11 : decode cX8_notes 11 = .ok (.getfield 75, 3) := by decide +kernel
theorem dX8_notes_14 : decode cX8_notes 14 = .ok (.iload_n 2, 1) := by decide +kernel
theorem dX8_notes_15 : decode cX8_notes 15 = .ok (.iaload, 1) := by decide +kernel
theorem dX8_notes_16 : decode cX8_notes 16 = .ok (.iload_n 1, 1) := by decide +kernel
theorem dX8_notes_17 : decode cX8_notes 17 = .ok (.if_icmp .ne 4, 3) := by decide +kernel
theorem dX8_notes_20 : decode cX8_notes 20 = .ok (.return_, 1) := by decide +kernel
theorem dX8_notes_21 : decode cX8_notes 21 = .ok (.iinc 2 1, 3) := by decide +kernel
theorem dX8_notes_24 : decode cX8_notes 24 = .ok (.goto (-22), 3) := by decide +kernel
theorem dX8_notes_27 : decode cX8_notes 27 = .ok (.aload_n 0, 1) := by decide +kernel
theorem dX8_notes_28 : decode cX8_notes 28 = .ok (.getfield 75, 3) := by decide +kernel
theorem dX8_notes_31 : decode cX8_notes 31 = .ok (.aload_n 0, 1) := by decide +kernel
theorem dX8_notes_32 : decode cX8_notes 32 = .ok (.getfield 200, 3) := by decide +kernel
theorem dX8_notes_35 : decode cX8_notes 35 = .ok (.iload_n 1, 1) := by decide +kernel
theorem dX8_notes_36 : decode cX8_notes 36 = .ok (.iastore, 1) := by decide +kernel
theorem dX8_notes_37 : decode cX8_notes 37 = .ok (.aload_n 0, 1) := by decide +kernel
theorem dX8_notes_38 : decode cX8_notes 38 = .ok (.dup, 1) := by decide +kernel
theorem dX8_notes_39 : decode cX8_notes 39 = .ok (.getfield 200, 3) := by decide +kernel
theorem dX8_notes_42 : decode cX8_notes 42 = .ok (.iconst 1, 1) := by decide +kernel
theorem dX8_notes_43 : decode cX8_notes 43 = .ok (.iadd, 1) := by decide +kernel
theorem dX8_notes_44 : decode cX8_notes 44 = .ok (.putfield 200, 3) := by decide +kernel
theorem dX8_notes_47 : decode cX8_notes 47 = .ok (.return_, 1) := by decide +kernel
theorem dX8_takes_0 : decode cX8_takes 0 = .ok (.iconst 0, 1) := by decide +kernel
theorem dX8_takes_1 : decode cX8_takes 1 = .ok (.istore_n 2, 1) := by decide +kernel
theorem dX8_takes_2 : decode cX8_takes 2 = .ok (.iload_n 2, 1) := by decide +kernel
theorem dX8_takes_3 : decode cX8_takes 3 = .ok (.aload_n 0, 1) := by decide +kernel
theorem dX8_takes_4 : decode cX8_takes 4 = .ok (.getfield 94, 3) := by decide +kernel
theorem dX8_takes_7 : decode cX8_takes 7 = .ok (.if_icmp .ge 30, 3) := by decide +kernel
theorem dX8_takes_10 : decode cX8_takes 10 = .ok (.aload_n 0, 1) := by decide +kernel
theorem dX8_takes_11 : decode cX8_takes 11 = .ok (.getfield 78, 3) := by decide +kernel
theorem dX8_takes_14 : decode cX8_takes 14 = .ok (.iload_n 2, 1) := by decide +kernel
theorem dX8_takes_15 : decode cX8_takes 15 = .ok (.iload_n 2, 1) := by decide +kernel
theorem dX8_takes_16 : decode cX8_takes 16 = .ok (.iastore, 1) := by decide +kernel
theorem dX8_takes_17 : decode cX8_takes 17 = .ok (.aload_n 0, 1) := by decide +kernel
theorem dX8_takes_18 : decode cX8_takes 18 = .ok (.getfield 81, 3) := by decide +kernel
theorem dX8_takes_21 : decode cX8_takes 21 = .ok (.iload_n 2, 1) := by decide +kernel
theorem dX8_takes_22 : decode cX8_takes 22 = .ok (.iload_n 1, 1) := by decide +kernel
theorem dX8_takes_23 : decode cX8_takes 23 = .ok (.iconst 3, 1) := by decide +kernel
theorem dX8_takes_24 : decode cX8_takes 24 = .ok (.iload_n 2, 1) := by decide +kernel
theorem dX8_takes_25 : decode cX8_takes 25 = .ok (.imul, 1) := by decide +kernel
theorem dX8_takes_26 : decode cX8_takes 26 = .ok (.ishr, 1) := by decide +kernel
theorem dX8_takes_27 : decode cX8_takes 27 = .ok (.bipush 7, 2) := by decide +kernel
theorem dX8_takes_29 : decode cX8_takes 29 = .ok (.iand, 1) := by decide +kernel
theorem dX8_takes_30 : decode cX8_takes 30 = .ok (.iastore, 1) := by decide +kernel
theorem dX8_takes_31 : decode cX8_takes 31 = .ok (.iinc 2 1, 3) := by decide +kernel
theorem dX8_takes_34 : decode cX8_takes 34 = .ok (.goto (-32), 3) := by decide +kernel
theorem dX8_takes_37 : decode cX8_takes 37 = .ok (.return_, 1) := by decide +kernel
theorem dX8_classes_0 : decode cX8_classes 0 = .ok (.aload_n 0, 1) := by decide +kernel
theorem dX8_classes_1 : decode cX8_classes 1 = .ok (.getfield 94, 3) := by decide +kernel
theorem dX8_classes_4 : decode cX8_classes 4 = .ok (.ifCond .ne 5, 3) := by decide +kernel
theorem dX8_classes_7 : decode cX8_classes 7 = .ok (.iconst (-1), 1) := by decide +kernel
theorem dX8_classes_8 : decode cX8_classes 8 = .ok (.ireturn, 1) := by decide +kernel
theorem dX8_classes_9 : decode cX8_classes 9 = .ok (.aload_n 0, 1) := by decide +kernel
theorem dX8_classes_10 : decode cX8_classes 10 = .ok (.getfield 94, 3) := by decide +kernel
theorem dX8_classes_13 : decode cX8_classes 13 = .ok (.bipush 6, 2) := by decide +kernel
theorem dX8_classes_15 : decode cX8_classes 15 = .ok (.if_icmp .le 6, 3) := by decide +kernel
theorem dX8_classes_18 : decode cX8_classes 18 = .ok (.bipush (-2), 2) := by decide +kernel
theorem dX8_classes_20 : decode cX8_classes 20 = .ok (.ireturn, 1) := by decide +kernel
theorem dX8_classes_21 : decode cX8_classes 21 = .ok (.iconst 0, 1) := by decide +kernel
theorem dX8_classes_22 : decode cX8_classes 22 = .ok (.istore_n 1, 1) := by decide +kernel
theorem dX8_classes_23 : decode cX8_classes 23 = .ok (.iload_n 1, 1) := by decide +kernel
theorem dX8_classes_24 : decode cX8_classes 24 = .ok (.aload_n 0, 1) := by decide +kernel
theorem dX8_classes_25 : decode cX8_classes 25 = .ok (.getfield 94, 3) := by decide +kernel
theorem dX8_classes_28 : decode cX8_classes 28 = .ok (.if_icmp .ge 33, 3) := by decide +kernel
theorem dX8_classes_31 : decode cX8_classes 31 = .ok (.aload_n 0, 1) := by decide +kernel
theorem dX8_classes_32 : decode cX8_classes 32 = .ok (.getfield 78, 3) := by decide +kernel
theorem dX8_classes_35 : decode cX8_classes 35 = .ok (.iload_n 1, 1) := by decide +kernel
theorem dX8_classes_36 : decode cX8_classes 36 = .ok (.aload_n 0, 1) := by decide +kernel
theorem dX8_classes_37 : decode cX8_classes 37 = .ok (.getfield 26, 3) := by decide +kernel
theorem dX8_classes_40 : decode cX8_classes 40 = .ok (.iload_n 1, 1) := by decide +kernel
theorem dX8_classes_41 : decode cX8_classes 41 = .ok (.iaload, 1) := by decide +kernel
theorem dX8_classes_42 : decode cX8_classes 42 = .ok (.iastore, 1) := by decide +kernel
theorem dX8_classes_43 : decode cX8_classes 43 = .ok (.aload_n 0, 1) := by decide +kernel
theorem dX8_classes_44 : decode cX8_classes 44 = .ok (.getfield 81, 3) := by decide +kernel
theorem dX8_classes_47 : decode cX8_classes 47 = .ok (.iload_n 1, 1) := by decide +kernel
theorem dX8_classes_48 : decode cX8_classes 48 = .ok (.aload_n 0, 1) := by decide +kernel
theorem dX8_classes_49 : decode cX8_classes 49 = .ok (.getfield 29, 3) := by decide +kernel
theorem dX8_classes_52 : decode cX8_classes 52 = .ok (.iload_n 1, 1) := by decide +kernel
theorem dX8_classes_53 : decode cX8_classes 53 = .ok (.iaload, 1) := by decide +kernel
theorem dX8_classes_54 : decode cX8_classes 54 = .ok (.iastore, 1) := by decide +kernel
theorem dX8_classes_55 : decode cX8_classes 55 = .ok (.iinc 1 1, 3) := by decide +kernel
theorem dX8_classes_58 : decode cX8_classes 58 = .ok (.goto (-35), 3) := by decide +kernel
theorem dX8_classes_61 : decode cX8_classes 61 = .ok (.aload_n 0, 1) := by decide +kernel
theorem dX8_classes_62 : decode cX8_classes 62 = .ok (.iconst 0, 1) := by decide +kernel
theorem dX8_classes_63 : decode cX8_classes 63 = .ok (.putfield 200, 3) := by decide +kernel
theorem dX8_classes_66 : decode cX8_classes 66 = .ok (.aload_n 0, 1) := by decide +kernel
theorem dX8_classes_67 : decode cX8_classes 67 = .ok (.aload_n 0, 1) := by decide +kernel
theorem dX8_classes_68 : decode cX8_classes 68 = .ok (.invokevirtual 203, 3) := by decide +kernel
theorem dX8_classes_71 : decode cX8_classes 71 = .ok (.invokevirtual 206, 3) := by decide +kernel
theorem dX8_classes_74 : decode cX8_classes 74 = .ok (.iconst 0, 1) := by decide +kernel
theorem dX8_classes_75 : decode cX8_classes 75 = .ok (.istore_n 1, 1) := by decide +kernel
theorem dX8_classes_76 : decode cX8_classes 76 = .ok (.iload_n 1, 1) := by decide +kernel
theorem dX8_classes_77 : decode cX8_classes 77 = .ok (.aload_n 0, 1) := by decide +kernel
theorem dX8_classes_78 : decode cX8_classes 78 = .ok (.getfield 200, 3) := by decide +kernel
theorem dX8_classes_81 : decode cX8_classes 81 = .ok (.if_icmp .ge 103, 3) := by decide +kernel
theorem dX8_classes_84 : decode cX8_classes 84 = .ok (.iconst 0, 1) := by decide +kernel
theorem dX8_classes_85 : decode cX8_classes 85 = .ok (.istore_n 2, 1) := by decide +kernel
theorem dX8_classes_86 : decode cX8_classes 86 = .ok (.iload_n 2, 1) := by decide +kernel
theorem dX8_classes_87 : decode cX8_classes 87 = .ok (.iconst 2, 1) := by decide +kernel
theorem dX8_classes_88 : decode cX8_classes 88 = .ok (.if_icmp .ge 90, 3) := by decide +kernel
theorem dX8_classes_91 : decode cX8_classes 91 = .ok (.aload_n 0, 1) := by decide +kernel
theorem dX8_classes_92 : decode cX8_classes 92 = .ok (.aload_n 0, 1) := by decide +kernel
theorem dX8_classes_93 : decode cX8_classes 93 = .ok (.getfield 75, 3) := by decide +kernel
theorem dX8_classes_96 : decode cX8_classes 96 = .ok (.iload_n 1, 1) := by decide +kernel
theorem dX8_classes_97 : decode cX8_classes 97 = .ok (.iaload, 1) := by decide +kernel
theorem dX8_classes_98 : decode cX8_classes 98 = .ok (.invokevirtual 209, 3) := by decide +kernel
theorem dX8_classes_101 : decode cX8_classes 101 = .ok (.aload_n 0, 1) := by decide +kernel
theorem dX8_classes_102 : decode cX8_classes 102 = .ok (.getfield 78, 3) := by decide +kernel
theorem dX8_classes_105 : decode cX8_classes 105 = .ok (.aload_n 0, 1) := by decide +kernel
theorem dX8_classes_106 : decode cX8_classes 106 = .ok (.getfield 94, 3) := by decide +kernel
theorem dX8_classes_109 : decode cX8_classes 109 = .ok (.iconst 1, 1) := by decide +kernel
theorem dX8_classes_110 : decode cX8_classes 110 = .ok (.isub, 1) := by decide +kernel
theorem dX8_classes_111 : decode cX8_classes 111 = .ok (.iaload, 1) := by decide +kernel
theorem dX8_classes_112 : decode cX8_classes 112 = .ok (.istore_n 3, 1) := by decide +kernel
theorem dX8_classes_113 : decode cX8_classes 113 = .ok (.aload_n 0, 1) := by decide +kernel
theorem dX8_classes_114 : decode cX8_classes 114 = .ok (.getfield 81, 3) := by decide +kernel
theorem dX8_classes_117 : decode cX8_classes 117 = .ok (.aload_n 0, 1) := by decide +kernel
theorem dX8_classes_118 : decode cX8_classes 118 = .ok (.getfield 94, 3) := by decide +kernel
theorem dX8_classes_121 : decode cX8_classes 121 = .ok (.iconst 1, 1) := by decide +kernel
theorem dX8_classes_122 : decode cX8_classes 122 = .ok (.isub, 1) := by decide +kernel
theorem dX8_classes_123 : decode cX8_classes 123 = .ok (.iaload, 1) := by decide +kernel
theorem dX8_classes_124 : decode cX8_classes 124 = .ok (.istore 4, 2) := by decide +kernel
theorem dX8_classes_126 : decode cX8_classes 126 = .ok (.iload_n 3, 1) := by decide +kernel
theorem dX8_classes_127 : decode cX8_classes 127 = .ok (.iload 4, 2) := by decide +kernel
theorem dX8_classes_129 : decode cX8_classes 129 = .ok (.if_icmp .ne 6, 3) := by decide +kernel
theorem dX8_classes_132 : decode cX8_classes 132 = .ok (.goto 40, 3) := by decide +kernel
theorem dX8_classes_135 : decode cX8_classes 135 = .ok (.iload_n 2, 1) := by decide +kernel
theorem dX8_classes_136 : decode cX8_classes 136 = .ok (.ifCond .ne 17, 3) := by decide +kernel
theorem dX8_classes_139 : decode cX8_classes 139 = .ok (.aload_n 0, 1) := by decide +kernel
theorem dX8_classes_140 : decode cX8_classes 140 = .ok (.aload_n 0, 1) := by decide +kernel
theorem dX8_classes_141 : decode cX8_classes 141 = .ok (.getfield 81, 3) := by decide +kernel
theorem dX8_classes_144 : decode cX8_classes 144 = .ok (.iload 4, 2) := by decide +kernel
theorem dX8_classes_146 : decode cX8_classes 146 = .ok (.iload_n 3, 1) := by decide +kernel
theorem dX8_classes_147 : decode cX8_classes 147 = .ok (.invokevirtual 171, 3) := by decide +kernel
theorem dX8_classes_150 : decode cX8_classes 150 = .ok (.goto 14, 3) := by decide +kernel
theorem dX8_classes_153 : decode cX8_classes 153 = .ok (.aload_n 0, 1) := by decide +kernel
theorem dX8_classes_154 : decode cX8_classes 154 = .ok (.aload_n 0, 1) := by decide +kernel
theorem dX8_classes_155 : decode cX8_classes 155 = .ok (.getfield 78, 3) := by decide +kernel
theorem dX8_classes_158 : decode cX8_classes 158 = .ok (.iload_n 3, 1) := by decide +kernel
theorem dX8_classes_159 : decode cX8_classes 159 = .ok (.iload 4, 2) := by decide +kernel
theorem dX8_classes_161 : decode cX8_classes 161 = .ok (.invokevirtual 171, 3) := by decide +kernel
theorem dX8_classes_164 : decode cX8_classes 164 = .ok (.aload_n 0, 1) := by decide +kernel
theorem dX8_classes_165 : decode cX8_classes 165 = .ok (.aload_n 0, 1) := by decide +kernel
theorem dX8_classes_166 : decode cX8_classes 166 = .ok (.invokevirtual 203, 3) := by decide +kernel
theorem dX8_classes_169 : decode cX8_classes 169 = .ok (.invokevirtual 206, 3) := by decide +kernel
theorem dX8_classes_172 : decode cX8_classes 172 = .ok (.iinc 2 1, 3) := by decide +kernel
theorem dX8_classes_175 : decode cX8_classes 175 = .ok (.goto (-89), 3) := by decide +kernel
theorem dX8_classes_178 : decode cX8_classes 178 = .ok (.iinc 1 1, 3) := by decide +kernel
theorem dX8_classes_181 : decode cX8_classes 181 = .ok (.goto (-105), 3) := by decide +kernel
theorem dX8_classes_184 : decode cX8_classes 184 = .ok (.aload_n 0, 1) := by decide +kernel
theorem dX8_classes_185 : decode cX8_classes 185 = .ok (.getfield 200, 3) := by decide +kernel
theorem dX8_classes_188 : decode cX8_classes 188 = .ok (.ireturn, 1) := by decide +kernel
theorem dX8_cornerOf_0 : decode cX8_cornerOf 0 = .ok (.iload_n 1, 1) := by decide +kernel
theorem dX8_cornerOf_1 : decode cX8_cornerOf 1 = .ok (.ifCond .eq 15, 3) := by decide +kernel
theorem dX8_cornerOf_4 : decode cX8_cornerOf 4 = .ok (.iload_n 2, 1) := by decide +kernel
theorem dX8_cornerOf_5 : decode cX8_cornerOf 5 = .ok (.ifCond .eq 11, 3) := by decide +kernel
theorem dX8_cornerOf_8 : decode cX8_cornerOf 8 = .ok (.iload_n 2, 1) := by decide +kernel
theorem dX8_cornerOf_9 : decode cX8_cornerOf 9 = .ok (.aload_n 0, 1) := by decide +kernel
theorem dX8_cornerOf_10 : decode cX8_cornerOf 10 = .ok (.getfield 94, 3) := by decide +kernel
theorem dX8_cornerOf_13 : decode cX8_cornerOf 13 = .ok (.if_icmp .ne 7, 3) := by decide +kernel
theorem dX8_cornerOf_16 : decode cX8_cornerOf 16 = .ok (.iload_n 2, 1) := by decide +kernel
theorem dX8_cornerOf_17 : decode cX8_cornerOf 17 = .ok (.goto 9, 3) := by decide +kernel
theorem dX8_cornerOf_20 : decode cX8_cornerOf 20 = .ok (.aload_n 0, 1) := by decide +kernel
theorem dX8_cornerOf_21 : decode cX8_cornerOf 21 = .ok (.getfield 94, 3) := by decide +kernel
theorem dX8_cornerOf_24 : decode cX8_cornerOf 24 = .ok (.iload_n 2, 1) := by decide +kernel
theorem dX8_cornerOf_25 : decode cX8_cornerOf 25 = .ok (.iadd, 1) := by decide +kernel
theorem dX8_cornerOf_26 : decode cX8_cornerOf 26 = .ok (.ireturn, 1) := by decide +kernel
theorem dX8_glues_0 : decode cX8_glues 0 = .ok (.aload_n 0, 1) := by decide +kernel
theorem dX8_glues_1 : decode cX8_glues 1 = .ok (.getfield 84, 3) := by decide +kernel
theorem dX8_glues_4 : decode cX8_glues 4 = .ok (.iload_n 1, 1) := by decide +kernel
theorem dX8_glues_5 : decode cX8_glues 5 = .ok (.iaload, 1) := by decide +kernel
theorem dX8_glues_6 : decode cX8_glues 6 = .ok (.istore_n 3, 1) := by decide +kernel
theorem dX8_glues_7 : decode cX8_glues 7 = .ok (.aload_n 0, 1) := by decide +kernel
theorem dX8_glues_8 : decode cX8_glues 8 = .ok (.getfield 84, 3) := by decide +kernel
theorem dX8_glues_11 : decode cX8_glues 11 = .ok (.iload_n 2, 1) := by decide +kernel
theorem dX8_glues_12 : decode cX8_glues 12 = .ok (.iaload, 1) := by decide +kernel
theorem dX8_glues_13 : decode cX8_glues 13 = .ok (.istore 4, 2) := by decide +kernel
theorem dX8_glues_15 : decode cX8_glues 15 = .ok (.iconst 0, 1) := by decide +kernel
theorem dX8_glues_16 : decode cX8_glues 16 = .ok (.istore 5, 2) := by decide +kernel
theorem dX8_glues_18 : decode cX8_glues 18 = .ok (.iload 5, 2) := by decide +kernel
theorem dX8_glues_20 : decode cX8_glues 20 = .ok (.iconst 2, 1) := by decide +kernel
theorem dX8_glues_21 : decode cX8_glues 21 = .ok (.aload_n 0, 1) := by decide +kernel
theorem dX8_glues_22 : decode cX8_glues 22 = .ok (.getfield 94, 3) := by decide +kernel
theorem dX8_glues_25 : decode cX8_glues 25 = .ok (.imul, 1) := by decide +kernel
theorem dX8_glues_26 : decode cX8_glues 26 = .ok (.if_icmp .ge 29, 3) := by decide +kernel
theorem dX8_glues_29 : decode cX8_glues 29 = .ok (.aload_n 0, 1) := by decide +kernel
theorem dX8_glues_30 : decode cX8_glues 30 = .ok (.getfield 84, 3) := by decide +kernel
theorem dX8_glues_33 : decode cX8_glues 33 = .ok (.iload 5, 2) := by decide +kernel
theorem dX8_glues_35 : decode cX8_glues 35 = .ok (.iaload, 1) := by decide +kernel
theorem dX8_glues_36 : decode cX8_glues 36 = .ok (.iload_n 3, 1) := by decide +kernel
theorem dX8_glues_37 : decode cX8_glues 37 = .ok (.if_icmp .ne 12, 3) := by decide +kernel
theorem dX8_glues_40 : decode cX8_glues 40 = .ok (.aload_n 0, 1) := by decide +kernel
theorem dX8_glues_41 : decode cX8_glues 41 = .ok (.getfield 84, 3) := by decide +kernel
theorem dX8_glues_44 : decode cX8_glues 44 = .ok (.iload 5, 2) := by decide +kernel
theorem dX8_glues_46 : decode cX8_glues 46 = .ok (.iload 4, 2) := by decide +kernel
theorem dX8_glues_48 : decode cX8_glues 48 = .ok (.iastore, 1) := by decide +kernel
theorem dX8_glues_49 : decode cX8_glues 49 = .ok (.iinc 5 1, 3) := by decide +kernel
theorem dX8_glues_52 : decode cX8_glues 52 = .ok (.goto (-34), 3) := by decide +kernel
theorem dX8_glues_55 : decode cX8_glues 55 = .ok (.return_, 1) := by decide +kernel
theorem dX8_placeOf_0 : decode cX8_placeOf 0 = .ok (.iconst 0, 1) := by decide +kernel
theorem dX8_placeOf_1 : decode cX8_placeOf 1 = .ok (.istore_n 3, 1) := by decide +kernel
theorem dX8_placeOf_2 : decode cX8_placeOf 2 = .ok (.aload_n 1, 1) := by decide +kernel
theorem dX8_placeOf_3 : decode cX8_placeOf 3 = .ok (.iload_n 3, 1) := by decide +kernel
theorem dX8_placeOf_4 : decode cX8_placeOf 4 = .ok (.iaload, 1) := by decide +kernel
theorem dX8_placeOf_5 : decode cX8_placeOf 5 = .ok (.iload_n 2, 1) := by decide +kernel
theorem dX8_placeOf_6 : decode cX8_placeOf 6 = .ok (.if_icmp .eq 9, 3) := by decide +kernel
theorem dX8_placeOf_9 : decode cX8_placeOf 9 = .ok (.iinc 3 1, 3) := by decide +kernel
theorem dX8_placeOf_12 : decode cX8_placeOf 12 = .ok (.goto (-10), 3) := by decide +kernel
theorem dX8_placeOf_15 : decode cX8_placeOf 15 = .ok (.iload_n 3, 1) := by decide +kernel
theorem dX8_placeOf_16 : decode cX8_placeOf 16 = .ok (.ireturn, 1) := by decide +kernel
theorem dX8_ground_0 : decode cX8_ground 0 = .ok (.aload_n 0, 1) := by decide +kernel
theorem dX8_ground_1 : decode cX8_ground 1 = .ok (.getfield 94, 3) := by decide +kernel
theorem dX8_ground_4 : decode cX8_ground 4 = .ok (.ifCond .eq 12, 3) := by decide +kernel
theorem dX8_ground_7 : decode cX8_ground 7 = .ok (.iload_n 1, 1) := by decide +kernel
theorem dX8_ground_8 : decode cX8_ground 8 = .ok (.ifCond .lt 8, 3) := by decide +kernel
theorem dX8_ground_11 : decode cX8_ground 11 = .ok (.iload_n 1, 1) := by decide +kernel
theorem dX8_ground_12 : decode cX8_ground 12 = .ok (.iconst 3, 1) := by decide +kernel
theorem dX8_ground_13 : decode cX8_ground 13 = .ok (.if_icmp .le 5, 3) := by decide +kernel
theorem dX8_ground_16 : decode cX8_ground 16 = .ok (.iconst (-1), 1) := by decide +kernel
theorem dX8_ground_17 : decode cX8_ground 17 = .ok (.ireturn, 1) := by decide +kernel
theorem dX8_ground_18 : decode cX8_ground 18 = .ok (.iconst 0, 1) := by decide +kernel
theorem dX8_ground_19 : decode cX8_ground 19 = .ok (.istore_n 2, 1) := by decide +kernel
theorem dX8_ground_20 : decode cX8_ground 20 = .ok (.iload_n 2, 1) := by decide +kernel
theorem dX8_ground_21 : decode cX8_ground 21 = .ok (.iconst 2, 1) := by decide +kernel
theorem dX8_ground_22 : decode cX8_ground 22 = .ok (.aload_n 0, 1) := by decide +kernel
theorem dX8_ground_23 : decode cX8_ground 23 = .ok (.getfield 94, 3) := by decide +kernel
theorem dX8_ground_26 : decode cX8_ground 26 = .ok (.imul, 1) := by decide +kernel
theorem dX8_ground_27 : decode cX8_ground 27 = .ok (.if_icmp .ge 16, 3) := by decide +kernel
theorem dX8_ground_30 : decode cX8_ground 30 = .ok (.aload_n 0, 1) := by decide +kernel
theorem dX8_ground_31 : decode cX8_ground 31 = .ok (.getfield 84, 3) := by decide +kernel
theorem dX8_ground_34 : decode cX8_ground 34 = .ok (.iload_n 2, 1) := by decide +kernel
theorem dX8_ground_35 : decode cX8_ground 35 = .ok (.iload_n 2, 1) := by decide +kernel
theorem dX8_ground_36 : decode cX8_ground 36 = .ok (.iastore, 1) := by decide +kernel
theorem dX8_ground_37 : decode cX8_ground 37 = .ok (.iinc 2 1, 3) := by decide +kernel
theorem dX8_ground_40 : decode cX8_ground 40 = .ok (.goto (-20), 3) := by decide +kernel
theorem dX8_ground_43 : decode cX8_ground 43 = .ok (.iconst 0, 1) := by decide +kernel
theorem dX8_ground_44 : decode cX8_ground 44 = .ok (.istore_n 2, 1) := by decide +kernel
theorem dX8_ground_45 : decode cX8_ground 45 = .ok (.iload_n 2, 1) := by decide +kernel
theorem dX8_ground_46 : decode cX8_ground 46 = .ok (.aload_n 0, 1) := by decide +kernel
theorem dX8_ground_47 : decode cX8_ground 47 = .ok (.getfield 94, 3) := by decide +kernel
theorem dX8_ground_50 : decode cX8_ground 50 = .ok (.if_icmp .ge 68, 3) := by decide +kernel
theorem dX8_ground_53 : decode cX8_ground 53 = .ok (.aload_n 0, 1) := by decide +kernel
theorem dX8_ground_54 : decode cX8_ground 54 = .ok (.aload_n 0, 1) := by decide +kernel
theorem dX8_ground_55 : decode cX8_ground 55 = .ok (.getfield 26, 3) := by decide +kernel
theorem dX8_ground_58 : decode cX8_ground 58 = .ok (.iload_n 2, 1) := by decide +kernel
theorem dX8_ground_59 : decode cX8_ground 59 = .ok (.invokevirtual 212, 3) := by decide +kernel
theorem dX8_ground_62 : decode cX8_ground 62 = .ok (.istore_n 3, 1) := by decide +kernel
theorem dX8_ground_63 : decode cX8_ground 63 = .ok (.aload_n 0, 1) := by decide +kernel
theorem dX8_ground_64 : decode cX8_ground 64 = .ok (.aload_n 0, 1) := by decide +kernel
theorem dX8_ground_65 : decode cX8_ground 65 = .ok (.getfield 29, 3) := by decide +kernel
theorem dX8_ground_68 : decode cX8_ground 68 = .ok (.iload_n 2, 1) := by decide +kernel
theorem dX8_ground_69 : decode cX8_ground 69 = .ok (.invokevirtual 212, 3) := by decide +kernel
theorem dX8_ground_72 : decode cX8_ground 72 = .ok (.istore 4, 2) := by decide +kernel
theorem dX8_ground_74 : decode cX8_ground 74 = .ok (.aload_n 0, 1) := by decide +kernel
theorem dX8_ground_75 : decode cX8_ground 75 = .ok (.aload_n 0, 1) := by decide +kernel
theorem dX8_ground_76 : decode cX8_ground 76 = .ok (.iconst 0, 1) := by decide +kernel
theorem dX8_ground_77 : decode cX8_ground 77 = .ok (.iload_n 3, 1) := by decide +kernel
theorem dX8_ground_78 : decode cX8_ground 78 = .ok (.invokevirtual 216, 3) := by decide +kernel
theorem dX8_ground_81 : decode cX8_ground 81 = .ok (.aload_n 0, 1) := by decide +kernel
theorem dX8_ground_82 : decode cX8_ground 82 = .ok (.iconst 1, 1) := by decide +kernel
theorem dX8_ground_83 : decode cX8_ground 83 = .ok (.iload 4, 2) := by decide +kernel
theorem dX8_ground_85 : decode cX8_ground 85 = .ok (.invokevirtual 216, 3) := by decide +kernel
theorem dX8_ground_88 : decode cX8_ground 88 = .ok (.invokevirtual 220, 3) := by decide +kernel
theorem dX8_ground_91 : decode cX8_ground 91 = .ok (.aload_n 0, 1) := by decide +kernel
theorem dX8_ground_92 : decode cX8_ground 92 = .ok (.aload_n 0, 1) := by decide +kernel
theorem dX8_ground_93 : decode cX8_ground 93 = .ok (.iconst 0, 1) := by decide +kernel
theorem dX8_ground_94 : decode cX8_ground 94 = .ok (.iload_n 3, 1) := by decide +kernel
theorem dX8_ground_95 : decode cX8_ground 95 = .ok (.iconst 1, 1) := by decide +kernel
theorem dX8_ground_96 : decode cX8_ground 96 = .ok (.iadd, 1) := by decide +kernel
theorem dX8_ground_97 : decode cX8_ground 97 = .ok (.invokevirtual 216, 3) := by decide +kernel
theorem dX8_ground_100 : decode cX8_ground 100 = .ok (.aload_n 0, 1) := by decide +kernel
theorem dX8_ground_101 : decode cX8_ground 101 = .ok (.iconst 1, 1) := by decide +kernel
theorem dX8_ground_102 : decode cX8_ground 102 = .ok (.iload 4, 2) := by decide +kernel
theorem dX8_ground_104 : decode cX8_ground 104 = .ok (.iconst 1, 1) := by decide +kernel
theorem dX8_ground_105 : decode cX8_ground 105 = .ok (.iadd, 1) := by decide +kernel
theorem dX8_ground_106 : decode cX8_ground 106 = .ok (.invokevirtual 216, 3) := by decide +kernel
theorem dX8_ground_109 : decode cX8_ground 109 = .ok (.invokevirtual 220, 3) := by decide +kernel
theorem dX8_ground_112 : decode cX8_ground 112 = .ok (.iinc 2 1, 3) := by decide +kernel
theorem dX8_ground_115 : decode cX8_ground 115 = .ok (.goto (-70), 3) := by decide +kernel
theorem dX8_ground_118 : decode cX8_ground 118 = .ok (.iconst 0, 1) := by decide +kernel
theorem dX8_ground_119 : decode cX8_ground 119 = .ok (.istore_n 2, 1) := by decide +kernel
theorem dX8_ground_120 : decode cX8_ground 120 = .ok (.iconst 0, 1) := by decide +kernel
theorem dX8_ground_121 : decode cX8_ground 121 = .ok (.istore_n 3, 1) := by decide +kernel
theorem dX8_ground_122 : decode cX8_ground 122 = .ok (.iconst 0, 1) := by decide +kernel
theorem dX8_ground_123 : decode cX8_ground 123 = .ok (.istore 4, 2) := by decide +kernel
theorem dX8_ground_125 : decode cX8_ground 125 = .ok (.iconst 0, 1) := by decide +kernel
theorem dX8_ground_126 : decode cX8_ground 126 = .ok (.istore 5, 2) := by decide +kernel
theorem dX8_ground_128 : decode cX8_ground 128 = .ok (.iload 5, 2) := by decide +kernel
theorem dX8_ground_130 : decode cX8_ground 130 = .ok (.iconst 2, 1) := by decide +kernel
theorem dX8_ground_131 : decode cX8_ground 131 = .ok (.aload_n 0, 1) := by decide +kernel
theorem dX8_ground_132 : decode cX8_ground 132 = .ok (.getfield 94, 3) := by decide +kernel
theorem dX8_ground_135 : decode cX8_ground 135 = .ok (.imul, 1) := by decide +kernel
theorem dX8_ground_136 : decode cX8_ground 136 = .ok (.if_icmp .ge 99, 3) := by decide +kernel
theorem dX8_ground_139 : decode cX8_ground 139 = .ok (.iconst 0, 1) := by decide +kernel
theorem dX8_ground_140 : decode cX8_ground 140 = .ok (.istore 6, 2) := by decide +kernel
theorem dX8_ground_142 : decode cX8_ground 142 = .ok (.iconst 0, 1) := by decide +kernel
theorem dX8_ground_143 : decode cX8_ground 143 = .ok (.istore 7, 2) := by decide +kernel
theorem dX8_ground_145 : decode cX8_ground 145 = .ok (.iconst 0, 1) := by decide +kernel
theorem dX8_ground_146 : decode cX8_ground 146 = .ok (.istore 8, 2) := by decide +kernel
theorem dX8_ground_148 : decode cX8_ground 148 = .ok (.iload 8, 2) := by decide +kernel
theorem dX8_ground_150 : decode cX8_ground 150 = .ok (.iconst 2, 1) := by decide +kernel
theorem dX8_ground_151 : decode cX8_ground 151 = .ok (.aload_n 0, 1) := by decide +kernel
theorem dX8_ground_152 : decode cX8_ground 152 = .ok (.getfield 94, 3) := by decide +kernel
theorem dX8_ground_155 : decode cX8_ground 155 = .ok (.imul, 1) := by decide +kernel
theorem dX8_ground_156 : decode cX8_ground 156 = .ok (.if_icmp .ge 44, 3) := by decide +kernel
theorem dX8_ground_159 : decode cX8_ground 159 = .ok (.aload_n 0, 1) := by decide +kernel
theorem dX8_ground_160 : decode cX8_ground 160 = .ok (.getfield 84, 3) := by decide +kernel
theorem dX8_ground_163 : decode cX8_ground 163 = .ok (.iload 8, 2) := by decide +kernel
theorem dX8_ground_165 : decode cX8_ground 165 = .ok (.iaload, 1) := by decide +kernel
theorem dX8_ground_166 : decode cX8_ground 166 = .ok (.iload 5, 2) := by decide +kernel
theorem dX8_ground_168 : decode cX8_ground 168 = .ok (.if_icmp .eq 6, 3) := by decide +kernel
theorem dX8_ground_171 : decode cX8_ground 171 = .ok (.goto 23, 3) := by decide +kernel
theorem dX8_ground_174 : decode cX8_ground 174 = .ok (.iconst 1, 1) := by decide +kernel
theorem dX8_ground_175 : decode cX8_ground 175 = .ok (.istore 6, 2) := by decide +kernel
theorem dX8_ground_177 : decode cX8_ground 177 = .ok (.iload 8, 2) := by decide +kernel
theorem dX8_ground_179 : decode cX8_ground 179 = .ok (.ifCond .le 15, 3) := by decide +kernel
theorem dX8_ground_182 : decode cX8_ground 182 = .ok (.iload 8, 2) := by decide +kernel
theorem dX8_ground_184 : decode cX8_ground 184 = .ok (.aload_n 0, 1) := by decide +kernel
theorem dX8_ground_185 : decode cX8_ground 185 = .ok (.getfield 94, 3) := by decide +kernel
theorem dX8_ground_188 : decode cX8_ground 188 = .ok (.if_icmp .ge 6, 3) := by decide +kernel
theorem dX8_ground_191 : decode cX8_ground 191 = .ok (.iinc 7 1, 3) := by decide +kernel
theorem dX8_ground_194 : decode cX8_ground 194 = .ok (.iinc 8 1, 3) := by decide +kernel
theorem dX8_ground_197 : decode cX8_ground 197 = .ok (.goto (-49), 3) := by decide +kernel
theorem dX8_ground_200 : decode cX8_ground 200 = .ok (.iload 6, 2) := by decide +kernel
theorem dX8_ground_202 : decode cX8_ground 202 = .ok (.ifCond .ne 6, 3) := by decide +kernel
theorem dX8_ground_205 : decode cX8_ground 205 = .ok (.goto 24, 3) := by decide +kernel
theorem dX8_ground_208 : decode cX8_ground 208 = .ok (.iinc 2 1, 3) := by decide +kernel
theorem dX8_ground_211 : decode cX8_ground 211 = .ok (.iload 7, 2) := by decide +kernel
theorem dX8_ground_213 : decode cX8_ground 213 = .ok (.iload_n 3, 1) := by decide +kernel
theorem dX8_ground_214 : decode cX8_ground 214 = .ok (.if_icmp .le 6, 3) := by decide +kernel
theorem dX8_ground_217 : decode cX8_ground 217 = .ok (.iload 7, 2) := by decide +kernel
theorem dX8_ground_219 : decode cX8_ground 219 = .ok (.istore_n 3, 1) := by decide +kernel
theorem dX8_ground_220 : decode cX8_ground 220 = .ok (.iload 7, 2) := by decide +kernel
theorem dX8_ground_222 : decode cX8_ground 222 = .ok (.iconst 1, 1) := by decide +kernel
theorem dX8_ground_223 : decode cX8_ground 223 = .ok (.if_icmp .ne 6, 3) := by decide +kernel
theorem dX8_ground_226 : decode cX8_ground 226 = .ok (.iinc 4 1, 3) := by decide +kernel
theorem dX8_ground_229 : decode cX8_ground 229 = .ok (.iinc 5 1, 3) := by decide +kernel
theorem dX8_ground_232 : decode cX8_ground 232 = .ok (.goto (-104), 3) := by decide +kernel
theorem dX8_ground_235 : decode cX8_ground 235 = .ok (.iload_n 1, 1) := by decide +kernel
theorem dX8_ground_236 : decode cX8_ground 236 = .ok (.ifCond .ne 7, 3) := by decide +kernel
theorem dX8_ground_239 : decode cX8_ground 239 = .ok (.iload_n 2, 1) := by decide +kernel
theorem dX8_ground_240 : decode cX8_ground 240 = .ok (.goto 32, 3) := by decide +kernel
theorem dX8_ground_243 : decode cX8_ground 243 = .ok (.iload_n 1, 1) := by decide +kernel
theorem dX8_ground_244 : decode cX8_ground 244 = .ok (.iconst 1, 1) := by decide +kernel
theorem dX8_ground_245 : decode cX8_ground 245 = .ok (.if_icmp .ne 16, 3) := by decide +kernel
theorem dX8_ground_248 : decode cX8_ground 248 = .ok (.iconst 1, 1) := by decide +kernel
theorem dX8_ground_249 : decode cX8_ground 249 = .ok (.aload_n 0, 1) := by decide +kernel
theorem dX8_ground_250 : decode cX8_ground 250 = .ok (.getfield 94, 3) := by decide +kernel
theorem dX8_ground_253 : decode cX8_ground 253 = .ok (.iadd, 1) := by decide +kernel
theorem dX8_ground_254 : decode cX8_ground 254 = .ok (.iload_n 2, 1) := by decide +kernel
theorem dX8_ground_255 : decode cX8_ground 255 = .ok (.isub, 1) := by decide +kernel
theorem dX8_ground_256 : decode cX8_ground 256 = .ok (.iconst 2, 1) := by decide +kernel
theorem dX8_ground_257 : decode cX8_ground 257 = .ok (.idiv, 1) := by decide +kernel
theorem dX8_ground_258 : decode cX8_ground 258 = .ok (.goto 14, 3) := by decide +kernel
theorem dX8_ground_261 : decode cX8_ground 261 = .ok (.iload_n 1, 1) := by decide +kernel
theorem dX8_ground_262 : decode cX8_ground 262 = .ok (.iconst 2, 1) := by decide +kernel
theorem dX8_ground_263 : decode cX8_ground 263 = .ok (.if_icmp .ne 7, 3) := by decide +kernel
theorem dX8_ground_266 : decode cX8_ground 266 = .ok (.iload_n 3, 1) := by decide +kernel
theorem dX8_ground_267 : decode cX8_ground 267 = .ok (.goto 5, 3) := by decide +kernel
theorem dX8_ground_270 : decode cX8_ground 270 = .ok (.iload 4, 2) := by decide +kernel
theorem dX8_ground_272 : decode cX8_ground 272 = .ok (.ireturn, 1) := by decide +kernel
theorem dL_law_0 : decode cL_law 0 = .ok (.new 7, 3) := by decide +kernel
theorem dL_law_3 : decode cL_law 3 = .ok (.dup, 1) := by decide +kernel
theorem dL_law_4 : decode cL_law 4 = .ok (.invokespecial 9, 3) := by decide +kernel
theorem dL_law_7 : decode cL_law 7 = .ok (.astore_n 1, 1) := by decide +kernel
theorem dL_law_8 : decode cL_law 8 = .ok (.new 10, 3) := by decide +kernel
theorem dL_law_11 : decode cL_law 11 = .ok (.dup, 1) := by decide +kernel
theorem dL_law_12 : decode cL_law 12 = .ok (.invokespecial 12, 3) := by decide +kernel
theorem dL_law_15 : decode cL_law 15 = .ok (.astore_n 2, 1) := by decide +kernel
theorem dL_law_16 : decode cL_law 16 = .ok (.iconst 0, 1) := by decide +kernel
theorem dL_law_17 : decode cL_law 17 = .ok (.istore_n 3, 1) := by decide +kernel
theorem dL_law_18 : decode cL_law 18 = .ok (.iload_n 3, 1) := by decide +kernel
theorem dL_law_19 : decode cL_law 19 = .ok (.aload_n 0, 1) := by decide +kernel
theorem dL_law_20 : decode cL_law 20 = .ok (.arraylength, 1) := by decide +kernel
theorem dL_law_21 : decode cL_law 21 = .ok (.iconst 4, 1) := by decide +kernel
theorem dL_law_22 : decode cL_law 22 = .ok (.isub, 1) := by decide +kernel
theorem dL_law_23 : decode cL_law 23 = .ok (.if_icmp .gt 651, 3) := by decide +kernel
theorem dL_law_26 : decode cL_law 26 = .ok (.aload_n 0, 1) := by decide +kernel
theorem dL_law_27 : decode cL_law 27 = .ok (.iload_n 3, 1) := by decide +kernel
theorem dL_law_28 : decode cL_law 28 = .ok (.iaload, 1) := by decide +kernel
theorem dL_law_29 : decode cL_law 29 = .ok (.bipush 31, 2) := by decide +kernel
theorem dL_law_31 : decode cL_law 31 = .ok (.iand, 1) := by decide +kernel
theorem dL_law_32 : decode cL_law 32 = .ok (.tableswitch 636 0 20 #[100, 123, 166, 199, 212, 235, 269, 302, 335, 358, 382, 415, 448, 461, 484, 518, 531, 544, 577, 600, 613], 100) := by decide +kernel
theorem dL_law_132 : decode cL_law 132 = .ok (.aload_n 1, 1) := by decide +kernel
theorem dL_law_133 : decode cL_law 133 = .ok (.aload_n 0, 1) := by decide +kernel
theorem dL_law_134 : decode cL_law 134 = .ok (.iload_n 3, 1) := by decide +kernel
theorem dL_law_135 : decode cL_law 135 = .ok (.iconst 1, 1) := by decide +kernel
theorem dL_law_136 : decode cL_law 136 = .ok (.iadd, 1) := by decide +kernel
theorem dL_law_137 : decode cL_law 137 = .ok (.iaload, 1) := by decide +kernel
theorem dL_law_138 : decode cL_law 138 = .ok (.invokevirtual 13, 3) := by decide +kernel
theorem dL_law_141 : decode cL_law 141 = .ok (.aload_n 2, 1) := by decide +kernel
theorem dL_law_142 : decode cL_law 142 = .ok (.aload_n 0, 1) := by decide +kernel
theorem dL_law_143 : decode cL_law 143 = .ok (.iload_n 3, 1) := by decide +kernel
theorem dL_law_144 : decode cL_law 144 = .ok (.iconst 1, 1) := by decide +kernel
theorem dL_law_145 : decode cL_law 145 = .ok (.iadd, 1) := by decide +kernel
theorem dL_law_146 : decode cL_law 146 = .ok (.iaload, 1) := by decide +kernel
theorem dL_law_147 : decode cL_law 147 = .ok (.invokevirtual 17, 3) := by decide +kernel
theorem dL_law_150 : decode cL_law 150 = .ok (.if_icmp .eq 518, 3) := by decide +kernel
theorem dL_law_153 : decode cL_law 153 = .ok (.iconst 0, 1) := by decide +kernel
theorem dL_law_154 : decode cL_law 154 = .ok (.ireturn, 1) := by decide +kernel
theorem dL_law_155 : decode cL_law 155 = .ok (.aload_n 1, 1) := by decide +kernel
theorem dL_law_156 : decode cL_law 156 = .ok (.aload_n 0, 1) := by decide +kernel
theorem dL_law_157 : decode cL_law 157 = .ok (.iload_n 3, 1) := by decide +kernel
theorem dL_law_158 : decode cL_law 158 = .ok (.iconst 1, 1) := by decide +kernel
theorem dL_law_159 : decode cL_law 159 = .ok (.iadd, 1) := by decide +kernel
theorem dL_law_160 : decode cL_law 160 = .ok (.iaload, 1) := by decide +kernel
theorem dL_law_161 : decode cL_law 161 = .ok (.aload_n 0, 1) := by decide +kernel
theorem dL_law_162 : decode cL_law 162 = .ok (.iload_n 3, 1) := by decide +kernel
theorem dL_law_163 : decode cL_law 163 = .ok (.iconst 2, 1) := by decide +kernel
theorem dL_law_164 : decode cL_law 164 = .ok (.iadd, 1) := by decide +kernel
theorem dL_law_165 : decode cL_law 165 = .ok (.iaload, 1) := by decide +kernel
theorem dL_law_166 : decode cL_law 166 = .ok (.aload_n 0, 1) := by decide +kernel
theorem dL_law_167 : decode cL_law 167 = .ok (.iload_n 3, 1) := by decide +kernel
theorem dL_law_168 : decode cL_law 168 = .ok (.iconst 3, 1) := by decide +kernel
theorem dL_law_169 : decode cL_law 169 = .ok (.iadd, 1) := by decide +kernel
theorem dL_law_170 : decode cL_law 170 = .ok (.iaload, 1) := by decide +kernel
theorem dL_law_171 : decode cL_law 171 = .ok (.invokevirtual 18, 3) := by decide +kernel
theorem dL_law_174 : decode cL_law 174 = .ok (.aload_n 2, 1) := by decide +kernel
theorem dL_law_175 : decode cL_law 175 = .ok (.aload_n 0, 1) := by decide +kernel
theorem dL_law_176 : decode cL_law 176 = .ok (.iload_n 3, 1) := by decide +kernel
theorem dL_law_177 : decode cL_law 177 = .ok (.iconst 1, 1) := by decide +kernel
theorem dL_law_178 : decode cL_law 178 = .ok (.iadd, 1) := by decide +kernel
theorem dL_law_179 : decode cL_law 179 = .ok (.iaload, 1) := by decide +kernel
theorem dL_law_180 : decode cL_law 180 = .ok (.aload_n 0, 1) := by decide +kernel
theorem dL_law_181 : decode cL_law 181 = .ok (.iload_n 3, 1) := by decide +kernel
theorem dL_law_182 : decode cL_law 182 = .ok (.iconst 2, 1) := by decide +kernel
theorem dL_law_183 : decode cL_law 183 = .ok (.iadd, 1) := by decide +kernel
theorem dL_law_184 : decode cL_law 184 = .ok (.iaload, 1) := by decide +kernel
theorem dL_law_185 : decode cL_law 185 = .ok (.aload_n 0, 1) := by decide +kernel
theorem dL_law_186 : decode cL_law 186 = .ok (.iload_n 3, 1) := by decide +kernel
theorem dL_law_187 : decode cL_law 187 = .ok (.iconst 3, 1) := by decide +kernel
theorem dL_law_188 : decode cL_law 188 = .ok (.iadd, 1) := by decide +kernel
theorem dL_law_189 : decode cL_law 189 = .ok (.iaload, 1) := by decide +kernel
theorem dL_law_190 : decode cL_law 190 = .ok (.invokevirtual 22, 3) := by decide +kernel
theorem dL_law_193 : decode cL_law 193 = .ok (.if_icmp .eq 475, 3) := by decide +kernel
theorem dL_law_196 : decode cL_law 196 = .ok (.iconst 0, 1) := by decide +kernel
theorem dL_law_197 : decode cL_law 197 = .ok (.ireturn, 1) := by decide +kernel
theorem dL_law_198 : decode cL_law 198 = .ok (.aload_n 1, 1) := by decide +kernel
theorem dL_law_199 : decode cL_law 199 = .ok (.aload_n 0, 1) := by decide +kernel
theorem dL_law_200 : decode cL_law 200 = .ok (.iload_n 3, 1) := by decide +kernel
theorem dL_law_201 : decode cL_law 201 = .ok (.iconst 1, 1) := by decide +kernel
theorem dL_law_202 : decode cL_law 202 = .ok (.iadd, 1) := by decide +kernel
theorem dL_law_203 : decode cL_law 203 = .ok (.iaload, 1) := by decide +kernel
theorem dL_law_204 : decode cL_law 204 = .ok (.aload_n 0, 1) := by decide +kernel
theorem dL_law_205 : decode cL_law 205 = .ok (.iload_n 3, 1) := by decide +kernel
theorem dL_law_206 : decode cL_law 206 = .ok (.iconst 2, 1) := by decide +kernel
theorem dL_law_207 : decode cL_law 207 = .ok (.iadd, 1) := by decide +kernel
theorem dL_law_208 : decode cL_law 208 = .ok (.iaload, 1) := by decide +kernel
theorem dL_law_209 : decode cL_law 209 = .ok (.invokevirtual 23, 3) := by decide +kernel
theorem dL_law_212 : decode cL_law 212 = .ok (.aload_n 2, 1) := by decide +kernel
theorem dL_law_213 : decode cL_law 213 = .ok (.aload_n 0, 1) := by decide +kernel
theorem dL_law_214 : decode cL_law 214 = .ok (.iload_n 3, 1) := by decide +kernel
theorem dL_law_215 : decode cL_law 215 = .ok (.iconst 1, 1) := by decide +kernel
theorem dL_law_216 : decode cL_law 216 = .ok (.iadd, 1) := by decide +kernel
theorem dL_law_217 : decode cL_law 217 = .ok (.iaload, 1) := by decide +kernel
theorem dL_law_218 : decode cL_law 218 = .ok (.aload_n 0, 1) := by decide +kernel
theorem dL_law_219 : decode cL_law 219 = .ok (.iload_n 3, 1) := by decide +kernel
theorem dL_law_220 : decode cL_law 220 = .ok (.iconst 2, 1) := by decide +kernel
theorem dL_law_221 : decode cL_law 221 = .ok (.iadd, 1) := by decide +kernel
theorem dL_law_222 : decode cL_law 222 = .ok (.iaload, 1) := by decide +kernel
theorem dL_law_223 : decode cL_law 223 = .ok (.invokevirtual 27, 3) := by decide +kernel
theorem dL_law_226 : decode cL_law 226 = .ok (.if_icmp .eq 442, 3) := by decide +kernel
theorem dL_law_229 : decode cL_law 229 = .ok (.iconst 0, 1) := by decide +kernel
theorem dL_law_230 : decode cL_law 230 = .ok (.ireturn, 1) := by decide +kernel
theorem dL_law_231 : decode cL_law 231 = .ok (.aload_n 1, 1) := by decide +kernel
theorem dL_law_232 : decode cL_law 232 = .ok (.invokevirtual 28, 3) := by decide +kernel
theorem dL_law_235 : decode cL_law 235 = .ok (.aload_n 2, 1) := by decide +kernel
theorem dL_law_236 : decode cL_law 236 = .ok (.invokevirtual 32, 3) := by decide +kernel
theorem dL_law_239 : decode cL_law 239 = .ok (.if_icmp .eq 429, 3) := by decide +kernel
theorem dL_law_242 : decode cL_law 242 = .ok (.iconst 0, 1) := by decide +kernel
theorem dL_law_243 : decode cL_law 243 = .ok (.ireturn, 1) := by decide +kernel
theorem dL_law_244 : decode cL_law 244 = .ok (.aload_n 1, 1) := by decide +kernel
theorem dL_law_245 : decode cL_law 245 = .ok (.aload_n 0, 1) := by decide +kernel
theorem dL_law_246 : decode cL_law 246 = .ok (.iload_n 3, 1) := by decide +kernel
theorem dL_law_247 : decode cL_law 247 = .ok (.iconst 1, 1) := by decide +kernel
theorem dL_law_248 : decode cL_law 248 = .ok (.iadd, 1) := by decide +kernel
theorem dL_law_249 : decode cL_law 249 = .ok (.iaload, 1) := by decide +kernel
theorem dL_law_250 : decode cL_law 250 = .ok (.invokevirtual 33, 3) := by decide +kernel
theorem dL_law_253 : decode cL_law 253 = .ok (.aload_n 2, 1) := by decide +kernel
theorem dL_law_254 : decode cL_law 254 = .ok (.aload_n 0, 1) := by decide +kernel
theorem dL_law_255 : decode cL_law 255 = .ok (.iload_n 3, 1) := by decide +kernel
theorem dL_law_256 : decode cL_law 256 = .ok (.iconst 1, 1) := by decide +kernel
theorem dL_law_257 : decode cL_law 257 = .ok (.iadd, 1) := by decide +kernel
theorem dL_law_258 : decode cL_law 258 = .ok (.iaload, 1) := by decide +kernel
theorem dL_law_259 : decode cL_law 259 = .ok (.invokevirtual 37, 3) := by decide +kernel
theorem dL_law_262 : decode cL_law 262 = .ok (.if_icmp .eq 406, 3) := by decide +kernel
theorem dL_law_265 : decode cL_law 265 = .ok (.iconst 0, 1) := by decide +kernel
theorem dL_law_266 : decode cL_law 266 = .ok (.ireturn, 1) := by decide +kernel
theorem dL_law_267 : decode cL_law 267 = .ok (.aload_n 1, 1) := by decide +kernel
theorem dL_law_268 : decode cL_law 268 = .ok (.aload_n 0, 1) := by decide +kernel
theorem dL_law_269 : decode cL_law 269 = .ok (.iload_n 3, 1) := by decide +kernel
theorem dL_law_270 : decode cL_law 270 = .ok (.iconst 1, 1) := by decide +kernel
theorem dL_law_271 : decode cL_law 271 = .ok (.iadd, 1) := by decide +kernel
theorem dL_law_272 : decode cL_law 272 = .ok (.iaload, 1) := by decide +kernel
theorem dL_law_273 : decode cL_law 273 = .ok (.aload_n 0, 1) := by decide +kernel
theorem dL_law_274 : decode cL_law 274 = .ok (.iload_n 3, 1) := by decide +kernel
theorem dL_law_275 : decode cL_law 275 = .ok (.iconst 2, 1) := by decide +kernel
theorem dL_law_276 : decode cL_law 276 = .ok (.iadd, 1) := by decide +kernel
theorem dL_law_277 : decode cL_law 277 = .ok (.iaload, 1) := by decide +kernel
theorem dL_law_278 : decode cL_law 278 = .ok (.invokevirtual 38, 3) := by decide +kernel
theorem dL_law_281 : decode cL_law 281 = .ok (.aload_n 2, 1) := by decide +kernel
theorem dL_law_282 : decode cL_law 282 = .ok (.aload_n 0, 1) := by decide +kernel
theorem dL_law_283 : decode cL_law 283 = .ok (.iload_n 3, 1) := by decide +kernel
theorem dL_law_284 : decode cL_law 284 = .ok (.iconst 1, 1) := by decide +kernel
theorem dL_law_285 : decode cL_law 285 = .ok (.iadd, 1) := by decide +kernel
theorem dL_law_286 : decode cL_law 286 = .ok (.iaload, 1) := by decide +kernel
theorem dL_law_287 : decode cL_law 287 = .ok (.aload_n 0, 1) := by decide +kernel
theorem dL_law_288 : decode cL_law 288 = .ok (.iload_n 3, 1) := by decide +kernel
theorem dL_law_289 : decode cL_law 289 = .ok (.iconst 2, 1) := by decide +kernel
theorem dL_law_290 : decode cL_law 290 = .ok (.iadd, 1) := by decide +kernel
theorem dL_law_291 : decode cL_law 291 = .ok (.iaload, 1) := by decide +kernel
theorem dL_law_292 : decode cL_law 292 = .ok (.invokevirtual 42, 3) := by decide +kernel
theorem dL_law_295 : decode cL_law 295 = .ok (.lcmp, 1) := by decide +kernel
theorem dL_law_296 : decode cL_law 296 = .ok (.ifCond .eq 372, 3) := by decide +kernel
theorem dL_law_299 : decode cL_law 299 = .ok (.iconst 0, 1) := by decide +kernel
theorem dL_law_300 : decode cL_law 300 = .ok (.ireturn, 1) := by decide +kernel
theorem dL_law_301 : decode cL_law 301 = .ok (.aload_n 1, 1) := by decide +kernel
theorem dL_law_302 : decode cL_law 302 = .ok (.aload_n 0, 1) := by decide +kernel
theorem dL_law_303 : decode cL_law 303 = .ok (.iload_n 3, 1) := by decide +kernel
theorem dL_law_304 : decode cL_law 304 = .ok (.iconst 1, 1) := by decide +kernel
theorem dL_law_305 : decode cL_law 305 = .ok (.iadd, 1) := by decide +kernel
theorem dL_law_306 : decode cL_law 306 = .ok (.iaload, 1) := by decide +kernel
theorem dL_law_307 : decode cL_law 307 = .ok (.aload_n 0, 1) := by decide +kernel
theorem dL_law_308 : decode cL_law 308 = .ok (.iload_n 3, 1) := by decide +kernel
theorem dL_law_309 : decode cL_law 309 = .ok (.iconst 2, 1) := by decide +kernel
theorem dL_law_310 : decode cL_law 310 = .ok (.iadd, 1) := by decide +kernel
theorem dL_law_311 : decode cL_law 311 = .ok (.iaload, 1) := by decide +kernel
theorem dL_law_312 : decode cL_law 312 = .ok (.invokevirtual 43, 3) := by decide +kernel
theorem dL_law_315 : decode cL_law 315 = .ok (.aload_n 2, 1) := by decide +kernel
theorem dL_law_316 : decode cL_law 316 = .ok (.aload_n 0, 1) := by decide +kernel
theorem dL_law_317 : decode cL_law 317 = .ok (.iload_n 3, 1) := by decide +kernel
theorem dL_law_318 : decode cL_law 318 = .ok (.iconst 1, 1) := by decide +kernel
theorem dL_law_319 : decode cL_law 319 = .ok (.iadd, 1) := by decide +kernel
theorem dL_law_320 : decode cL_law 320 = .ok (.iaload, 1) := by decide +kernel
theorem dL_law_321 : decode cL_law 321 = .ok (.aload_n 0, 1) := by decide +kernel
theorem dL_law_322 : decode cL_law 322 = .ok (.iload_n 3, 1) := by decide +kernel
theorem dL_law_323 : decode cL_law 323 = .ok (.iconst 2, 1) := by decide +kernel
theorem dL_law_324 : decode cL_law 324 = .ok (.iadd, 1) := by decide +kernel
theorem dL_law_325 : decode cL_law 325 = .ok (.iaload, 1) := by decide +kernel
theorem dL_law_326 : decode cL_law 326 = .ok (.invokevirtual 47, 3) := by decide +kernel
theorem dL_law_329 : decode cL_law 329 = .ok (.if_icmp .eq 339, 3) := by decide +kernel
theorem dL_law_332 : decode cL_law 332 = .ok (.iconst 0, 1) := by decide +kernel
theorem dL_law_333 : decode cL_law 333 = .ok (.ireturn, 1) := by decide +kernel
theorem dL_law_334 : decode cL_law 334 = .ok (.aload_n 1, 1) := by decide +kernel
theorem dL_law_335 : decode cL_law 335 = .ok (.aload_n 0, 1) := by decide +kernel
theorem dL_law_336 : decode cL_law 336 = .ok (.iload_n 3, 1) := by decide +kernel
theorem dL_law_337 : decode cL_law 337 = .ok (.iconst 1, 1) := by decide +kernel
theorem dL_law_338 : decode cL_law 338 = .ok (.iadd, 1) := by decide +kernel
theorem dL_law_339 : decode cL_law 339 = .ok (.iaload, 1) := by decide +kernel
theorem dL_law_340 : decode cL_law 340 = .ok (.aload_n 0, 1) := by decide +kernel
theorem dL_law_341 : decode cL_law 341 = .ok (.iload_n 3, 1) := by decide +kernel
theorem dL_law_342 : decode cL_law 342 = .ok (.iconst 2, 1) := by decide +kernel
theorem dL_law_343 : decode cL_law 343 = .ok (.iadd, 1) := by decide +kernel
theorem dL_law_344 : decode cL_law 344 = .ok (.iaload, 1) := by decide +kernel
theorem dL_law_345 : decode cL_law 345 = .ok (.invokevirtual 48, 3) := by decide +kernel
theorem dL_law_348 : decode cL_law 348 = .ok (.aload_n 2, 1) := by decide +kernel
theorem dL_law_349 : decode cL_law 349 = .ok (.aload_n 0, 1) := by decide +kernel
theorem dL_law_350 : decode cL_law 350 = .ok (.iload_n 3, 1) := by decide +kernel
theorem dL_law_351 : decode cL_law 351 = .ok (.iconst 1, 1) := by decide +kernel
theorem dL_law_352 : decode cL_law 352 = .ok (.iadd, 1) := by decide +kernel
theorem dL_law_353 : decode cL_law 353 = .ok (.iaload, 1) := by decide +kernel
theorem dL_law_354 : decode cL_law 354 = .ok (.aload_n 0, 1) := by decide +kernel
theorem dL_law_355 : decode cL_law 355 = .ok (.iload_n 3, 1) := by decide +kernel
theorem dL_law_356 : decode cL_law 356 = .ok (.iconst 2, 1) := by decide +kernel
theorem dL_law_357 : decode cL_law 357 = .ok (.iadd, 1) := by decide +kernel
theorem dL_law_358 : decode cL_law 358 = .ok (.iaload, 1) := by decide +kernel
theorem dL_law_359 : decode cL_law 359 = .ok (.invokevirtual 51, 3) := by decide +kernel
theorem dL_law_362 : decode cL_law 362 = .ok (.if_icmp .eq 306, 3) := by decide +kernel
theorem dL_law_365 : decode cL_law 365 = .ok (.iconst 0, 1) := by decide +kernel
theorem dL_law_366 : decode cL_law 366 = .ok (.ireturn, 1) := by decide +kernel
theorem dL_law_367 : decode cL_law 367 = .ok (.aload_n 1, 1) := by decide +kernel
theorem dL_law_368 : decode cL_law 368 = .ok (.aload_n 0, 1) := by decide +kernel
theorem dL_law_369 : decode cL_law 369 = .ok (.iload_n 3, 1) := by decide +kernel
theorem dL_law_370 : decode cL_law 370 = .ok (.iconst 1, 1) := by decide +kernel
theorem dL_law_371 : decode cL_law 371 = .ok (.iadd, 1) := by decide +kernel
theorem dL_law_372 : decode cL_law 372 = .ok (.iaload, 1) := by decide +kernel
theorem dL_law_373 : decode cL_law 373 = .ok (.invokevirtual 52, 3) := by decide +kernel
theorem dL_law_376 : decode cL_law 376 = .ok (.aload_n 2, 1) := by decide +kernel
theorem dL_law_377 : decode cL_law 377 = .ok (.aload_n 0, 1) := by decide +kernel
theorem dL_law_378 : decode cL_law 378 = .ok (.iload_n 3, 1) := by decide +kernel
theorem dL_law_379 : decode cL_law 379 = .ok (.iconst 1, 1) := by decide +kernel
theorem dL_law_380 : decode cL_law 380 = .ok (.iadd, 1) := by decide +kernel
theorem dL_law_381 : decode cL_law 381 = .ok (.iaload, 1) := by decide +kernel
theorem dL_law_382 : decode cL_law 382 = .ok (.invokevirtual 55, 3) := by decide +kernel
theorem dL_law_385 : decode cL_law 385 = .ok (.if_icmp .eq 283, 3) := by decide +kernel
theorem dL_law_388 : decode cL_law 388 = .ok (.iconst 0, 1) := by decide +kernel
theorem dL_law_389 : decode cL_law 389 = .ok (.ireturn, 1) := by decide +kernel
theorem dL_law_390 : decode cL_law 390 = .ok (.aload_n 1, 1) := by decide +kernel
theorem dL_law_391 : decode cL_law 391 = .ok (.aload_n 0, 1) := by decide +kernel
theorem dL_law_392 : decode cL_law 392 = .ok (.iload_n 3, 1) := by decide +kernel
theorem dL_law_393 : decode cL_law 393 = .ok (.iconst 1, 1) := by decide +kernel
theorem dL_law_394 : decode cL_law 394 = .ok (.iadd, 1) := by decide +kernel
theorem dL_law_395 : decode cL_law 395 = .ok (.iaload, 1) := by decide +kernel
theorem dL_law_396 : decode cL_law 396 = .ok (.invokevirtual 56, 3) := by decide +kernel
theorem dL_law_399 : decode cL_law 399 = .ok (.aload_n 2, 1) := by decide +kernel
theorem dL_law_400 : decode cL_law 400 = .ok (.aload_n 0, 1) := by decide +kernel
theorem dL_law_401 : decode cL_law 401 = .ok (.iload_n 3, 1) := by decide +kernel
theorem dL_law_402 : decode cL_law 402 = .ok (.iconst 1, 1) := by decide +kernel
theorem dL_law_403 : decode cL_law 403 = .ok (.iadd, 1) := by decide +kernel
theorem dL_law_404 : decode cL_law 404 = .ok (.iaload, 1) := by decide +kernel
theorem dL_law_405 : decode cL_law 405 = .ok (.invokevirtual 60, 3) := by decide +kernel
theorem dL_law_408 : decode cL_law 408 = .ok (.lcmp, 1) := by decide +kernel
theorem dL_law_409 : decode cL_law 409 = .ok (.ifCond .eq 259, 3) := by decide +kernel
theorem dL_law_412 : decode cL_law 412 = .ok (.iconst 0, 1) := by decide +kernel
theorem dL_law_413 : decode cL_law 413 = .ok (.ireturn, 1) := by decide +kernel
theorem dL_law_414 : decode cL_law 414 = .ok (.aload_n 1, 1) := by decide +kernel
theorem dL_law_415 : decode cL_law 415 = .ok (.aload_n 0, 1) := by decide +kernel
theorem dL_law_416 : decode cL_law 416 = .ok (.iload_n 3, 1) := by decide +kernel
theorem dL_law_417 : decode cL_law 417 = .ok (.iconst 1, 1) := by decide +kernel
theorem dL_law_418 : decode cL_law 418 = .ok (.iadd, 1) := by decide +kernel
theorem dL_law_419 : decode cL_law 419 = .ok (.iaload, 1) := by decide +kernel
theorem dL_law_420 : decode cL_law 420 = .ok (.aload_n 0, 1) := by decide +kernel
theorem dL_law_421 : decode cL_law 421 = .ok (.iload_n 3, 1) := by decide +kernel
theorem dL_law_422 : decode cL_law 422 = .ok (.iconst 2, 1) := by decide +kernel
theorem dL_law_423 : decode cL_law 423 = .ok (.iadd, 1) := by decide +kernel
theorem dL_law_424 : decode cL_law 424 = .ok (.iaload, 1) := by decide +kernel
theorem dL_law_425 : decode cL_law 425 = .ok (.invokevirtual 61, 3) := by decide +kernel
theorem dL_law_428 : decode cL_law 428 = .ok (.aload_n 2, 1) := by decide +kernel
theorem dL_law_429 : decode cL_law 429 = .ok (.aload_n 0, 1) := by decide +kernel
theorem dL_law_430 : decode cL_law 430 = .ok (.iload_n 3, 1) := by decide +kernel
theorem dL_law_431 : decode cL_law 431 = .ok (.iconst 1, 1) := by decide +kernel
theorem dL_law_432 : decode cL_law 432 = .ok (.iadd, 1) := by decide +kernel
theorem dL_law_433 : decode cL_law 433 = .ok (.iaload, 1) := by decide +kernel
theorem dL_law_434 : decode cL_law 434 = .ok (.aload_n 0, 1) := by decide +kernel
theorem dL_law_435 : decode cL_law 435 = .ok (.iload_n 3, 1) := by decide +kernel
theorem dL_law_436 : decode cL_law 436 = .ok (.iconst 2, 1) := by decide +kernel
theorem dL_law_437 : decode cL_law 437 = .ok (.iadd, 1) := by decide +kernel
theorem dL_law_438 : decode cL_law 438 = .ok (.iaload, 1) := by decide +kernel
theorem dL_law_439 : decode cL_law 439 = .ok (.invokevirtual 64, 3) := by decide +kernel
theorem dL_law_442 : decode cL_law 442 = .ok (.if_icmp .eq 226, 3) := by decide +kernel
theorem dL_law_445 : decode cL_law 445 = .ok (.iconst 0, 1) := by decide +kernel
theorem dL_law_446 : decode cL_law 446 = .ok (.ireturn, 1) := by decide +kernel
theorem dL_law_447 : decode cL_law 447 = .ok (.aload_n 1, 1) := by decide +kernel
theorem dL_law_448 : decode cL_law 448 = .ok (.aload_n 0, 1) := by decide +kernel
theorem dL_law_449 : decode cL_law 449 = .ok (.iload_n 3, 1) := by decide +kernel
theorem dL_law_450 : decode cL_law 450 = .ok (.iconst 1, 1) := by decide +kernel
theorem dL_law_451 : decode cL_law 451 = .ok (.iadd, 1) := by decide +kernel
theorem dL_law_452 : decode cL_law 452 = .ok (.iaload, 1) := by decide +kernel
theorem dL_law_453 : decode cL_law 453 = .ok (.aload_n 0, 1) := by decide +kernel
theorem dL_law_454 : decode cL_law 454 = .ok (.iload_n 3, 1) := by decide +kernel
theorem dL_law_455 : decode cL_law 455 = .ok (.iconst 2, 1) := by decide +kernel
theorem dL_law_456 : decode cL_law 456 = .ok (.iadd, 1) := by decide +kernel
theorem dL_law_457 : decode cL_law 457 = .ok (.iaload, 1) := by decide +kernel
theorem dL_law_458 : decode cL_law 458 = .ok (.invokevirtual 65, 3) := by decide +kernel
theorem dL_law_461 : decode cL_law 461 = .ok (.aload_n 2, 1) := by decide +kernel
theorem dL_law_462 : decode cL_law 462 = .ok (.aload_n 0, 1) := by decide +kernel
theorem dL_law_463 : decode cL_law 463 = .ok (.iload_n 3, 1) := by decide +kernel
theorem dL_law_464 : decode cL_law 464 = .ok (.iconst 1, 1) := by decide +kernel
theorem dL_law_465 : decode cL_law 465 = .ok (.iadd, 1) := by decide +kernel
theorem dL_law_466 : decode cL_law 466 = .ok (.iaload, 1) := by decide +kernel
theorem dL_law_467 : decode cL_law 467 = .ok (.aload_n 0, 1) := by decide +kernel
theorem dL_law_468 : decode cL_law 468 = .ok (.iload_n 3, 1) := by decide +kernel
theorem dL_law_469 : decode cL_law 469 = .ok (.iconst 2, 1) := by decide +kernel
theorem dL_law_470 : decode cL_law 470 = .ok (.iadd, 1) := by decide +kernel
theorem dL_law_471 : decode cL_law 471 = .ok (.iaload, 1) := by decide +kernel
theorem dL_law_472 : decode cL_law 472 = .ok (.invokevirtual 68, 3) := by decide +kernel
theorem dL_law_475 : decode cL_law 475 = .ok (.if_icmp .eq 193, 3) := by decide +kernel
theorem dL_law_478 : decode cL_law 478 = .ok (.iconst 0, 1) := by decide +kernel
theorem dL_law_479 : decode cL_law 479 = .ok (.ireturn, 1) := by decide +kernel
theorem dL_law_480 : decode cL_law 480 = .ok (.aload_n 1, 1) := by decide +kernel
theorem dL_law_481 : decode cL_law 481 = .ok (.invokevirtual 69, 3) := by decide +kernel
theorem dL_law_484 : decode cL_law 484 = .ok (.aload_n 2, 1) := by decide +kernel
theorem dL_law_485 : decode cL_law 485 = .ok (.invokevirtual 72, 3) := by decide +kernel
theorem dL_law_488 : decode cL_law 488 = .ok (.if_icmp .eq 180, 3) := by decide +kernel
theorem dL_law_491 : decode cL_law 491 = .ok (.iconst 0, 1) := by decide +kernel
theorem dL_law_492 : decode cL_law 492 = .ok (.ireturn, 1) := by decide +kernel
theorem dL_law_493 : decode cL_law 493 = .ok (.aload_n 1, 1) := by decide +kernel
theorem dL_law_494 : decode cL_law 494 = .ok (.aload_n 0, 1) := by decide +kernel
theorem dL_law_495 : decode cL_law 495 = .ok (.iload_n 3, 1) := by decide +kernel
theorem dL_law_496 : decode cL_law 496 = .ok (.iconst 1, 1) := by decide +kernel
theorem dL_law_497 : decode cL_law 497 = .ok (.iadd, 1) := by decide +kernel
theorem dL_law_498 : decode cL_law 498 = .ok (.iaload, 1) := by decide +kernel
theorem dL_law_499 : decode cL_law 499 = .ok (.invokevirtual 73, 3) := by decide +kernel
theorem dL_law_502 : decode cL_law 502 = .ok (.aload_n 2, 1) := by decide +kernel
theorem dL_law_503 : decode cL_law 503 = .ok (.aload_n 0, 1) := by decide +kernel
theorem dL_law_504 : decode cL_law 504 = .ok (.iload_n 3, 1) := by decide +kernel
theorem dL_law_505 : decode cL_law 505 = .ok (.iconst 1, 1) := by decide +kernel
theorem dL_law_506 : decode cL_law 506 = .ok (.iadd, 1) := by decide +kernel
theorem dL_law_507 : decode cL_law 507 = .ok (.iaload, 1) := by decide +kernel
theorem dL_law_508 : decode cL_law 508 = .ok (.invokevirtual 76, 3) := by decide +kernel
theorem dL_law_511 : decode cL_law 511 = .ok (.if_icmp .eq 157, 3) := by decide +kernel
theorem dL_law_514 : decode cL_law 514 = .ok (.iconst 0, 1) := by decide +kernel
theorem dL_law_515 : decode cL_law 515 = .ok (.ireturn, 1) := by decide +kernel
theorem dL_law_516 : decode cL_law 516 = .ok (.aload_n 1, 1) := by decide +kernel
theorem dL_law_517 : decode cL_law 517 = .ok (.aload_n 0, 1) := by decide +kernel
theorem dL_law_518 : decode cL_law 518 = .ok (.iload_n 3, 1) := by decide +kernel
theorem dL_law_519 : decode cL_law 519 = .ok (.iconst 1, 1) := by decide +kernel
theorem dL_law_520 : decode cL_law 520 = .ok (.iadd, 1) := by decide +kernel
theorem dL_law_521 : decode cL_law 521 = .ok (.iaload, 1) := by decide +kernel
theorem dL_law_522 : decode cL_law 522 = .ok (.aload_n 0, 1) := by decide +kernel
theorem dL_law_523 : decode cL_law 523 = .ok (.iload_n 3, 1) := by decide +kernel
theorem dL_law_524 : decode cL_law 524 = .ok (.iconst 2, 1) := by decide +kernel
theorem dL_law_525 : decode cL_law 525 = .ok (.iadd, 1) := by decide +kernel
theorem dL_law_526 : decode cL_law 526 = .ok (.iaload, 1) := by decide +kernel
theorem dL_law_527 : decode cL_law 527 = .ok (.invokevirtual 77, 3) := by decide +kernel
theorem dL_law_530 : decode cL_law 530 = .ok (.aload_n 2, 1) := by decide +kernel
theorem dL_law_531 : decode cL_law 531 = .ok (.aload_n 0, 1) := by decide +kernel
theorem dL_law_532 : decode cL_law 532 = .ok (.iload_n 3, 1) := by decide +kernel
theorem dL_law_533 : decode cL_law 533 = .ok (.iconst 1, 1) := by decide +kernel
theorem dL_law_534 : decode cL_law 534 = .ok (.iadd, 1) := by decide +kernel
theorem dL_law_535 : decode cL_law 535 = .ok (.iaload, 1) := by decide +kernel
theorem dL_law_536 : decode cL_law 536 = .ok (.aload_n 0, 1) := by decide +kernel
theorem dL_law_537 : decode cL_law 537 = .ok (.iload_n 3, 1) := by decide +kernel
theorem dL_law_538 : decode cL_law 538 = .ok (.iconst 2, 1) := by decide +kernel
theorem dL_law_539 : decode cL_law 539 = .ok (.iadd, 1) := by decide +kernel
theorem dL_law_540 : decode cL_law 540 = .ok (.iaload, 1) := by decide +kernel
theorem dL_law_541 : decode cL_law 541 = .ok (.invokevirtual 80, 3) := by decide +kernel
theorem dL_law_544 : decode cL_law 544 = .ok (.lcmp, 1) := by decide +kernel
theorem dL_law_545 : decode cL_law 545 = .ok (.ifCond .eq 123, 3) := by decide +kernel
theorem dL_law_548 : decode cL_law 548 = .ok (.iconst 0, 1) := by decide +kernel
theorem dL_law_549 : decode cL_law 549 = .ok (.ireturn, 1) := by decide +kernel
theorem dL_law_550 : decode cL_law 550 = .ok (.aload_n 1, 1) := by decide +kernel
theorem dL_law_551 : decode cL_law 551 = .ok (.invokevirtual 81, 3) := by decide +kernel
theorem dL_law_554 : decode cL_law 554 = .ok (.aload_n 2, 1) := by decide +kernel
theorem dL_law_555 : decode cL_law 555 = .ok (.invokevirtual 84, 3) := by decide +kernel
theorem dL_law_558 : decode cL_law 558 = .ok (.if_icmp .eq 110, 3) := by decide +kernel
theorem dL_law_561 : decode cL_law 561 = .ok (.iconst 0, 1) := by decide +kernel
theorem dL_law_562 : decode cL_law 562 = .ok (.ireturn, 1) := by decide +kernel
theorem dL_law_563 : decode cL_law 563 = .ok (.aload_n 1, 1) := by decide +kernel
theorem dL_law_564 : decode cL_law 564 = .ok (.invokevirtual 85, 3) := by decide +kernel
theorem dL_law_567 : decode cL_law 567 = .ok (.aload_n 2, 1) := by decide +kernel
theorem dL_law_568 : decode cL_law 568 = .ok (.invokevirtual 88, 3) := by decide +kernel
theorem dL_law_571 : decode cL_law 571 = .ok (.if_icmp .eq 97, 3) := by decide +kernel
theorem dL_law_574 : decode cL_law 574 = .ok (.iconst 0, 1) := by decide +kernel
theorem dL_law_575 : decode cL_law 575 = .ok (.ireturn, 1) := by decide +kernel
theorem dL_law_576 : decode cL_law 576 = .ok (.aload_n 1, 1) := by decide +kernel
theorem dL_law_577 : decode cL_law 577 = .ok (.aload_n 0, 1) := by decide +kernel
theorem dL_law_578 : decode cL_law 578 = .ok (.iload_n 3, 1) := by decide +kernel
theorem dL_law_579 : decode cL_law 579 = .ok (.iconst 1, 1) := by decide +kernel
theorem dL_law_580 : decode cL_law 580 = .ok (.iadd, 1) := by decide +kernel
theorem dL_law_581 : decode cL_law 581 = .ok (.iaload, 1) := by decide +kernel
theorem dL_law_582 : decode cL_law 582 = .ok (.aload_n 0, 1) := by decide +kernel
theorem dL_law_583 : decode cL_law 583 = .ok (.iload_n 3, 1) := by decide +kernel
theorem dL_law_584 : decode cL_law 584 = .ok (.iconst 2, 1) := by decide +kernel
theorem dL_law_585 : decode cL_law 585 = .ok (.iadd, 1) := by decide +kernel
theorem dL_law_586 : decode cL_law 586 = .ok (.iaload, 1) := by decide +kernel
theorem dL_law_587 : decode cL_law 587 = .ok (.invokevirtual 89, 3) := by decide +kernel
theorem dL_law_590 : decode cL_law 590 = .ok (.aload_n 2, 1) := by decide +kernel
theorem dL_law_591 : decode cL_law 591 = .ok (.aload_n 0, 1) := by decide +kernel
theorem dL_law_592 : decode cL_law 592 = .ok (.iload_n 3, 1) := by decide +kernel
theorem dL_law_593 : decode cL_law 593 = .ok (.iconst 1, 1) := by decide +kernel
theorem dL_law_594 : decode cL_law 594 = .ok (.iadd, 1) := by decide +kernel
theorem dL_law_595 : decode cL_law 595 = .ok (.iaload, 1) := by decide +kernel
theorem dL_law_596 : decode cL_law 596 = .ok (.aload_n 0, 1) := by decide +kernel
theorem dL_law_597 : decode cL_law 597 = .ok (.iload_n 3, 1) := by decide +kernel
theorem dL_law_598 : decode cL_law 598 = .ok (.iconst 2, 1) := by decide +kernel
theorem dL_law_599 : decode cL_law 599 = .ok (.iadd, 1) := by decide +kernel
theorem dL_law_600 : decode cL_law 600 = .ok (.iaload, 1) := by decide +kernel
theorem dL_law_601 : decode cL_law 601 = .ok (.invokevirtual 92, 3) := by decide +kernel
theorem dL_law_604 : decode cL_law 604 = .ok (.if_icmp .eq 64, 3) := by decide +kernel
theorem dL_law_607 : decode cL_law 607 = .ok (.iconst 0, 1) := by decide +kernel
theorem dL_law_608 : decode cL_law 608 = .ok (.ireturn, 1) := by decide +kernel
theorem dL_law_609 : decode cL_law 609 = .ok (.aload_n 1, 1) := by decide +kernel
theorem dL_law_610 : decode cL_law 610 = .ok (.aload_n 0, 1) := by decide +kernel
theorem dL_law_611 : decode cL_law 611 = .ok (.iload_n 3, 1) := by decide +kernel
theorem dL_law_612 : decode cL_law 612 = .ok (.iconst 1, 1) := by decide +kernel
theorem dL_law_613 : decode cL_law 613 = .ok (.iadd, 1) := by decide +kernel
theorem dL_law_614 : decode cL_law 614 = .ok (.iaload, 1) := by decide +kernel
theorem dL_law_615 : decode cL_law 615 = .ok (.invokevirtual 93, 3) := by decide +kernel
theorem dL_law_618 : decode cL_law 618 = .ok (.aload_n 2, 1) := by decide +kernel
theorem dL_law_619 : decode cL_law 619 = .ok (.aload_n 0, 1) := by decide +kernel
theorem dL_law_620 : decode cL_law 620 = .ok (.iload_n 3, 1) := by decide +kernel
theorem dL_law_621 : decode cL_law 621 = .ok (.iconst 1, 1) := by decide +kernel
theorem dL_law_622 : decode cL_law 622 = .ok (.iadd, 1) := by decide +kernel
theorem dL_law_623 : decode cL_law 623 = .ok (.iaload, 1) := by decide +kernel
theorem dL_law_624 : decode cL_law 624 = .ok (.invokevirtual 96, 3) := by decide +kernel
theorem dL_law_627 : decode cL_law 627 = .ok (.if_icmp .eq 41, 3) := by decide +kernel
theorem dL_law_630 : decode cL_law 630 = .ok (.iconst 0, 1) := by decide +kernel
theorem dL_law_631 : decode cL_law 631 = .ok (.ireturn, 1) := by decide +kernel
theorem dL_law_632 : decode cL_law 632 = .ok (.aload_n 1, 1) := by decide +kernel
theorem dL_law_633 : decode cL_law 633 = .ok (.invokevirtual 97, 3) := by decide +kernel
theorem dL_law_636 : decode cL_law 636 = .ok (.aload_n 2, 1) := by decide +kernel
theorem dL_law_637 : decode cL_law 637 = .ok (.invokevirtual 100, 3) := by decide +kernel
theorem dL_law_640 : decode cL_law 640 = .ok (.if_icmp .eq 28, 3) := by decide +kernel
theorem dL_law_643 : decode cL_law 643 = .ok (.iconst 0, 1) := by decide +kernel
theorem dL_law_644 : decode cL_law 644 = .ok (.ireturn, 1) := by decide +kernel
theorem dL_law_645 : decode cL_law 645 = .ok (.aload_n 1, 1) := by decide +kernel
theorem dL_law_646 : decode cL_law 646 = .ok (.aload_n 0, 1) := by decide +kernel
theorem dL_law_647 : decode cL_law 647 = .ok (.iload_n 3, 1) := by decide +kernel
theorem dL_law_648 : decode cL_law 648 = .ok (.iconst 1, 1) := by decide +kernel
theorem dL_law_649 : decode cL_law 649 = .ok (.iadd, 1) := by decide +kernel
theorem dL_law_650 : decode cL_law 650 = .ok (.iaload, 1) := by decide +kernel
theorem dL_law_651 : decode cL_law 651 = .ok (.invokevirtual 101, 3) := by decide +kernel
theorem dL_law_654 : decode cL_law 654 = .ok (.aload_n 2, 1) := by decide +kernel
theorem dL_law_655 : decode cL_law 655 = .ok (.aload_n 0, 1) := by decide +kernel
theorem dL_law_656 : decode cL_law 656 = .ok (.iload_n 3, 1) := by decide +kernel
theorem dL_law_657 : decode cL_law 657 = .ok (.iconst 1, 1) := by decide +kernel
theorem dL_law_658 : decode cL_law 658 = .ok (.iadd, 1) := by decide +kernel
theorem dL_law_659 : decode cL_law 659 = .ok (.iaload, 1) := by decide +kernel
theorem dL_law_660 : decode cL_law 660 = .ok (.invokevirtual 104, 3) := by decide +kernel
theorem dL_law_663 : decode cL_law 663 = .ok (.if_icmp .eq 5, 3) := by decide +kernel
theorem dL_law_666 : decode cL_law 666 = .ok (.iconst 0, 1) := by decide +kernel
theorem dL_law_667 : decode cL_law 667 = .ok (.ireturn, 1) := by decide +kernel
theorem dL_law_668 : decode cL_law 668 = .ok (.iinc 3 4, 3) := by decide +kernel
theorem dL_law_671 : decode cL_law 671 = .ok (.goto (-653), 3) := by decide +kernel
theorem dL_law_674 : decode cL_law 674 = .ok (.iconst 1, 1) := by decide +kernel
theorem dL_law_675 : decode cL_law 675 = .ok (.ireturn, 1) := by decide +kernel
end
section
/-! THE FLAT MEMORY. Both objects and all that hangs on them are 70 cells, which never change their places: cell 0 the SpanBench, 44 the reference; what a cell's slot k holds is a whole number X c k (an int, a boolean or a long of the machine is that number, cut to its width); references never change. -/
abbrev AV : Type := Int ⊕ (Int ⊕ Nat)
abbrev vI (a : Int) : AV := .inl a
abbrev vJ (a : Int) : AV := .inr (.inl a)
abbrev vR (c : Nat) : AV := .inr (.inr c)
abbrev Mm : Type := Nat → Nat → Int
abbrev Geo : Type := (Nat → Nat) × ClassId × ClassId × ClassId × va_G
def cv (g : Geo) (v : AV) : Value := match v with
  | .inl a => .int (Int32.ofInt a)
  | .inr (.inl a) => .long (Int64.ofInt a)
  | .inr (.inr c) => .ref (g.1 c)
def cat (v : AV) : Nat := match v with
  | .inl _ => 1
  | .inr (.inl _) => 2
  | .inr (.inr _) => 1
theorem cv_cat (g : Geo) (v : AV) : (cv g v).category = cat v := by
  rcases v with a | a | a <;> rfl
def LK : List (Nat × Nat) := [(7, 0), (4, 0), (9, 8), (9, 8), (9, 8), (3, 0), (9, 8), (9, 8), (9, 8), (9, 8), (10, 64), (3, 0), (9, 8), (9, 8), (9, 8), (9, 8), (10, 64), (6, 0), (9, 8), (10, 9), (10, 9), (10, 8), (10, 8), (6, 0), (9, 8), (10, 9), (10, 9), (10, 8), (10, 8), (5, 0), (5, 0), (1, 0), (9, 8), (9, 8), (9, 8), (9, 2000), (9, 2000), (2, 0), (11, 720), (9, 720), (9, 6), (9, 6), (0, 0), (9, 16), (8, 0), (9, 8), (9, 8), (9, 8), (10, 8), (10, 8), (9, 8), (9, 8), (10, 64), (10, 8), (10, 8), (9, 8), (9, 8), (10, 64), (9, 2000), (9, 2000), (9, 2000), (9, 2000), (9, 2000), (11, 2000), (10, 80), (10, 80), (9, 800), (9, 8), (9, 8), (9, 16)]
def kd (i : Nat) : Nat := (LK.getD i (12, 0)).1
def ln (i : Nat) : Nat := (LK.getD i (12, 0)).2
theorem kd_lt {i k : Nat} (h : kd i = k) (hk : k < 12) : i < 70 := by
  rcases Nat.lt_or_ge i 70 with q | q
  · exact q
  · exfalso
    have e : LK[i]? = none := List.getElem?_eq_none (by rw [show LK.length = 70 from rfl]; exact q)
    have h2 : kd i = 12 := by unfold kd; rw [List.getD_eq_getElem?_getD, e]; rfl
    omega
def cty (ci : Nat) : Nat → FieldType := match ci with
  | 0 => tyX0 | 1 => tyX1 | 2 => tyX2 | 3 => tyX3 | 4 => tyX4 | 5 => tyX5 | 6 => tyX6 | 7 => tyX7 | _ => tyX8
def cN (ci : Nat) : Nat := match ci with
  | 0 => 2 | 1 => 6 | 2 => 6 | 3 => 9 | 4 => 4 | 5 => 3 | 6 => 7 | 7 => 11 | _ => 39
def rfo (ci k : Nat) : Nat := (match ci with
  | 0 => [0, 1]
  | 1 => [0, 1, 2, 3, 4, 5]
  | 2 => [0, 0, 1, 2, 3, 4]
  | 3 => [0, 0, 0, 0, 1, 2, 3, 4, 5]
  | 4 => [0, 1, 2, 3]
  | 5 => [0, 0, 0]
  | 6 => [0, 0, 1, 2, 3, 4, 5]
  | 7 => [0, 1, 5, 11, 17, 23, 29, 30, 31, 37, 42]
  | _ => [0, 1, 2, 0, 3, 0, 4, 5, 6, 7, 8, 0, 0, 0, 0, 0, 0, 0, 0, 0, 9, 10, 11, 12, 13, 0, 14, 15, 16, 17, 18, 19, 20, 21, 22, 0, 23, 24, 25]
  ).getD k 0
def fv (g : Geo) (i ci k : Nat) (x : Nat → Int) : Value := match cty ci k with
  | .int => .int (Int32.ofInt (x k))
  | .boolean => .int (Int32.ofInt (x k))
  | .long => .long (Int64.ofInt (x k))
  | _ => .ref (g.1 (i + rfo ci k))
def fl (g : Geo) (i ci : Nat) (x : Nat → Int) : List Value := (List.range (cN ci)).map (fun k => fv g i ci k x)
def ce (g : Geo) (i : Nat) (x : Nat → Int) : va_E :=
  if kd i = 9 then .inl (g.2.1, ln i, .inl (fun j => Int32.ofInt (x j)))
  else if kd i = 10 then .inl (g.2.2.1, ln i, .inr (.inl (fun j => Int64.ofInt (x j))))
  else if kd i = 11 then .inl (g.2.2.2.1, ln i, .inl (fun j => Int32.ofInt (x j)))
  else .inr (kd i, fl g i (kd i) x)
def wl (g : Geo) (X : Mm) : va_W := (List.range 70).map (fun i => (g.1 i, ce g i (X i)))
def tys (g : Geo) : List (ClassId × FieldType) := [(g.2.1, .int), (g.2.2.1, .long), (g.2.2.2.1, .boolean)]
def AA (g : Geo) (sz q : Nat) : Prop := (∃ i, i < 70 ∧ q = g.1 i) ∨ sz ≤ q
def GI (g : Geo) : Prop := ∀ i j, i < 70 → j < 70 → g.1 i = g.1 j → i = j
def nw1 : Cond := .methodLinkNest RX6 45 yX7_signOf RX7
def nw2 : Cond := .methodLinkNest RX6 71 yX7_isWithin RX7
def nw3 : Cond := .methodLinkNest RX3 53 yX7_signOf RX7
def nw4 : Cond := .methodLinkNest RX3 76 yX7_isWithin RX7
def NW (U : State) : Prop := va_Nw nw1 U ∧ va_Nw nw2 U ∧ va_Nw nw3 U ∧ va_Nw nw4 U
theorem NW.warm {s U : State} (hW : s.WarmedH U.vm) (h : NW s) : NW U := ⟨va_Nw.warmM hW h.1, va_Nw.warmM hW h.2.1, va_Nw.warmM hW h.2.2.1, va_Nw.warmM hW h.2.2.2⟩
theorem NW.same {s U : State} (hW : s.vm = U.vm) (h : NW s) : NW U := ⟨va_tabs rfl hW h.1, va_tabs rfl hW h.2.1, va_tabs rfl hW h.2.2.1, va_tabs rfl hW h.2.2.2⟩
def WU (g : Geo) (X : Mm) (U : State) : Prop := va_P g.2.2.2.2 vwCl (wl g X) U.heap ∧ va_K g.2.2.2.2 vwCl (tys g) U ∧ NW U ∧ GI g
/-- a method: its name, code, locals, what it returns, frames and locals' room below it -/
abbrev Me : Type := MethodName × ByteArray × Nat × Option FieldType × Nat × Nat
def Qc (g : Geo) (rt : Option FieldType) (K : AV → Mm → Prop) (sz : Nat) : Array Value → State → Outcome → State → Prop :=
  if rt = none then va_Qv (fun u : Mm => K (vI 0) u) (fun u t => WU g u t) (AA g sz)
  else if rt = some .long then va_Ql (fun r (u : Int × Mm) => r = Int64.ofInt u.1 ∧ K (vJ u.1) u.2) (fun u t => WU g u.2 t) (AA g sz)
  else va_Qi (fun r (u : Int × Mm) => r = Int32.ofInt u.1 ∧ K (vI u.1) u.2) (fun u t => WU g u.2 t) (AA g sz)
def rM (M : Me) (kc ks : Nat) : Room := { frames := M.2.2.2.2.1, cells := kc, slots := ks, locals := M.2.2.2.2.2 }
/-- A CONTRACT: called with the numbers as over the memory X, the method comes back with an answer and a memory of which K holds -/
def Ct (l : Launch) (g : Geo) (M : Me) (as : List AV) (X : Mm) (K : AV → Mm → Prop) : Prop :=
  ∀ sz : Nat, Met l M.1 (.code M.1 M.2.1 M.2.2.1 M.2.2.2.1 :: TB) (rM M 0 0) (va_Pc (as.map (cv g)) (fun U => U.heap.size = sz ∧ WU g X U)) (Qc g M.2.2.2.1 K sz) 0 0 (AA g sz)
abbrev Kx : Type := Program × Env × State × MethodId × Array Value × List Frame × Method × Code × (Nat → Prop) × (State → Prop) × Nat × Nat
abbrev Lv : Type := List (Nat × AV)
def cvl (g : Geo) (lv : Lv) : List (Nat × Value) := lv.map (fun q => (q.1, cv g q.2))
def sto1 (k : Nat) (v : AV) (lv : Lv) : Lv := (k, v) :: lv.filter (fun q => !(q.1 == k) && !(q.1 + 1 == k && cat q.2 == 2))
def sto2 (k : Nat) (v : AV) (lv : Lv) : Lv := (k, v) :: lv.filter (fun q => !(q.1 == k) && (!(q.1 == k + 1) && !(q.1 + 1 == k && cat q.2 == 2)))
theorem sto1_cv (g : Geo) (k : Nat) (v : AV) (lv : Lv) : (k, cv g v) :: (cvl g lv).filter (fun q => !(q.1 == k) && !(q.1 + 1 == k && q.2.category == 2)) = cvl g (sto1 k v lv) := by
  unfold sto1 cvl
  simp only [List.map_cons, List.filter_map, Function.comp_def, cv_cat]
theorem sto2_cv (g : Geo) (k : Nat) (v : AV) (lv : Lv) : (k, cv g v) :: (cvl g lv).filter (fun q => !(q.1 == k) && (!(q.1 == k + 1) && !(q.1 + 1 == k && q.2.category == 2))) = cvl g (sto2 k v lv) := by
  unfold sto2 cvl
  simp only [List.map_cons, List.filter_map, Function.comp_def, cv_cat]
theorem lk_mem {lv : Lv} {k : Nat} {v : AV} (h : lv.lookup k = some v) : (k, v) ∈ lv := by
  induction lv with
  | nil => simp [List.lookup] at h
  | cons q r ih =>
    obtain ⟨i, w⟩ := q
    rw [List.lookup_cons] at h
    cases e : (k == i) with
    | true =>
      rw [e] at h
      have e1 : k = i := by simpa using e
      cases h
      rw [e1]
      exact List.mem_cons_self
    | false =>
      rw [e] at h
      exact List.mem_cons_of_mem _ (ih h)
theorem lk_at {g : Geo} {ls : Array Slot} {nL : Nat} {lv : Lv} {k : Nat} {v : AV} (hl : lv_has ls nL (cvl g lv)) (h : lv.lookup k = some v) : ls[k]? = some (.val (cv g v)) := hl.2.2 (k, cv g v) (List.mem_map.mpr ⟨(k, v), lk_mem h, rfl⟩)
/-- what holds of the machine all along a method's run -/
def Ok (l : Launch) (g : Geo) (M : Me) (κ : Kx) (K : AV → Mm → Prop) : Prop := match κ with
  | (p, e, s, m, args, below, meth, c, A, Q, kc, ks) =>
    p.tables.exec = Jvm.exec ∧ c.code = M.2.1 ∧ c.maxLocals = M.2.2.1 ∧ s.vm.findClass M.1.cls = some m.cls ∧ (∀ w ∈ TB, w.before args s = true) ∧ va_K g.2.2.2.2 vwCl (tys g) s ∧ NW s ∧ GI g ∧ (∀ q, AA g s.heap.size q → A q) ∧
    (∀ (pc : Nat) (ls : Array Slot) (H : Heap) (locs : List Loc) (X : Mm) (v : Int), decode M.2.1 pc = .ok (.ireturn, 1) → (M.2.2.2.1 = some .int ∨ (M.2.2.2.1 = some .boolean ∧ (v = 0 ∨ v = 1))) → K (vI v) X → va_P g.2.2.2.2 vwCl (wl g X) H → va_S A s.heap H locs → W p l e (rM M kc ks) s m args below meth c H locs kc ks Q (F0 m pc ls [.int (Int32.ofInt v)])) ∧
    (∀ (pc : Nat) (ls : Array Slot) (H : Heap) (locs : List Loc) (X : Mm) (v : Int), decode M.2.1 pc = .ok (.lreturn, 1) → M.2.2.2.1 = some .long → K (vJ v) X → va_P g.2.2.2.2 vwCl (wl g X) H → va_S A s.heap H locs → W p l e (rM M kc ks) s m args below meth c H locs kc ks Q (F0 m pc ls [.long (Int64.ofInt v)])) ∧
    (∀ (pc : Nat) (ls : Array Slot) (H : Heap) (locs : List Loc) (X : Mm), decode M.2.1 pc = .ok (.return_, 1) → M.2.2.2.1 = none → K (vI 0) X → va_P g.2.2.2.2 vwCl (wl g X) H → va_S A s.heap H locs → W p l e (rM M kc ks) s m args below meth c H locs kc ks Q (F0 m pc ls []))
/-- THE JUDGEMENT: at pc with these locals, this stack, this memory the run comes to its end with K -/
def G (l : Launch) (g : Geo) (M : Me) (κ : Kx) (K : AV → Mm → Prop) (pc : Nat) (lv : Lv) (st : List AV) (X : Mm) : Prop := match κ with
  | (p, e, s, m, args, below, meth, c, A, Q, kc, ks) =>
    Ok l g M (p, e, s, m, args, below, meth, c, A, Q, kc, ks) K → ∀ (H : Heap) (locs : List Loc) (ls : Array Slot), va_P g.2.2.2.2 vwCl (wl g X) H → va_S A s.heap H locs → lv_has ls M.2.2.1 (cvl g lv) → W p l e (rM M kc ks) s m args below meth c H locs kc ks Q (F0 m pc ls (st.map (cv g)))
-- the world's list
theorem wl_at (g : Geo) (X : Mm) {i : Nat} (hi : i < 70) : (wl g X)[i]? = some (g.1 i, ce g i (X i)) := by
  unfold wl
  rw [List.getElem?_map, List.getElem?_range hi]
  rfl
theorem wl_fst {g : Geo} {X : Mm} {i : Nat} {q : Nat × va_E} (h : (wl g X)[i]? = some q) : i < 70 ∧ q.1 = g.1 i := by
  have hi : i < 70 := by
    have h1 := (List.getElem?_eq_some_iff.mp h).1
    simpa [wl] using h1
  rw [wl_at g X hi] at h
  cases h
  exact ⟨hi, rfl⟩
theorem wl_D {g : Geo} (hI : GI g) (X : Mm) {A : Nat → Prop} (hA : ∀ i, i < 70 → A (g.1 i)) : va_D A (wl g X) := by
  refine ⟨fun i j p q hi hj e => ?_, fun k q hk => ?_⟩
  · obtain ⟨h1, h2⟩ := wl_fst hi
    obtain ⟨h3, h4⟩ := wl_fst hj
    exact hI i j h1 h3 (by rw [← h2, ← h4]; exact e)
  · obtain ⟨h1, h2⟩ := wl_fst hk
    rw [h2]
    exact hA k h1
/-- one slot is another number -/
def st2 (X : Mm) (a j : Nat) (v : Int) : Mm := fun c k => if c = a then (if k = j then v else X a k) else X c k
theorem st2_at (X : Mm) (a j : Nat) (v : Int) : st2 X a j v a = fun k => if k = j then v else X a k := by
  funext k
  simp [st2]
theorem st2_ne (X : Mm) {a c : Nat} (j : Nat) (v : Int) (h : c ≠ a) : st2 X a j v c = X c := by
  funext k
  simp [st2, h]
theorem wl_set (g : Geo) (X : Mm) {a j : Nat} (v : Int) (ha : a < 70) {q : va_E} (hq : q = ce g a (fun k => if k = j then v else X a k)) : (wl g X).set a (g.1 a, q) = wl g (st2 X a j v) := by
  subst hq
  apply List.ext_getElem?
  intro i
  rcases Nat.lt_or_ge i 70 with hi | hi
  · rw [wl_at g _ hi]
    by_cases e : i = a
    · subst e
      rw [List.getElem?_set_self (by simp [wl]; exact ha), st2_at]
    · rw [List.getElem?_set_ne (fun q => e q.symm), wl_at g X hi, st2_ne X j v e]
  · rw [List.getElem?_eq_none (by simp [wl]; exact hi), List.getElem?_eq_none (by simp [wl]; exact hi)]
theorem ce_i {g : Geo} {i : Nat} {x : Nat → Int} (h : kd i = 9) : ce g i x = .inl (g.2.1, ln i, .inl (fun j => Int32.ofInt (x j))) := by
  unfold ce; rw [if_pos h]
theorem ce_j {g : Geo} {i : Nat} {x : Nat → Int} (h : kd i = 10) : ce g i x = .inl (g.2.2.1, ln i, .inr (.inl (fun j => Int64.ofInt (x j)))) := by
  unfold ce; rw [if_neg (by omega), if_pos h]
theorem ce_z {g : Geo} {i : Nat} {x : Nat → Int} (h : kd i = 11) : ce g i x = .inl (g.2.2.2.1, ln i, .inl (fun j => Int32.ofInt (x j))) := by
  unfold ce; rw [if_neg (by omega), if_neg (by omega), if_pos h]
theorem ce_o {g : Geo} {i ci : Nat} {x : Nat → Int} (h : kd i = ci) (h9 : ci < 9) : ce g i x = .inr (ci, fl g i ci x) := by
  subst h; unfold ce; rw [if_neg (by omega), if_neg (by omega), if_neg (by omega)]
theorem fl_at (g : Geo) (i ci : Nat) (x : Nat → Int) {k : Nat} (hk : k < cN ci) : (fl g i ci x)[k]? = some (fv g i ci k x) := by
  unfold fl
  rw [List.getElem?_map, List.getElem?_range hk]
  rfl
theorem fl_set (g : Geo) (i ci : Nat) (x : Nat → Int) {k : Nat} (v : Int) (hk : k < cN ci) : (fl g i ci x).set k (fv g i ci k (fun j => if j = k then v else x j)) = fl g i ci (fun j => if j = k then v else x j) := by
  apply List.ext_getElem?
  intro j
  rcases Nat.lt_or_ge j (cN ci) with hj | hj
  · rw [fl_at g i ci _ hj]
    by_cases e : j = k
    · subst e
      rw [List.getElem?_set_self (by simp [fl]; exact hj)]
    · rw [List.getElem?_set_ne (fun q => e q.symm), fl_at g i ci x hj]
      congr 1
      unfold fv
      simp only [if_neg e]
  · rw [List.getElem?_eq_none (by simp [fl]; exact hj), List.getElem?_eq_none (by simp [fl]; exact hj)]
-- numbers
theorem i32_le {a : Int} (h : -2147483648 ≤ a ∧ a < 2147483648) : (Int32.ofInt a).toInt = a := Int32.toInt_ofInt_of_le (by omega) (by omega)
theorem i64_le {a : Int} (h : -9223372036854775808 ≤ a ∧ a < 9223372036854775808) : (Int64.ofInt a).toInt = a := Int64.toInt_ofInt_of_le (by omega) (by omega)
theorem i32_ix {j : Nat} (h : j < 2147483648) : (Int32.ofInt (j : Int)).toNatClampNeg = j := by
  rw [Int32.ofInt_eq_ofNat]; exact nI_clamp (by omega)
theorem i32_in {j n : Nat} (h : j < n) (hn : n < 2147483648) : vp_in (Int32.ofInt (j : Int)) n := by
  rw [Int32.ofInt_eq_ofNat]; exact vp_in_nI h (by omega)
theorem i32_lt {a b : Int} (ha : -2147483648 ≤ a ∧ a < 2147483648) (hb : -2147483648 ≤ b ∧ b < 2147483648) : Int32.ofInt a < Int32.ofInt b ↔ a < b := by
  rw [Int32.lt_iff_toInt_lt, i32_le ha, i32_le hb]
theorem i32_ile {a b : Int} (ha : -2147483648 ≤ a ∧ a < 2147483648) (hb : -2147483648 ≤ b ∧ b < 2147483648) : Int32.ofInt a ≤ Int32.ofInt b ↔ a ≤ b := by
  rw [Int32.le_iff_toInt_le, i32_le ha, i32_le hb]
theorem i32_eq {a b : Int} (ha : -2147483648 ≤ a ∧ a < 2147483648) (hb : -2147483648 ≤ b ∧ b < 2147483648) : Int32.ofInt a = Int32.ofInt b ↔ a = b := by
  rw [← Int32.toInt_inj, i32_le ha, i32_le hb]
theorem i32_0 : (0 : Int32) = Int32.ofInt 0 := rfl
theorem lg_lt {a b : Int} (ha : -9223372036854775808 ≤ a ∧ a < 9223372036854775808) (hb : -9223372036854775808 ≤ b ∧ b < 9223372036854775808) : lg_cmp (Int64.ofInt a) (Int64.ofInt b) = Int32.ofInt (if b < a then 1 else if a = b then 0 else -1) := by
  unfold lg_cmp
  have h1 : (Int64.ofInt a > Int64.ofInt b) ↔ b < a := by
    rw [gt_iff_lt, Int64.lt_iff_toInt_lt, i64_le ha, i64_le hb]
  have h2 : (Int64.ofInt a = Int64.ofInt b) ↔ a = b := by
    rw [← Int64.toInt_inj, i64_le ha, i64_le hb]
  by_cases c1 : b < a
  · rw [if_pos (h1.mpr c1), if_pos c1]; rfl
  · rw [if_neg (fun q => c1 (h1.mp q)), if_neg c1]
    by_cases c2 : a = b
    · rw [if_pos (h2.mpr c2), if_pos c2]; rfl
    · rw [if_neg (fun q => c2 (h2.mp q)), if_neg c2]; rfl
theorem g_iconst {l : Launch} {g : Geo} {M : Me} {κ : Kx} {K : AV → Mm → Prop} {pc : Nat} {lv : Lv} {X : Mm} {r : List AV} {n : Int} (hd : decode M.2.1 pc = .ok (.iconst n, 1)) (k : G l g M κ K (pc + 1) lv (vI n :: r) X) : G l g M κ K pc lv (r) X := by
  obtain ⟨p, e, s, m, args, below, meth, c, A, Q, kc, ks⟩ := κ
  intro O H locs ls hP hS hl
  exact lv_iconst O.1 O.2.1 hd rfl (k O H locs ls hP hS hl)
theorem g_bipush {l : Launch} {g : Geo} {M : Me} {κ : Kx} {K : AV → Mm → Prop} {pc : Nat} {lv : Lv} {X : Mm} {r : List AV} {n : Int} (hn : -128 ≤ n ∧ n < 128) (hd : decode M.2.1 pc = .ok (.bipush n, 2)) (k : G l g M κ K (pc + 2) lv (vI n :: r) X) : G l g M κ K pc lv (r) X := by
  obtain ⟨p, e, s, m, args, below, meth, c, A, Q, kc, ks⟩ := κ
  intro O H locs ls hP hS hl
  refine lv_bipush (v := Int32.ofInt n) O.1 O.2.1 hd ?_ (k O H locs ls hP hS hl)
  apply Int32.toInt_inj.mp
  rw [i32_le (by omega), Int8.toInt_toInt32, Int8.toInt_ofInt_of_le (by omega) (by omega)]
theorem g_sipush {l : Launch} {g : Geo} {M : Me} {κ : Kx} {K : AV → Mm → Prop} {pc : Nat} {lv : Lv} {X : Mm} {r : List AV} {n : Int} (hn : -32768 ≤ n ∧ n < 32768) (hd : decode M.2.1 pc = .ok (.sipush n, 3)) (k : G l g M κ K (pc + 3) lv (vI n :: r) X) : G l g M κ K pc lv (r) X := by
  obtain ⟨p, e, s, m, args, below, meth, c, A, Q, kc, ks⟩ := κ
  intro O H locs ls hP hS hl
  refine lv_sipush (v := Int32.ofInt n) O.1 O.2.1 hd ?_ (k O H locs ls hP hS hl)
  apply Int32.toInt_inj.mp
  rw [i32_le (by omega), Int16.toInt_toInt32, Int16.toInt_ofInt_of_le (by omega) (by omega)]
theorem g_lconst {l : Launch} {g : Geo} {M : Me} {κ : Kx} {K : AV → Mm → Prop} {pc : Nat} {lv : Lv} {X : Mm} {r : List AV} {n : Fin 2} {i : Int} (hn : ((n : Nat) : Int) = i) (hd : decode M.2.1 pc = .ok (.lconst n, 1)) (k : G l g M κ K (pc + 1) lv (vJ i :: r) X) : G l g M κ K pc lv (r) X := by
  obtain ⟨p, e, s, m, args, below, meth, c, A, Q, kc, ks⟩ := κ
  intro O H locs ls hP hS hl
  subst hn
  exact lv_lconst O.1 O.2.1 hd (Int64.ofInt_eq_ofNat).symm (k O H locs ls hP hS hl)
theorem g_ldc {l : Launch} {g : Geo} {M : Me} {κ : Kx} {K : AV → Mm → Prop} {pc : Nat} {lv : Lv} {X : Mm} {r : List AV} {i : Nat} {n : Int} (hc : Cond.constant M.1.cls i (Int32.ofInt n) ∈ TB) (hd : decode M.2.1 pc = .ok (.ldc i, 2)) (k : G l g M κ K (pc + 2) lv (vI n :: r) X) : G l g M κ K pc lv (r) X := by
  obtain ⟨p, e, s, m, args, below, meth, c, A, Q, kc, ks⟩ := κ
  intro O H locs ls hP hS hl
  exact lv_ldc O.1 O.2.1 O.2.2.2.1 (O.2.2.2.2.1 _ hc) hd (k O H locs ls hP hS hl)
theorem g_ldc2 {l : Launch} {g : Geo} {M : Me} {κ : Kx} {K : AV → Mm → Prop} {pc : Nat} {lv : Lv} {X : Mm} {r : List AV} {i : Nat} {n : Int} (hc : Cond.constantLong M.1.cls i (Int64.ofInt n) ∈ TB) (hd : decode M.2.1 pc = .ok (.ldc2_w i, 3)) (k : G l g M κ K (pc + 3) lv (vJ n :: r) X) : G l g M κ K pc lv (r) X := by
  obtain ⟨p, e, s, m, args, below, meth, c, A, Q, kc, ks⟩ := κ
  intro O H locs ls hP hS hl
  exact lv_ldc2 O.1 O.2.1 O.2.2.2.1 (O.2.2.2.2.1 _ hc) hd (k O H locs ls hP hS hl)
theorem g_iload_n {l : Launch} {g : Geo} {M : Me} {κ : Kx} {K : AV → Mm → Prop} {pc : Nat} {lv : Lv} {X : Mm} {r : List AV} {n : Int} {i : Fin 4} (h : lv.lookup (i : Nat) = some (vI n)) (hd : decode M.2.1 pc = .ok (.iload_n i, 1)) (k : G l g M κ K (pc + 1) lv (vI n :: r) X) : G l g M κ K pc lv (r) X := by
  obtain ⟨p, e, s, m, args, below, meth, c, A, Q, kc, ks⟩ := κ
  intro O H locs ls hP hS hl
  exact lv_iload_n O.1 O.2.1 hd rfl (lk_at hl h) (k O H locs ls hP hS hl)
theorem g_iload {l : Launch} {g : Geo} {M : Me} {κ : Kx} {K : AV → Mm → Prop} {pc : Nat} {lv : Lv} {X : Mm} {r : List AV} {n : Int} {i : Nat} (h : lv.lookup i = some (vI n)) (hd : decode M.2.1 pc = .ok (.iload i, 2)) (k : G l g M κ K (pc + 2) lv (vI n :: r) X) : G l g M κ K pc lv (r) X := by
  obtain ⟨p, e, s, m, args, below, meth, c, A, Q, kc, ks⟩ := κ
  intro O H locs ls hP hS hl
  exact lv_iload O.1 O.2.1 hd (lk_at hl h) (k O H locs ls hP hS hl)
theorem g_lload_n {l : Launch} {g : Geo} {M : Me} {κ : Kx} {K : AV → Mm → Prop} {pc : Nat} {lv : Lv} {X : Mm} {r : List AV} {n : Int} {i : Fin 4} (h : lv.lookup (i : Nat) = some (vJ n)) (hd : decode M.2.1 pc = .ok (.lload_n i, 1)) (k : G l g M κ K (pc + 1) lv (vJ n :: r) X) : G l g M κ K pc lv (r) X := by
  obtain ⟨p, e, s, m, args, below, meth, c, A, Q, kc, ks⟩ := κ
  intro O H locs ls hP hS hl
  exact lv_lload_n O.1 O.2.1 hd rfl (lk_at hl h) (k O H locs ls hP hS hl)
theorem g_lload {l : Launch} {g : Geo} {M : Me} {κ : Kx} {K : AV → Mm → Prop} {pc : Nat} {lv : Lv} {X : Mm} {r : List AV} {n : Int} {i : Nat} (h : lv.lookup i = some (vJ n)) (hd : decode M.2.1 pc = .ok (.lload i, 2)) (k : G l g M κ K (pc + 2) lv (vJ n :: r) X) : G l g M κ K pc lv (r) X := by
  obtain ⟨p, e, s, m, args, below, meth, c, A, Q, kc, ks⟩ := κ
  intro O H locs ls hP hS hl
  exact lv_lload O.1 O.2.1 hd (lk_at hl h) (k O H locs ls hP hS hl)
theorem g_aload_n {l : Launch} {g : Geo} {M : Me} {κ : Kx} {K : AV → Mm → Prop} {pc : Nat} {lv : Lv} {X : Mm} {r : List AV} {n : Nat} {i : Fin 4} (h : lv.lookup (i : Nat) = some (vR n)) (hd : decode M.2.1 pc = .ok (.aload_n i, 1)) (k : G l g M κ K (pc + 1) lv (vR n :: r) X) : G l g M κ K pc lv (r) X := by
  obtain ⟨p, e, s, m, args, below, meth, c, A, Q, kc, ks⟩ := κ
  intro O H locs ls hP hS hl
  exact lv_aload_n O.1 O.2.1 hd rfl (lk_at hl h) (k O H locs ls hP hS hl)
theorem g_istore_n {l : Launch} {g : Geo} {M : Me} {κ : Kx} {K : AV → Mm → Prop} {pc : Nat} {lv : Lv} {X : Mm} {r : List AV} {n : Int} {i : Fin 4} (hi : (i : Nat) < M.2.2.1) (hd : decode M.2.1 pc = .ok (.istore_n i, 1)) (k : G l g M κ K (pc + 1) (sto1 (i : Nat) (vI n) lv) r X) : G l g M κ K pc lv (vI n :: r) X := by
  obtain ⟨p, e, s, m, args, below, meth, c, A, Q, kc, ks⟩ := κ
  intro O H locs ls hP hS hl
  exact lv_istore_n O.1 O.2.1 hd rfl hl hi (sto1_cv g i (vI n) lv) (fun ls2 hl2 => k O H locs ls2 hP hS hl2)
theorem g_istore {l : Launch} {g : Geo} {M : Me} {κ : Kx} {K : AV → Mm → Prop} {pc : Nat} {lv : Lv} {X : Mm} {r : List AV} {n : Int} {i : Nat} (hi : (i : Nat) < M.2.2.1) (hd : decode M.2.1 pc = .ok (.istore i, 2)) (k : G l g M κ K (pc + 2) (sto1 i (vI n) lv) r X) : G l g M κ K pc lv (vI n :: r) X := by
  obtain ⟨p, e, s, m, args, below, meth, c, A, Q, kc, ks⟩ := κ
  intro O H locs ls hP hS hl
  exact lv_istore O.1 O.2.1 hd hl hi (sto1_cv g i (vI n) lv) (fun ls2 hl2 => k O H locs ls2 hP hS hl2)
theorem g_lstore_n {l : Launch} {g : Geo} {M : Me} {κ : Kx} {K : AV → Mm → Prop} {pc : Nat} {lv : Lv} {X : Mm} {r : List AV} {n : Int} {i : Fin 4} (hi : (i : Nat) + 1 < M.2.2.1) (hd : decode M.2.1 pc = .ok (.lstore_n i, 1)) (k : G l g M κ K (pc + 1) (sto2 (i : Nat) (vJ n) lv) r X) : G l g M κ K pc lv (vJ n :: r) X := by
  obtain ⟨p, e, s, m, args, below, meth, c, A, Q, kc, ks⟩ := κ
  intro O H locs ls hP hS hl
  exact lv_lstore_n O.1 O.2.1 hd rfl hl hi (sto2_cv g i (vJ n) lv) (fun ls2 hl2 => k O H locs ls2 hP hS hl2)
theorem g_lstore {l : Launch} {g : Geo} {M : Me} {κ : Kx} {K : AV → Mm → Prop} {pc : Nat} {lv : Lv} {X : Mm} {r : List AV} {n : Int} {i : Nat} (hi : (i : Nat) + 1 < M.2.2.1) (hd : decode M.2.1 pc = .ok (.lstore i, 2)) (k : G l g M κ K (pc + 2) (sto2 i (vJ n) lv) r X) : G l g M κ K pc lv (vJ n :: r) X := by
  obtain ⟨p, e, s, m, args, below, meth, c, A, Q, kc, ks⟩ := κ
  intro O H locs ls hP hS hl
  exact lv_lstore O.1 O.2.1 hd hl hi (sto2_cv g i (vJ n) lv) (fun ls2 hl2 => k O H locs ls2 hP hS hl2)
theorem g_astore_n {l : Launch} {g : Geo} {M : Me} {κ : Kx} {K : AV → Mm → Prop} {pc : Nat} {lv : Lv} {X : Mm} {r : List AV} {n : Nat} {i : Fin 4} (hi : (i : Nat) < M.2.2.1) (hd : decode M.2.1 pc = .ok (.astore_n i, 1)) (k : G l g M κ K (pc + 1) (sto1 (i : Nat) (vR n) lv) r X) : G l g M κ K pc lv (vR n :: r) X := by
  obtain ⟨p, e, s, m, args, below, meth, c, A, Q, kc, ks⟩ := κ
  intro O H locs ls hP hS hl
  exact lv_astore_n O.1 O.2.1 hd rfl hl hi (sto1_cv g i (vR n) lv) (fun ls2 hl2 => k O H locs ls2 hP hS hl2)
theorem lk_ix {g : Geo} {lv : Lv} {i : Nat} {v : AV} (h : lv.lookup i = some v) : ∃ k : Nat, (cvl g lv)[k]? = some (i, cv g v) := by
  obtain ⟨k, hk, e⟩ := List.getElem_of_mem (lk_mem h)
  refine ⟨k, ?_⟩
  unfold cvl
  rw [List.getElem?_map, List.getElem?_eq_getElem hk, e]
  rfl
theorem g_iinc {l : Launch} {g : Geo} {M : Me} {κ : Kx} {K : AV → Mm → Prop} {pc : Nat} {lv : Lv} {X : Mm} {r : List AV} {i : Nat} {n d : Int} (h : lv.lookup i = some (vI n)) (hi : i < M.2.2.1) (hd : decode M.2.1 pc = .ok (.iinc i d, 3)) (k : G l g M κ K (pc + 3) (sto1 i (vI (n + d)) lv) r X) : G l g M κ K pc lv r X := by
  obtain ⟨p, e, s, m, args, below, meth, c, A, Q, kc, ks⟩ := κ
  intro O H locs ls hP hS hl
  obtain ⟨q, hq⟩ := lk_ix (g := g) h
  exact lv_iinc O.1 O.2.1 hd hl hq (Int32.ofInt_add n d).symm hi (sto1_cv g i (vI (n + d)) lv) (fun ls2 hl2 => k O H locs ls2 hP hS hl2)
theorem g_iadd {l : Launch} {g : Geo} {M : Me} {κ : Kx} {K : AV → Mm → Prop} {pc : Nat} {lv : Lv} {X : Mm} {r : List AV} {a b : Int} (hd : decode M.2.1 pc = .ok (.iadd, 1)) (k : G l g M κ K (pc + 1) lv (vI (a + b) :: r) X) : G l g M κ K pc lv (vI b :: vI a :: r) X := by
  obtain ⟨p, e, s, m, args, below, meth, c, A, Q, kc, ks⟩ := κ
  intro O H locs ls hP hS hl
  refine lv_iadd O.1 O.2.1 hd ?_
  rw [← Int32.ofInt_add]
  exact k O H locs ls hP hS hl
theorem g_isub {l : Launch} {g : Geo} {M : Me} {κ : Kx} {K : AV → Mm → Prop} {pc : Nat} {lv : Lv} {X : Mm} {r : List AV} {a b : Int} (hd : decode M.2.1 pc = .ok (.isub, 1)) (k : G l g M κ K (pc + 1) lv (vI (a - b) :: r) X) : G l g M κ K pc lv (vI b :: vI a :: r) X := by
  obtain ⟨p, e, s, m, args, below, meth, c, A, Q, kc, ks⟩ := κ
  intro O H locs ls hP hS hl
  refine lv_isub O.1 O.2.1 hd ?_
  rw [← Int32.ofInt_sub]
  exact k O H locs ls hP hS hl
theorem g_imul {l : Launch} {g : Geo} {M : Me} {κ : Kx} {K : AV → Mm → Prop} {pc : Nat} {lv : Lv} {X : Mm} {r : List AV} {a b : Int} (hd : decode M.2.1 pc = .ok (.imul, 1)) (k : G l g M κ K (pc + 1) lv (vI (a * b) :: r) X) : G l g M κ K pc lv (vI b :: vI a :: r) X := by
  obtain ⟨p, e, s, m, args, below, meth, c, A, Q, kc, ks⟩ := κ
  intro O H locs ls hP hS hl
  refine lv_imul O.1 O.2.1 hd ?_
  rw [← Int32.ofInt_mul]
  exact k O H locs ls hP hS hl
theorem g_ladd {l : Launch} {g : Geo} {M : Me} {κ : Kx} {K : AV → Mm → Prop} {pc : Nat} {lv : Lv} {X : Mm} {r : List AV} {a b : Int} (hd : decode M.2.1 pc = .ok (.ladd, 1)) (k : G l g M κ K (pc + 1) lv (vJ (a + b) :: r) X) : G l g M κ K pc lv (vJ b :: vJ a :: r) X := by
  obtain ⟨p, e, s, m, args, below, meth, c, A, Q, kc, ks⟩ := κ
  intro O H locs ls hP hS hl
  refine lv_ladd O.1 O.2.1 hd ?_
  rw [← Int64.ofInt_add]
  exact k O H locs ls hP hS hl
theorem g_lsub {l : Launch} {g : Geo} {M : Me} {κ : Kx} {K : AV → Mm → Prop} {pc : Nat} {lv : Lv} {X : Mm} {r : List AV} {a b : Int} (hd : decode M.2.1 pc = .ok (.lsub, 1)) (k : G l g M κ K (pc + 1) lv (vJ (a - b) :: r) X) : G l g M κ K pc lv (vJ b :: vJ a :: r) X := by
  obtain ⟨p, e, s, m, args, below, meth, c, A, Q, kc, ks⟩ := κ
  intro O H locs ls hP hS hl
  refine lv_lsub O.1 O.2.1 hd ?_
  rw [← Int64.ofInt_sub]
  exact k O H locs ls hP hS hl
theorem g_lmul {l : Launch} {g : Geo} {M : Me} {κ : Kx} {K : AV → Mm → Prop} {pc : Nat} {lv : Lv} {X : Mm} {r : List AV} {a b : Int} (hd : decode M.2.1 pc = .ok (.lmul, 1)) (k : G l g M κ K (pc + 1) lv (vJ (a * b) :: r) X) : G l g M κ K pc lv (vJ b :: vJ a :: r) X := by
  obtain ⟨p, e, s, m, args, below, meth, c, A, Q, kc, ks⟩ := κ
  intro O H locs ls hP hS hl
  refine lv_lmul O.1 O.2.1 hd ?_
  rw [← Int64.ofInt_mul]
  exact k O H locs ls hP hS hl
theorem g_ineg {l : Launch} {g : Geo} {M : Me} {κ : Kx} {K : AV → Mm → Prop} {pc : Nat} {lv : Lv} {X : Mm} {r : List AV} {a : Int} (hd : decode M.2.1 pc = .ok (.ineg, 1)) (k : G l g M κ K (pc + 1) lv (vI (-a) :: r) X) : G l g M κ K pc lv (vI a :: r) X := by
  obtain ⟨p, e, s, m, args, below, meth, c, A, Q, kc, ks⟩ := κ
  intro O H locs ls hP hS hl
  refine lv_ineg O.1 O.2.1 hd ?_
  rw [← Int32.ofInt_neg]
  exact k O H locs ls hP hS hl
theorem g_lneg {l : Launch} {g : Geo} {M : Me} {κ : Kx} {K : AV → Mm → Prop} {pc : Nat} {lv : Lv} {X : Mm} {r : List AV} {a : Int} (hd : decode M.2.1 pc = .ok (.lneg, 1)) (k : G l g M κ K (pc + 1) lv (vJ (-a) :: r) X) : G l g M κ K pc lv (vJ a :: r) X := by
  obtain ⟨p, e, s, m, args, below, meth, c, A, Q, kc, ks⟩ := κ
  intro O H locs ls hP hS hl
  refine lv_lneg O.1 O.2.1 hd ?_
  rw [← Int64.ofInt_neg]
  exact k O H locs ls hP hS hl
theorem g_i2l {l : Launch} {g : Geo} {M : Me} {κ : Kx} {K : AV → Mm → Prop} {pc : Nat} {lv : Lv} {X : Mm} {r : List AV} {a : Int} (ha : -2147483648 ≤ a ∧ a < 2147483648) (hd : decode M.2.1 pc = .ok (.i2l, 1)) (k : G l g M κ K (pc + 1) lv (vJ a :: r) X) : G l g M κ K pc lv (vI a :: r) X := by
  obtain ⟨p, e, s, m, args, below, meth, c, A, Q, kc, ks⟩ := κ
  intro O H locs ls hP hS hl
  refine lv_i2l (v := Int64.ofInt a) O.1 O.2.1 hd ?_ (k O H locs ls hP hS hl)
  apply Int64.toInt_inj.mp
  rw [Int32.toInt_toInt64, i32_le ha, i64_le (by omega)]
theorem g_l2i {l : Launch} {g : Geo} {M : Me} {κ : Kx} {K : AV → Mm → Prop} {pc : Nat} {lv : Lv} {X : Mm} {r : List AV} {a : Int} (hd : decode M.2.1 pc = .ok (.l2i, 1)) (k : G l g M κ K (pc + 1) lv (vI a :: r) X) : G l g M κ K pc lv (vJ a :: r) X := by
  obtain ⟨p, e, s, m, args, below, meth, c, A, Q, kc, ks⟩ := κ
  intro O H locs ls hP hS hl
  exact lv_l2i (v := Int32.ofInt a) O.1 O.2.1 hd Int64.toInt32_ofInt (k O H locs ls hP hS hl)
theorem g_dup {l : Launch} {g : Geo} {M : Me} {κ : Kx} {K : AV → Mm → Prop} {pc : Nat} {lv : Lv} {X : Mm} {r : List AV} {v : AV} (hv : cat v = 1) (hd : decode M.2.1 pc = .ok (.dup, 1)) (k : G l g M κ K (pc + 1) lv (v :: v :: r) X) : G l g M κ K pc lv (v :: r) X := by
  obtain ⟨p, e, s, m, args, below, meth, c, A, Q, kc, ks⟩ := κ
  intro O H locs ls hP hS hl
  exact lv_dup O.1 O.2.1 hd (by rw [cv_cat]; exact hv) (k O H locs ls hP hS hl)
theorem g_dup2 {l : Launch} {g : Geo} {M : Me} {κ : Kx} {K : AV → Mm → Prop} {pc : Nat} {lv : Lv} {X : Mm} {r : List AV} {v w : AV} (hv : cat v = 1) (hw : cat w = 1) (hd : decode M.2.1 pc = .ok (.dup2, 1)) (k : G l g M κ K (pc + 1) lv (v :: w :: v :: w :: r) X) : G l g M κ K pc lv (v :: w :: r) X := by
  obtain ⟨p, e, s, m, args, below, meth, c, A, Q, kc, ks⟩ := κ
  intro O H locs ls hP hS hl
  exact lv_dup2_11 O.1 O.2.1 hd (by rw [cv_cat]; exact hv) (by rw [cv_cat]; exact hw) (k O H locs ls hP hS hl)
theorem g_goto {l : Launch} {g : Geo} {M : Me} {κ : Kx} {K : AV → Mm → Prop} {pc : Nat} {lv : Lv} {X : Mm} {r : List AV} {o : Int} {t : Nat} (hd : decode M.2.1 pc = .ok (.goto o, 3)) (ht : (pc : Int) + o = (t : Int)) (k : G l g M κ K t lv r X) : G l g M κ K pc lv r X := by
  obtain ⟨p, e, s, m, args, below, meth, c, A, Q, kc, ks⟩ := κ
  intro O H locs ls hP hS hl
  exact lv_goto O.1 O.2.1 hd ht (k O H locs ls hP hS hl)
theorem g_if_eq {l : Launch} {g : Geo} {M : Me} {κ : Kx} {K : AV → Mm → Prop} {pc : Nat} {lv : Lv} {X : Mm} {r : List AV} {a : Int} {o : Int} {t : Nat} (hd : decode M.2.1 pc = .ok (.ifCond .eq o, 3)) (ht : (pc : Int) + o = (t : Int)) (ha : -2147483648 ≤ a ∧ a < 2147483648) (kt : a = 0 → G l g M κ K t lv r X) (kf : ¬ (a = 0) → G l g M κ K (pc + 3) lv r X) : G l g M κ K pc lv (vI a :: r) X := by
  obtain ⟨p, e, s, m, args, below, meth, c, A, Q, kc, ks⟩ := κ
  intro O H locs ls hP hS hl
  exact lv_if_eq O.1 O.2.1 hd ht (fun q => kt ((i32_eq ha (by omega)).mp q) O H locs ls hP hS hl) (fun q => kf (fun q2 => q ((i32_eq ha (by omega)).mpr q2)) O H locs ls hP hS hl)
theorem g_icmp_eq {l : Launch} {g : Geo} {M : Me} {κ : Kx} {K : AV → Mm → Prop} {pc : Nat} {lv : Lv} {X : Mm} {r : List AV} {a b : Int} {o : Int} {t : Nat} (hd : decode M.2.1 pc = .ok (.if_icmp .eq o, 3)) (ht : (pc : Int) + o = (t : Int)) (ha : -2147483648 ≤ a ∧ a < 2147483648) (hb : -2147483648 ≤ b ∧ b < 2147483648) (kt : a = b → G l g M κ K t lv r X) (kf : ¬ (a = b) → G l g M κ K (pc + 3) lv r X) : G l g M κ K pc lv (vI b :: vI a :: r) X := by
  obtain ⟨p, e, s, m, args, below, meth, c, A, Q, kc, ks⟩ := κ
  intro O H locs ls hP hS hl
  exact lv_icmp_eq O.1 O.2.1 hd ht (fun q => kt ((i32_eq ha hb).mp q) O H locs ls hP hS hl) (fun q => kf (fun q2 => q ((i32_eq ha hb).mpr q2)) O H locs ls hP hS hl)
theorem g_if_ne {l : Launch} {g : Geo} {M : Me} {κ : Kx} {K : AV → Mm → Prop} {pc : Nat} {lv : Lv} {X : Mm} {r : List AV} {a : Int} {o : Int} {t : Nat} (hd : decode M.2.1 pc = .ok (.ifCond .ne o, 3)) (ht : (pc : Int) + o = (t : Int)) (ha : -2147483648 ≤ a ∧ a < 2147483648) (kt : ¬ a = 0 → G l g M κ K t lv r X) (kf : a = 0 → G l g M κ K (pc + 3) lv r X) : G l g M κ K pc lv (vI a :: r) X := by
  obtain ⟨p, e, s, m, args, below, meth, c, A, Q, kc, ks⟩ := κ
  intro O H locs ls hP hS hl
  exact lv_if_ne O.1 O.2.1 hd ht (fun q => kt (fun q2 => q ((i32_eq ha (by omega)).mpr q2)) O H locs ls hP hS hl) (fun q => kf ((i32_eq ha (by omega)).mp q) O H locs ls hP hS hl)
theorem g_icmp_ne {l : Launch} {g : Geo} {M : Me} {κ : Kx} {K : AV → Mm → Prop} {pc : Nat} {lv : Lv} {X : Mm} {r : List AV} {a b : Int} {o : Int} {t : Nat} (hd : decode M.2.1 pc = .ok (.if_icmp .ne o, 3)) (ht : (pc : Int) + o = (t : Int)) (ha : -2147483648 ≤ a ∧ a < 2147483648) (hb : -2147483648 ≤ b ∧ b < 2147483648) (kt : ¬ a = b → G l g M κ K t lv r X) (kf : a = b → G l g M κ K (pc + 3) lv r X) : G l g M κ K pc lv (vI b :: vI a :: r) X := by
  obtain ⟨p, e, s, m, args, below, meth, c, A, Q, kc, ks⟩ := κ
  intro O H locs ls hP hS hl
  exact lv_icmp_ne O.1 O.2.1 hd ht (fun q => kt (fun q2 => q ((i32_eq ha hb).mpr q2)) O H locs ls hP hS hl) (fun q => kf ((i32_eq ha hb).mp q) O H locs ls hP hS hl)
theorem g_if_lt {l : Launch} {g : Geo} {M : Me} {κ : Kx} {K : AV → Mm → Prop} {pc : Nat} {lv : Lv} {X : Mm} {r : List AV} {a : Int} {o : Int} {t : Nat} (hd : decode M.2.1 pc = .ok (.ifCond .lt o, 3)) (ht : (pc : Int) + o = (t : Int)) (ha : -2147483648 ≤ a ∧ a < 2147483648) (kt : a < 0 → G l g M κ K t lv r X) (kf : ¬ (a < 0) → G l g M κ K (pc + 3) lv r X) : G l g M κ K pc lv (vI a :: r) X := by
  obtain ⟨p, e, s, m, args, below, meth, c, A, Q, kc, ks⟩ := κ
  intro O H locs ls hP hS hl
  exact lv_if_lt O.1 O.2.1 hd ht (fun q => kt ((i32_lt ha (by omega)).mp q) O H locs ls hP hS hl) (fun q => kf (fun q2 => q ((i32_lt ha (by omega)).mpr q2)) O H locs ls hP hS hl)
theorem g_icmp_lt {l : Launch} {g : Geo} {M : Me} {κ : Kx} {K : AV → Mm → Prop} {pc : Nat} {lv : Lv} {X : Mm} {r : List AV} {a b : Int} {o : Int} {t : Nat} (hd : decode M.2.1 pc = .ok (.if_icmp .lt o, 3)) (ht : (pc : Int) + o = (t : Int)) (ha : -2147483648 ≤ a ∧ a < 2147483648) (hb : -2147483648 ≤ b ∧ b < 2147483648) (kt : a < b → G l g M κ K t lv r X) (kf : ¬ (a < b) → G l g M κ K (pc + 3) lv r X) : G l g M κ K pc lv (vI b :: vI a :: r) X := by
  obtain ⟨p, e, s, m, args, below, meth, c, A, Q, kc, ks⟩ := κ
  intro O H locs ls hP hS hl
  exact lv_icmp_lt O.1 O.2.1 hd ht (fun q => kt ((i32_lt ha hb).mp q) O H locs ls hP hS hl) (fun q => kf (fun q2 => q ((i32_lt ha hb).mpr q2)) O H locs ls hP hS hl)
theorem g_if_ge {l : Launch} {g : Geo} {M : Me} {κ : Kx} {K : AV → Mm → Prop} {pc : Nat} {lv : Lv} {X : Mm} {r : List AV} {a : Int} {o : Int} {t : Nat} (hd : decode M.2.1 pc = .ok (.ifCond .ge o, 3)) (ht : (pc : Int) + o = (t : Int)) (ha : -2147483648 ≤ a ∧ a < 2147483648) (kt : 0 ≤ a → G l g M κ K t lv r X) (kf : ¬ (0 ≤ a) → G l g M κ K (pc + 3) lv r X) : G l g M κ K pc lv (vI a :: r) X := by
  obtain ⟨p, e, s, m, args, below, meth, c, A, Q, kc, ks⟩ := κ
  intro O H locs ls hP hS hl
  exact lv_if_ge O.1 O.2.1 hd ht (fun q => kt ((i32_ile (by omega) ha).mp q) O H locs ls hP hS hl) (fun q => kf (fun q2 => q ((i32_ile (by omega) ha).mpr q2)) O H locs ls hP hS hl)
theorem g_icmp_ge {l : Launch} {g : Geo} {M : Me} {κ : Kx} {K : AV → Mm → Prop} {pc : Nat} {lv : Lv} {X : Mm} {r : List AV} {a b : Int} {o : Int} {t : Nat} (hd : decode M.2.1 pc = .ok (.if_icmp .ge o, 3)) (ht : (pc : Int) + o = (t : Int)) (ha : -2147483648 ≤ a ∧ a < 2147483648) (hb : -2147483648 ≤ b ∧ b < 2147483648) (kt : b ≤ a → G l g M κ K t lv r X) (kf : ¬ (b ≤ a) → G l g M κ K (pc + 3) lv r X) : G l g M κ K pc lv (vI b :: vI a :: r) X := by
  obtain ⟨p, e, s, m, args, below, meth, c, A, Q, kc, ks⟩ := κ
  intro O H locs ls hP hS hl
  exact lv_icmp_ge O.1 O.2.1 hd ht (fun q => kt ((i32_ile hb ha).mp q) O H locs ls hP hS hl) (fun q => kf (fun q2 => q ((i32_ile hb ha).mpr q2)) O H locs ls hP hS hl)
theorem g_if_gt {l : Launch} {g : Geo} {M : Me} {κ : Kx} {K : AV → Mm → Prop} {pc : Nat} {lv : Lv} {X : Mm} {r : List AV} {a : Int} {o : Int} {t : Nat} (hd : decode M.2.1 pc = .ok (.ifCond .gt o, 3)) (ht : (pc : Int) + o = (t : Int)) (ha : -2147483648 ≤ a ∧ a < 2147483648) (kt : 0 < a → G l g M κ K t lv r X) (kf : ¬ (0 < a) → G l g M κ K (pc + 3) lv r X) : G l g M κ K pc lv (vI a :: r) X := by
  obtain ⟨p, e, s, m, args, below, meth, c, A, Q, kc, ks⟩ := κ
  intro O H locs ls hP hS hl
  exact lv_if_gt O.1 O.2.1 hd ht (fun q => kt ((i32_lt (by omega) ha).mp q) O H locs ls hP hS hl) (fun q => kf (fun q2 => q ((i32_lt (by omega) ha).mpr q2)) O H locs ls hP hS hl)
theorem g_icmp_gt {l : Launch} {g : Geo} {M : Me} {κ : Kx} {K : AV → Mm → Prop} {pc : Nat} {lv : Lv} {X : Mm} {r : List AV} {a b : Int} {o : Int} {t : Nat} (hd : decode M.2.1 pc = .ok (.if_icmp .gt o, 3)) (ht : (pc : Int) + o = (t : Int)) (ha : -2147483648 ≤ a ∧ a < 2147483648) (hb : -2147483648 ≤ b ∧ b < 2147483648) (kt : b < a → G l g M κ K t lv r X) (kf : ¬ (b < a) → G l g M κ K (pc + 3) lv r X) : G l g M κ K pc lv (vI b :: vI a :: r) X := by
  obtain ⟨p, e, s, m, args, below, meth, c, A, Q, kc, ks⟩ := κ
  intro O H locs ls hP hS hl
  exact lv_icmp_gt O.1 O.2.1 hd ht (fun q => kt ((i32_lt hb ha).mp q) O H locs ls hP hS hl) (fun q => kf (fun q2 => q ((i32_lt hb ha).mpr q2)) O H locs ls hP hS hl)
theorem g_if_le {l : Launch} {g : Geo} {M : Me} {κ : Kx} {K : AV → Mm → Prop} {pc : Nat} {lv : Lv} {X : Mm} {r : List AV} {a : Int} {o : Int} {t : Nat} (hd : decode M.2.1 pc = .ok (.ifCond .le o, 3)) (ht : (pc : Int) + o = (t : Int)) (ha : -2147483648 ≤ a ∧ a < 2147483648) (kt : a ≤ 0 → G l g M κ K t lv r X) (kf : ¬ (a ≤ 0) → G l g M κ K (pc + 3) lv r X) : G l g M κ K pc lv (vI a :: r) X := by
  obtain ⟨p, e, s, m, args, below, meth, c, A, Q, kc, ks⟩ := κ
  intro O H locs ls hP hS hl
  exact lv_if_le O.1 O.2.1 hd ht (fun q => kt ((i32_ile ha (by omega)).mp q) O H locs ls hP hS hl) (fun q => kf (fun q2 => q ((i32_ile ha (by omega)).mpr q2)) O H locs ls hP hS hl)
theorem g_icmp_le {l : Launch} {g : Geo} {M : Me} {κ : Kx} {K : AV → Mm → Prop} {pc : Nat} {lv : Lv} {X : Mm} {r : List AV} {a b : Int} {o : Int} {t : Nat} (hd : decode M.2.1 pc = .ok (.if_icmp .le o, 3)) (ht : (pc : Int) + o = (t : Int)) (ha : -2147483648 ≤ a ∧ a < 2147483648) (hb : -2147483648 ≤ b ∧ b < 2147483648) (kt : a ≤ b → G l g M κ K t lv r X) (kf : ¬ (a ≤ b) → G l g M κ K (pc + 3) lv r X) : G l g M κ K pc lv (vI b :: vI a :: r) X := by
  obtain ⟨p, e, s, m, args, below, meth, c, A, Q, kc, ks⟩ := κ
  intro O H locs ls hP hS hl
  exact lv_icmp_le O.1 O.2.1 hd ht (fun q => kt ((i32_ile ha hb).mp q) O H locs ls hP hS hl) (fun q => kf (fun q2 => q ((i32_ile ha hb).mpr q2)) O H locs ls hP hS hl)
theorem g_lcmp {l : Launch} {g : Geo} {M : Me} {κ : Kx} {K : AV → Mm → Prop} {pc : Nat} {lv : Lv} {X : Mm} {r : List AV} {a b : Int} (ha : -9223372036854775808 ≤ a ∧ a < 9223372036854775808) (hb : -9223372036854775808 ≤ b ∧ b < 9223372036854775808) (hd : decode M.2.1 pc = .ok (.lcmp, 1)) (k : G l g M κ K (pc + 1) lv (vI (if b < a then 1 else if a = b then 0 else -1) :: r) X) : G l g M κ K pc lv (vJ b :: vJ a :: r) X := by
  obtain ⟨p, e, s, m, args, below, meth, c, A, Q, kc, ks⟩ := κ
  intro O H locs ls hP hS hl
  refine W.lcmp O.1 O.2.1 hd ?_
  rw [lg_lt ha hb]
  exact k O H locs ls hP hS hl
theorem cmp_rng (a b : Int) : -2147483648 ≤ (if b < a then (1 : Int) else if a = b then 0 else -1) ∧ (if b < a then (1 : Int) else if a = b then 0 else -1) < 2147483648 := by
  split
  · omega
  · split <;> omega
theorem cmp_eq (a b : Int) : ((if b < a then (1 : Int) else if a = b then 0 else -1) = 0) ↔ a = b := by
  split
  · omega
  · split <;> omega
theorem g_leq {l : Launch} {g : Geo} {M : Me} {κ : Kx} {K : AV → Mm → Prop} {pc : Nat} {lv : Lv} {X : Mm} {r : List AV} {a b : Int} {o : Int} {t : Nat} (hd : decode M.2.1 pc = .ok (.lcmp, 1)) (hd2 : decode M.2.1 (pc + 1) = .ok (.ifCond .eq o, 3)) (ht : (pc : Int) + 1 + o = (t : Int)) (ha : -9223372036854775808 ≤ a ∧ a < 9223372036854775808) (hb : -9223372036854775808 ≤ b ∧ b < 9223372036854775808) (kt : a = b → G l g M κ K t lv r X) (kf : ¬ (a = b) → G l g M κ K (pc + 1 + 3) lv r X) : G l g M κ K pc lv (vJ b :: vJ a :: r) X :=
  g_lcmp ha hb hd (g_if_eq hd2 (by omega) (cmp_rng a b) (fun q => kt ((cmp_eq a b).mp q)) (fun q => kf (fun q2 => q ((cmp_eq a b).mpr q2))))
theorem cmp_ne (a b : Int) : (¬ (if b < a then (1 : Int) else if a = b then 0 else -1) = 0) ↔ ¬ a = b := by
  split
  · omega
  · split <;> omega
theorem g_lne {l : Launch} {g : Geo} {M : Me} {κ : Kx} {K : AV → Mm → Prop} {pc : Nat} {lv : Lv} {X : Mm} {r : List AV} {a b : Int} {o : Int} {t : Nat} (hd : decode M.2.1 pc = .ok (.lcmp, 1)) (hd2 : decode M.2.1 (pc + 1) = .ok (.ifCond .ne o, 3)) (ht : (pc : Int) + 1 + o = (t : Int)) (ha : -9223372036854775808 ≤ a ∧ a < 9223372036854775808) (hb : -9223372036854775808 ≤ b ∧ b < 9223372036854775808) (kt : ¬ a = b → G l g M κ K t lv r X) (kf : a = b → G l g M κ K (pc + 1 + 3) lv r X) : G l g M κ K pc lv (vJ b :: vJ a :: r) X :=
  g_lcmp ha hb hd (g_if_ne hd2 (by omega) (cmp_rng a b) (fun q => kt ((cmp_ne a b).mp q)) (fun q => kf ((cmp_eq a b).mp q)))
theorem cmp_lt (a b : Int) : ((if b < a then (1 : Int) else if a = b then 0 else -1) < 0) ↔ a < b := by
  split
  · omega
  · split <;> omega
theorem g_llt {l : Launch} {g : Geo} {M : Me} {κ : Kx} {K : AV → Mm → Prop} {pc : Nat} {lv : Lv} {X : Mm} {r : List AV} {a b : Int} {o : Int} {t : Nat} (hd : decode M.2.1 pc = .ok (.lcmp, 1)) (hd2 : decode M.2.1 (pc + 1) = .ok (.ifCond .lt o, 3)) (ht : (pc : Int) + 1 + o = (t : Int)) (ha : -9223372036854775808 ≤ a ∧ a < 9223372036854775808) (hb : -9223372036854775808 ≤ b ∧ b < 9223372036854775808) (kt : a < b → G l g M κ K t lv r X) (kf : ¬ (a < b) → G l g M κ K (pc + 1 + 3) lv r X) : G l g M κ K pc lv (vJ b :: vJ a :: r) X :=
  g_lcmp ha hb hd (g_if_lt hd2 (by omega) (cmp_rng a b) (fun q => kt ((cmp_lt a b).mp q)) (fun q => kf (fun q2 => q ((cmp_lt a b).mpr q2))))
theorem cmp_ge (a b : Int) : (0 ≤ (if b < a then (1 : Int) else if a = b then 0 else -1)) ↔ b ≤ a := by
  split
  · omega
  · split <;> omega
theorem g_lge {l : Launch} {g : Geo} {M : Me} {κ : Kx} {K : AV → Mm → Prop} {pc : Nat} {lv : Lv} {X : Mm} {r : List AV} {a b : Int} {o : Int} {t : Nat} (hd : decode M.2.1 pc = .ok (.lcmp, 1)) (hd2 : decode M.2.1 (pc + 1) = .ok (.ifCond .ge o, 3)) (ht : (pc : Int) + 1 + o = (t : Int)) (ha : -9223372036854775808 ≤ a ∧ a < 9223372036854775808) (hb : -9223372036854775808 ≤ b ∧ b < 9223372036854775808) (kt : b ≤ a → G l g M κ K t lv r X) (kf : ¬ (b ≤ a) → G l g M κ K (pc + 1 + 3) lv r X) : G l g M κ K pc lv (vJ b :: vJ a :: r) X :=
  g_lcmp ha hb hd (g_if_ge hd2 (by omega) (cmp_rng a b) (fun q => kt ((cmp_ge a b).mp q)) (fun q => kf (fun q2 => q ((cmp_ge a b).mpr q2))))
theorem cmp_gt (a b : Int) : (0 < (if b < a then (1 : Int) else if a = b then 0 else -1)) ↔ b < a := by
  split
  · omega
  · split <;> omega
theorem g_lgt {l : Launch} {g : Geo} {M : Me} {κ : Kx} {K : AV → Mm → Prop} {pc : Nat} {lv : Lv} {X : Mm} {r : List AV} {a b : Int} {o : Int} {t : Nat} (hd : decode M.2.1 pc = .ok (.lcmp, 1)) (hd2 : decode M.2.1 (pc + 1) = .ok (.ifCond .gt o, 3)) (ht : (pc : Int) + 1 + o = (t : Int)) (ha : -9223372036854775808 ≤ a ∧ a < 9223372036854775808) (hb : -9223372036854775808 ≤ b ∧ b < 9223372036854775808) (kt : b < a → G l g M κ K t lv r X) (kf : ¬ (b < a) → G l g M κ K (pc + 1 + 3) lv r X) : G l g M κ K pc lv (vJ b :: vJ a :: r) X :=
  g_lcmp ha hb hd (g_if_gt hd2 (by omega) (cmp_rng a b) (fun q => kt ((cmp_gt a b).mp q)) (fun q => kf (fun q2 => q ((cmp_gt a b).mpr q2))))
theorem cmp_le (a b : Int) : ((if b < a then (1 : Int) else if a = b then 0 else -1) ≤ 0) ↔ a ≤ b := by
  split
  · omega
  · split <;> omega
theorem g_lle {l : Launch} {g : Geo} {M : Me} {κ : Kx} {K : AV → Mm → Prop} {pc : Nat} {lv : Lv} {X : Mm} {r : List AV} {a b : Int} {o : Int} {t : Nat} (hd : decode M.2.1 pc = .ok (.lcmp, 1)) (hd2 : decode M.2.1 (pc + 1) = .ok (.ifCond .le o, 3)) (ht : (pc : Int) + 1 + o = (t : Int)) (ha : -9223372036854775808 ≤ a ∧ a < 9223372036854775808) (hb : -9223372036854775808 ≤ b ∧ b < 9223372036854775808) (kt : a ≤ b → G l g M κ K t lv r X) (kf : ¬ (a ≤ b) → G l g M κ K (pc + 1 + 3) lv r X) : G l g M κ K pc lv (vJ b :: vJ a :: r) X :=
  g_lcmp ha hb hd (g_if_le hd2 (by omega) (cmp_rng a b) (fun q => kt ((cmp_le a b).mp q)) (fun q => kf (fun q2 => q ((cmp_le a b).mpr q2))))
theorem g_ireturn {l : Launch} {g : Geo} {M : Me} {κ : Kx} {K : AV → Mm → Prop} {pc : Nat} {lv : Lv} {X : Mm} {v : Int} (hr : M.2.2.2.1 = some .int) (hd : decode M.2.1 pc = .ok (.ireturn, 1)) (k : K (vI v) X) : G l g M κ K pc lv [vI v] X := by
  obtain ⟨p, e, s, m, args, below, meth, c, A, Q, kc, ks⟩ := κ
  intro O H locs ls hP hS hl
  exact O.2.2.2.2.2.2.2.2.2.1 pc ls H locs X v hd (Or.inl hr) k hP hS
theorem g_zreturn {l : Launch} {g : Geo} {M : Me} {κ : Kx} {K : AV → Mm → Prop} {pc : Nat} {lv : Lv} {X : Mm} {v : Int} (hr : M.2.2.2.1 = some .boolean) (hv : v = 0 ∨ v = 1) (hd : decode M.2.1 pc = .ok (.ireturn, 1)) (k : K (vI v) X) : G l g M κ K pc lv [vI v] X := by
  obtain ⟨p, e, s, m, args, below, meth, c, A, Q, kc, ks⟩ := κ
  intro O H locs ls hP hS hl
  exact O.2.2.2.2.2.2.2.2.2.1 pc ls H locs X v hd (Or.inr ⟨hr, hv⟩) k hP hS
theorem g_lreturn {l : Launch} {g : Geo} {M : Me} {κ : Kx} {K : AV → Mm → Prop} {pc : Nat} {lv : Lv} {X : Mm} {v : Int} (hr : M.2.2.2.1 = some .long) (hd : decode M.2.1 pc = .ok (.lreturn, 1)) (k : K (vJ v) X) : G l g M κ K pc lv [vJ v] X := by
  obtain ⟨p, e, s, m, args, below, meth, c, A, Q, kc, ks⟩ := κ
  intro O H locs ls hP hS hl
  exact O.2.2.2.2.2.2.2.2.2.2.1 pc ls H locs X v hd hr k hP hS
theorem g_return {l : Launch} {g : Geo} {M : Me} {κ : Kx} {K : AV → Mm → Prop} {pc : Nat} {lv : Lv} {X : Mm} (hr : M.2.2.2.1 = none) (hd : decode M.2.1 pc = .ok (.return_, 1)) (k : K (vI 0) X) : G l g M κ K pc lv [] X := by
  obtain ⟨p, e, s, m, args, below, meth, c, A, Q, kc, ks⟩ := κ
  intro O H locs ls hP hS hl
  exact O.2.2.2.2.2.2.2.2.2.2.2 pc ls H locs X hd hr k hP hS
theorem g_sub {l : Launch} {g : Geo} {M : Me} {κ : Kx} {K : AV → Mm → Prop} {pc : Nat} {lv : Lv} {X : Mm} {r : List AV} (lv2 : Lv) (h : ∀ q ∈ lv2, lv.lookup q.1 = some q.2) (k : G l g M κ K pc lv2 r X) : G l g M κ K pc lv r X := by
  obtain ⟨p, e, s, m, args, below, meth, c, A, Q, kc, ks⟩ := κ
  intro O H locs ls hP hS hl
  refine k O H locs ls hP hS ⟨hl.1, hl.2.1, fun q hq => ?_⟩
  obtain ⟨q2, h2, e⟩ := List.mem_map.mp hq
  subst e
  exact lk_at hl (h q2 h2)
theorem g_subl {l : Launch} {g : Geo} {M : Me} {κ : Kx} {K : AV → Mm → Prop} {pc : Nat} {lv : Lv} {X : Mm} {r : List AV} (lv2 : Lv) (h : lv2.map (fun q => lv.lookup q.1) = lv2.map (fun q => some q.2)) (k : G l g M κ K pc lv2 r X) : G l g M κ K pc lv r X :=
  g_sub lv2 (List.map_inj_left.mp h) k
theorem g_mem {l : Launch} {g : Geo} {M : Me} {κ : Kx} {K : AV → Mm → Prop} {pc : Nat} {lv : Lv} {X : Mm} {r : List AV} {X2 : Mm} (h : X = X2) (k : G l g M κ K pc lv r X2) : G l g M κ K pc lv r X := h ▸ k
theorem g_iald {l : Launch} {g : Geo} {M : Me} {κ : Kx} {K : AV → Mm → Prop} {pc : Nat} {lv : Lv} {X : Mm} {r : List AV} {a : Nat} {i : Int} (j : Nat) {n : Nat} (ha : kd a = 9) (hn : ln a = n) (hi : i = (j : Int)) (hj : j < n) (hm : n < 2147483648) (hd : decode M.2.1 pc = .ok (.iaload, 1)) (k : G l g M κ K (pc + 1) lv (vI (X a j) :: r) X) : G l g M κ K pc lv (vI i :: vR a :: r) X := by
  obtain ⟨p, e, s, m, args, below, meth, c, A, Q, kc, ks⟩ := κ
  intro O H locs ls hP hS hl
  subst hn
  subst hi
  have h70 := kd_lt ha (by omega)
  have hw := wl_at g X h70
  rw [ce_i ha] at hw
  refine va_iald O.1 O.2.1 O.2.2.2.2.2.1 hP a 0 hw rfl (i32_in hj hm) hd ?_
  rw [i32_ix (by omega)]
  exact k O H locs ls hP hS hl
theorem g_lald {l : Launch} {g : Geo} {M : Me} {κ : Kx} {K : AV → Mm → Prop} {pc : Nat} {lv : Lv} {X : Mm} {r : List AV} {a : Nat} {i : Int} (j : Nat) {n : Nat} (ha : kd a = 10) (hn : ln a = n) (hi : i = (j : Int)) (hj : j < n) (hm : n < 2147483648) (hd : decode M.2.1 pc = .ok (.laload, 1)) (k : G l g M κ K (pc + 1) lv (vJ (X a j) :: r) X) : G l g M κ K pc lv (vI i :: vR a :: r) X := by
  obtain ⟨p, e, s, m, args, below, meth, c, A, Q, kc, ks⟩ := κ
  intro O H locs ls hP hS hl
  subst hn
  subst hi
  have h70 := kd_lt ha (by omega)
  have hw := wl_at g X h70
  rw [ce_j ha] at hw
  refine va_lald O.1 O.2.1 O.2.2.2.2.2.1 hP a 1 hw rfl (i32_in hj hm) hd ?_
  rw [i32_ix (by omega)]
  exact k O H locs ls hP hS hl
theorem g_zald {l : Launch} {g : Geo} {M : Me} {κ : Kx} {K : AV → Mm → Prop} {pc : Nat} {lv : Lv} {X : Mm} {r : List AV} {a : Nat} {i : Int} (j : Nat) {n : Nat} (ha : kd a = 11) (hn : ln a = n) (hi : i = (j : Int)) (hj : j < n) (hm : n < 2147483648) (hd : decode M.2.1 pc = .ok (.baload, 1)) (k : G l g M κ K (pc + 1) lv (vI (X a j) :: r) X) : G l g M κ K pc lv (vI i :: vR a :: r) X := by
  obtain ⟨p, e, s, m, args, below, meth, c, A, Q, kc, ks⟩ := κ
  intro O H locs ls hP hS hl
  subst hn
  subst hi
  have h70 := kd_lt ha (by omega)
  have hw := wl_at g X h70
  rw [ce_z ha] at hw
  refine va_zald O.1 O.2.1 O.2.2.2.2.2.1 hP a 2 hw rfl (i32_in hj hm) hd ?_
  rw [i32_ix (by omega)]
  exact k O H locs ls hP hS hl
theorem g_iast {l : Launch} {g : Geo} {M : Me} {κ : Kx} {K : AV → Mm → Prop} {pc : Nat} {lv : Lv} {X : Mm} {r : List AV} {a : Nat} {i v : Int} (j : Nat) {n : Nat} (ha : kd a = 9) (hn : ln a = n) (hi : i = (j : Int)) (hj : j < n) (hm : n < 2147483648) (hd : decode M.2.1 pc = .ok (.iastore, 1)) (k : G l g M κ K (pc + 1) lv r (st2 X a j v)) : G l g M κ K pc lv (vI v :: vI i :: vR a :: r) X := by
  obtain ⟨p, e, s, m, args, below, meth, c, A, Q, kc, ks⟩ := κ
  intro O H locs ls hP hS hl
  subst hn
  subst hi
  have h70 := kd_lt ha (by omega)
  have hw := wl_at g X h70
  rw [ce_i ha] at hw
  refine va_iast O.1 O.2.1 O.2.2.2.2.2.1 hP (wl_D O.2.2.2.2.2.2.2.1 X (fun i hi => O.2.2.2.2.2.2.2.2.1 _ (Or.inl ⟨i, hi, rfl⟩))) hS a 0 hw rfl (i32_in hj hm) hd (fun H1 locs1 hP1 hD1 hS1 => ?_)
  rw [i32_ix (by omega), wl_set g X v h70 (j := j) (by
    rw [ce_i ha]
    congr 4
    (try apply congrArg)
    funext k
    unfold upd
    by_cases e : k = j
    · rw [if_pos e, if_pos e]
    · rw [if_neg e, if_neg e])] at hP1
  exact k O H1 locs1 ls hP1 hS1 hl
theorem g_last {l : Launch} {g : Geo} {M : Me} {κ : Kx} {K : AV → Mm → Prop} {pc : Nat} {lv : Lv} {X : Mm} {r : List AV} {a : Nat} {i v : Int} (j : Nat) {n : Nat} (ha : kd a = 10) (hn : ln a = n) (hi : i = (j : Int)) (hj : j < n) (hm : n < 2147483648) (hd : decode M.2.1 pc = .ok (.lastore, 1)) (k : G l g M κ K (pc + 1) lv r (st2 X a j v)) : G l g M κ K pc lv (vJ v :: vI i :: vR a :: r) X := by
  obtain ⟨p, e, s, m, args, below, meth, c, A, Q, kc, ks⟩ := κ
  intro O H locs ls hP hS hl
  subst hn
  subst hi
  have h70 := kd_lt ha (by omega)
  have hw := wl_at g X h70
  rw [ce_j ha] at hw
  refine va_last O.1 O.2.1 O.2.2.2.2.2.1 hP (wl_D O.2.2.2.2.2.2.2.1 X (fun i hi => O.2.2.2.2.2.2.2.2.1 _ (Or.inl ⟨i, hi, rfl⟩))) hS a 1 hw rfl (i32_in hj hm) hd (fun H1 locs1 hP1 hD1 hS1 => ?_)
  rw [i32_ix (by omega), wl_set g X v h70 (j := j) (by
    rw [ce_j ha]
    congr 4
    (try apply congrArg)
    funext k
    unfold vp_updL
    by_cases e : k = j
    · rw [if_pos e, if_pos e]
    · rw [if_neg e, if_neg e])] at hP1
  exact k O H1 locs1 ls hP1 hS1 hl
theorem nar_z {v : Int} (h : v = 0 ∨ v = 1) : vp_nar .boolean (Int32.ofInt v) = Int32.ofInt v := by
  rcases h with rfl | rfl <;> decide
theorem g_zast {l : Launch} {g : Geo} {M : Me} {κ : Kx} {K : AV → Mm → Prop} {pc : Nat} {lv : Lv} {X : Mm} {r : List AV} {a : Nat} {i v : Int} (j : Nat) {n : Nat} (hv : v = 0 ∨ v = 1) (ha : kd a = 11) (hn : ln a = n) (hi : i = (j : Int)) (hj : j < n) (hm : n < 2147483648) (hd : decode M.2.1 pc = .ok (.bastore, 1)) (k : G l g M κ K (pc + 1) lv r (st2 X a j v)) : G l g M κ K pc lv (vI v :: vI i :: vR a :: r) X := by
  obtain ⟨p, e, s, m, args, below, meth, c, A, Q, kc, ks⟩ := κ
  intro O H locs ls hP hS hl
  subst hn
  subst hi
  have h70 := kd_lt ha (by omega)
  have hw := wl_at g X h70
  rw [ce_z ha] at hw
  refine va_zast O.1 O.2.1 O.2.2.2.2.2.1 hP (wl_D O.2.2.2.2.2.2.2.1 X (fun i hi => O.2.2.2.2.2.2.2.2.1 _ (Or.inl ⟨i, hi, rfl⟩))) hS a 2 hw rfl (i32_in hj hm) hd (fun H1 locs1 hP1 hD1 hS1 => ?_)
  rw [i32_ix (by omega), nar_z hv, wl_set g X v h70 (j := j) (by
    rw [ce_z ha]
    congr 4
    funext k
    unfold upd
    by_cases e : k = j
    · rw [if_pos e, if_pos e]
    · rw [if_neg e, if_neg e])] at hP1
  exact k O H1 locs1 ls hP1 hS1 hl
end
section
def arl : Nat → List AV → Lv
  | _, [] => []
  | i, v :: vs => (i, v) :: arl (if cat v = 2 then i + 2 else i + 1) vs
theorem arl_cv (g : Geo) : ∀ (as : List AV) (i : Nat), lv_args i (as.map (cv g)) = cvl g (arl i as)
  | [], _ => rfl
  | v :: vs, i => by
    show (i, cv g v) :: lv_args (if (cv g v).category = 2 then i + 2 else i + 1) (vs.map (cv g)) = (i, cv g v) :: cvl g (arl (if cat v = 2 then i + 2 else i + 1) vs)
    rw [cv_cat, arl_cv g vs]
theorem arl_len (g : Geo) : ∀ as : List AV, (lg_sl (as.map (cv g))).length = (as.map cat).sum
  | [] => rfl
  | v :: vs => by
    have ih := arl_len g vs
    unfold lg_sl at ih ⊢
    simp only [List.map_cons, List.flatMap_cons, List.length_append, List.sum_cons, ih, cv_cat]
    rcases v with q | q | q <;> simp [cat]
theorem WU.end {g : Geo} {X : Mm} {s t : State} {H : Heap} (hP : va_P g.2.2.2.2 vwCl (wl g X) H) (ht : t.heap = H) (hW : s.WarmedH t.vm) (hK : va_K g.2.2.2.2 vwCl (tys g) s) (hN : NW s) (hI : GI g) : WU g X t := ⟨by rw [ht]; exact hP, va_K.moved hW.alike hK, NW.warm hW hN, hI⟩
theorem nar_zz {v : Int} (h : v = 0 ∨ v = 1) : narrow .boolean (.int (Int32.ofInt v)) = .int (Int32.ofInt v) := by
  rcases h with rfl | rfl <;> rfl
/-- a contract out of the walk of the body -/
theorem enter {l : Launch} {g : Geo} {M : Me} {as : List AV} {X : Mm} {K : AV → Mm → Prop} (hy : plainName M.1.cls = true) (hen : (as.map cat).sum ≤ M.2.2.1) (h : ∀ κ, G l g M κ K 0 (arl 0 as) [] X) : Ct l g M as X K := by
  intro sz
  refine Met.ofW (cc := M.2.1) (maxL := M.2.2.1) (ret := M.2.2.2.1) hy rfl ?_
  intro p e s m args below meth c s₁ B hml hv
  obtain ⟨rfl, hsz, hP, hK, hN, hI⟩ := hv
  subst hsz
  have hx := B.exec
  have hb := B.bytes
  have hr := B.returns
  have hts := atoms_spec (ws := .code M.1 M.2.1 M.2.2.1 M.2.2.2.1 :: TB) B.pre
  have hown : s.vm.findClass M.1.cls = some m.cls := findClass_of_methodNamed B.named
  have hlocks := B.notSynchronized
  have hl := lv_entry (as.map (cv g)) (n := M.2.2.1) (by rw [arl_len]; exact hen)
  rw [arl_cv] at hl
  rw [lg_entry_eq]
  refine h (p, e, s, m, (as.map (cv g)).toArray, below, meth, c, AA g s.heap.size, MQ below (Qc g M.2.2.2.1 K s.heap.size) (as.map (cv g)).toArray s 0 0 (AA g s.heap.size), 0, 0) ⟨hx, hb, hml, hown, fun w hw => hts w (List.mem_cons_of_mem _ hw), hK, hN, hI, fun q hq => hq, ?_, ?_, ?_⟩ s.heap [] _ hP va_S.rf hl
  · intro pc ls H locs X v hd hrt k hP hS
    rcases hrt with hrt | ⟨hrt, hv⟩
    · refine W.iret hx hb (hr.trans hrt) (fun t ht hW => ?_) hS.2.2 hd
      unfold Qc
      rw [if_neg (by rw [hrt]; exact fun q => by cases q), if_neg (by rw [hrt]; exact fun q => by cases q)]
      exact ⟨⟨_, (v, X), rfl, ⟨rfl, k⟩, WU.end hP ht hW hK hN hI⟩, hS.F ht⟩
    · refine W.zret hx hb (hr.trans hrt) (nar_zz hv) (fun t ht hW => ?_) hS.2.2 hd
      unfold Qc
      rw [if_neg (by rw [hrt]; exact fun q => by cases q), if_neg (by rw [hrt]; exact fun q => by cases q)]
      exact ⟨⟨_, (v, X), rfl, ⟨rfl, k⟩, WU.end hP ht hW hK hN hI⟩, hS.F ht⟩
  · intro pc ls H locs X v hd hrt k hP hS
    refine W.lret hx hb (hr.trans hrt) (fun t ht hW => ?_) hS.2.2 hd
    unfold Qc
    rw [if_neg (by rw [hrt]; exact fun q => by cases q), if_pos hrt]
    exact ⟨⟨_, (v, X), rfl, ⟨rfl, k⟩, WU.end hP ht hW hK hN hI⟩, hS.F ht⟩
  · intro pc ls H locs X hd hrt k hP hS
    refine W.vret hx hb (hr.trans hrt) (fun t ht hW => ?_) hS.2.2 hd
    unfold Qc
    rw [if_pos hrt]
    exact ⟨⟨X, rfl, k, WU.end hP ht hW hK hN hI⟩, hS.F ht⟩
-- calls
def CalV (M : Me) (n : Nat) : Prop := Cond.instanceMethod M.1 ∈ TB ∧ Cond.selects M.1.cls M.1 M.1 ∈ TB ∧ Cond.initialized M.1.cls ∈ TB ∧ Cond.code M.1 M.2.1 M.2.2.1 M.2.2.2.1 ∈ TB ∧ (M.1.cls ≠ "java/lang/invoke/MethodHandle" ∧ M.1.cls ≠ "java/lang/invoke/VarHandle" ∧ (parseMethodDescriptor M.1.desc).map (fun d => d.parameters.length) = some n)
def CalS (M : Me) (n : Nat) : Prop := Cond.static M.1 ∈ TB ∧ Cond.initialized M.1.cls ∈ TB ∧ Cond.code M.1 M.2.1 M.2.2.1 M.2.2.2.1 ∈ TB ∧ (M.1.cls ≠ "java/lang/invoke/MethodHandle" ∧ M.1.cls ≠ "java/lang/invoke/VarHandle" ∧ (parseMethodDescriptor M.1.desc).map (fun d => d.parameters.length) = some n)
def Rm (M M2 : Me) : Prop := M2.2.2.2.2.1 + 1 ≤ M.2.2.2.2.1 ∧ 8 + (M2.2.2.1 + 11) + M2.2.2.2.2.2 ≤ M.2.2.2.2.2
theorem gi_tb {ws : List Cond} (h : ∀ w ∈ ws, w ∈ TB) : GoodIn TB ws := fun w hw => ⟨h w hw, TB_good w (h w hw)⟩
theorem gi_cd {M : Me} (h : Cond.code M.1 M.2.1 M.2.2.1 M.2.2.2.1 ∈ TB) : ∀ w ∈ (Cond.code M.1 M.2.1 M.2.2.1 M.2.2.2.1 :: TB), w ∈ TB := fun w hw => (List.mem_cons.mp hw).elim (fun e => e ▸ h) id
theorem mc_sum (g : Geo) (st : List AV) : ((st.map (cv g)).map fun v => v.category).sum = (st.map cat).sum := by
  rw [List.map_map]
  congr 1
  exact List.map_congr_left (fun v _ => cv_cat g v)
theorem AA_le {g : Geo} {a b q : Nat} (h : a ≤ b) (hq : AA g b q) : AA g a q := hq.imp id (fun x => Nat.le_trans h x)
theorem blindP (g : Geo) (X : Mm) (as : List Value) (sz : Nat) : FrameBlind (va_Pc as (fun U => U.heap.size = sz ∧ WU g X U)) := fun a U f mk q => ⟨q.1, q.2.1, q.2.2.1, va_K.moved (u := U) (U := U.calling f mk a) (Vm.Alike.refl U.vm) q.2.2.2.1, NW.same rfl q.2.2.2.2.1, q.2.2.2.2.2⟩
/-- behind a call, whatever it answers -/
theorem g_back {l : Launch} {g : Geo} {M : Me} {κ : Kx} {K : AV → Mm → Prop} {pc : Nat} {lv : Lv} {X : Mm} {M2 : Me} {as st : List AV} {st0 : List Value} {mk : Array Value} (h : Ct l g M2 as X (fun v X2 => G l g M κ K (pc + 3) lv (if M2.2.2.2.1 = none then st else v :: st) X2)) : match κ with
  | (p, e, s, m, args, below, meth, c, A, Q, kc, ks) => Ok l g M (p, e, s, m, args, below, meth, c, A, Q, kc, ks) K → ∀ (H : Heap) (locs : List Loc) (ls : Array Slot), va_P g.2.2.2.2 vwCl (wl g X) H → va_S A s.heap H locs → lv_has ls M.2.2.1 (cvl g lv) →
    va_Run p l e (rM M kc ks) s m args below meth c H locs kc ks 0 0 (F0 m pc ls st0) (st.map (cv g)) (Qc g M2.2.2.2.1 (fun v X2 => G l g M (p, e, s, m, args, below, meth, c, A, Q, kc, ks) K (pc + 3) lv (if M2.2.2.2.1 = none then st else v :: st) X2) H.size mk) (AA g H.size) → W p l e (rM M kc ks) s m args below meth c H locs kc ks Q (F0 m pc ls st0) := by
  obtain ⟨p, e, s, m, args, below, meth, c, A, Q, kc, ks⟩ := κ
  intro O H locs ls hP hS hl hr
  have hAA : ∀ q, AA g H.size q → A q := fun q hq => O.2.2.2.2.2.2.2.2.1 q (AA_le hS.1 hq)
  unfold Qc at hr
  by_cases c1 : M2.2.2.2.1 = none
  · rw [if_pos c1] at hr
    refine va_callv hr hS (fun q _ h => hAA q h) hAA (fun u t H1 locs1 ht hvm hw hB hz1 hk1 hS1 => ?_)
    dsimp only at hw
    rw [if_pos c1] at hw
    exact hw O H1 locs1 ls (by rw [← ht]; exact hB.1) hS1 hl
  · rw [if_neg c1] at hr
    by_cases c2 : M2.2.2.2.1 = some .long
    · rw [if_pos c2] at hr
      refine va_calll hr hS (fun q _ h => hAA q h) hAA (fun x u t H1 locs1 ht hvm hw hB hz1 hk1 hS1 => ?_)
      obtain ⟨e1, hw⟩ := hw
      rw [if_neg c1] at hw
      subst e1
      exact hw O H1 locs1 ls (by rw [← ht]; exact hB.1) hS1 hl
    · rw [if_neg c2] at hr
      refine va_calli hr hS (fun q _ h => hAA q h) hAA (fun x u t H1 locs1 ht hvm hw hB hz1 hk1 hS1 => ?_)
      obtain ⟨e1, hw⟩ := hw
      rw [if_neg c1] at hw
      subst e1
      exact hw O H1 locs1 ls (by rw [← ht]; exact hB.1) hS1 hl
theorem g_callV {l : Launch} {g : Geo} {M : Me} {κ : Kx} {K : AV → Mm → Prop} {pc : Nat} {lv : Lv} {X : Mm} {M2 : Me} {as st : List AV} {b ci idx n N : Nat} {T : u_T} (hd : decode M.2.1 pc = .ok (.invokevirtual idx, 3)) (hml : Cond.methodLink M.1.cls idx M2.1 ∈ TB) (hC : CalV M2 n) (hn : as.length = n) (hb : kd b = ci) (h9 : ci < 9) (hci : vwCl[ci]? = some (M2.1.cls, T, N)) (hR : Rm M M2) (hw : (st.map cat).sum ≤ 8) (h : Ct l g M2 (vR b :: as) X (fun v X2 => G l g M κ K (pc + 3) lv (if M2.2.2.2.1 = none then st else v :: st) X2)) : G l g M κ K pc lv (as.reverse ++ vR b :: st) X := by
  have hgo := g_back (mk := ((vR b :: as).map (cv g)).toArray) (st0 := (as.reverse ++ vR b :: st).map (cv g)) h
  obtain ⟨p, e, s, m, args, below, meth, c, A, Q, kc, ks⟩ := κ
  intro O H locs ls hP hS hl
  refine hgo O H locs ls hP hS hl ?_
  have hws := wl_at g X (kd_lt hb (by omega))
  rw [ce_o hb h9] at hws
  exact va_runV (As := as.map (cv g)) (b := g.1 b) ⟨O.1, O.2.1, O.2.2.1, O.2.2.2.1, O.2.2.2.2.1⟩ (h H.size) (cwV n O.2.2.2.2.1 (gi_tb (by
      intro w hw
      simp only [wsV, List.mem_append, List.mem_cons, List.not_mem_nil, or_false] at hw
      rcases hw with (rfl | rfl | rfl | rfl) | hw
      · exact hml
      · exact hC.1
      · exact hC.2.1
      · exact hC.2.2.1
      · exact gi_cd hC.2.2.2.1 w (List.mem_cons.mpr hw))) rfl rfl rfl ⟨rfl, hC.2.2.2.2⟩ hR)
    ⟨blindP g X _ _, va_recv O.2.2.2.2.2.1 hP hci hws, fun U hU hW => ⟨rfl, by rw [hU], by rw [hU]; exact hP, va_K.moved hW.alike O.2.2.2.2.2.1, NW.warm hW O.2.2.2.2.2.2.1, O.2.2.2.2.2.2.2.1⟩⟩
    rfl (by rw [List.length_map]; exact hn) hl.1 (by simp [cv, List.map_reverse]) (lv_room (by rw [mc_sum]; exact hw)) hd ⟨Nat.le_refl _, Nat.le_refl _⟩
theorem g_callS {l : Launch} {g : Geo} {M : Me} {κ : Kx} {K : AV → Mm → Prop} {pc : Nat} {lv : Lv} {X : Mm} {M2 : Me} {as st : List AV} {idx n : Nat} (hd : decode M.2.1 pc = .ok (.invokestatic idx, 3)) (hml : Cond.methodLink M.1.cls idx M2.1 ∈ TB) (hC : CalS M2 n) (hcl : M2.1.cls = M.1.cls) (hn : as.length = n) (hR : Rm M M2) (hw : (st.map cat).sum ≤ 8) (h : Ct l g M2 as X (fun v X2 => G l g M κ K (pc + 3) lv (if M2.2.2.2.1 = none then st else v :: st) X2)) : G l g M κ K pc lv (as.reverse ++ st) X := by
  have hgo := g_back (mk := (as.map (cv g)).toArray) (st0 := (as.reverse ++ st).map (cv g)) h
  obtain ⟨p, e, s, m, args, below, meth, c, A, Q, kc, ks⟩ := κ
  intro O H locs ls hP hS hl
  refine hgo O H locs ls hP hS hl ?_
  exact va_runS (As := as.map (cv g)) ⟨O.1, O.2.1, O.2.2.1, O.2.2.2.1, O.2.2.2.2.1⟩ (h H.size) (cwS n O.2.2.2.2.1 (gi_tb (by
      intro w hw
      simp only [wsS, List.mem_append, List.mem_cons, List.not_mem_nil, or_false] at hw
      rcases hw with (rfl | rfl | rfl) | hw
      · exact hml
      · exact hC.1
      · rw [← hcl]; exact hC.2.1
      · exact gi_cd hC.2.2.1 w (List.mem_cons.mpr hw))) rfl rfl rfl ⟨hcl, hC.2.2.2⟩ hR)
    ⟨blindP g X _ _, fun U hU hW => ⟨rfl, by rw [hU], by rw [hU]; exact hP, va_K.moved hW.alike O.2.2.2.2.2.1, NW.warm hW O.2.2.2.2.2.2.1, O.2.2.2.2.2.2.2.1⟩⟩
    rfl (by rw [List.length_map]; exact hn) hl.1 (by simp [List.map_reverse]) (lv_room (by rw [mc_sum]; exact hw)) hd ⟨Nat.le_refl _, Nat.le_refl _⟩
theorem g_callN {l : Launch} {g : Geo} {M : Me} {κ : Kx} {K : AV → Mm → Prop} {pc : Nat} {lv : Lv} {X : Mm} {M2 : Me} {as st : List AV} {idx n : Nat} (hd : decode M.2.1 pc = .ok (.invokestatic idx, 3)) (hml : ∀ U : State, NW U → va_Nw (.methodLinkNest M.1.cls idx M2.1 RX7) U) (hC : CalS M2 n) (hn : as.length = n) (hR : Rm M M2) (hw : (st.map cat).sum ≤ 8) (h : Ct l g M2 as X (fun v X2 => G l g M κ K (pc + 3) lv (if M2.2.2.2.1 = none then st else v :: st) X2)) : G l g M κ K pc lv (as.reverse ++ st) X := by
  have hgo := g_back (mk := (as.map (cv g)).toArray) (st0 := (as.reverse ++ st).map (cv g)) h
  obtain ⟨p, e, s, m, args, below, meth, c, A, Q, kc, ks⟩ := κ
  intro O H locs ls hP hS hl
  refine hgo O H locs ls hP hS hl ?_
  exact va_runSN (As := as.map (cv g)) ⟨O.1, O.2.1, O.2.2.1, O.2.2.2.1, O.2.2.2.2.1⟩ (h H.size) ⟨va_cnB n O.2.2.2.2.1 (gi_tb (gi_cd hC.2.2.1)) rfl rfl rfl (hml s O.2.2.2.2.2.2.1) (O.2.2.2.2.1 _ hC.2.1) hC.2.2.2 hR, O.2.2.2.2.1 _ hC.1, trivial⟩
    ⟨blindP g X _ _, fun U hU hW => ⟨rfl, by rw [hU], by rw [hU]; exact hP, va_K.moved hW.alike O.2.2.2.2.2.1, NW.warm hW O.2.2.2.2.2.2.1, O.2.2.2.2.2.2.2.1⟩⟩
    rfl (by rw [List.length_map]; exact hn) hl.1 (by simp [List.map_reverse]) (lv_room (by rw [mc_sum]; exact hw)) hd ⟨Nat.le_refl _, Nat.le_refl _⟩
theorem g_cv0 {l : Launch} {g : Geo} {M : Me} {κ : Kx} {K : AV → Mm → Prop} {pc : Nat} {lv : Lv} {X : Mm} {r : List AV} {M2 : Me} {b ci idx N : Nat} {T : u_T} (hd : decode M.2.1 pc = .ok (.invokevirtual idx, 3)) (hml : Cond.methodLink M.1.cls idx M2.1 ∈ TB) (hC : CalV M2 0) (hrt : ¬ M2.2.2.2.1 = none) (hb : kd b = ci) (h9 : ci < 9) (hci : vwCl[ci]? = some (M2.1.cls, T, N)) (hR : Rm M M2) (hw : (r.map cat).sum ≤ 8) (h : Ct l g M2 (vR b :: []) X (fun v X2 => G l g M κ K (pc + 3) lv (v :: r) X2)) : G l g M κ K pc lv (vR b :: r) X :=
  g_callV (as := []) hd hml hC rfl hb h9 hci hR hw (by simpa only [if_neg hrt] using h)
theorem g_cv0v {l : Launch} {g : Geo} {M : Me} {κ : Kx} {K : AV → Mm → Prop} {pc : Nat} {lv : Lv} {X : Mm} {r : List AV} {M2 : Me} {b ci idx N : Nat} {T : u_T} (hd : decode M.2.1 pc = .ok (.invokevirtual idx, 3)) (hml : Cond.methodLink M.1.cls idx M2.1 ∈ TB) (hC : CalV M2 0) (hrt : M2.2.2.2.1 = none) (hb : kd b = ci) (h9 : ci < 9) (hci : vwCl[ci]? = some (M2.1.cls, T, N)) (hR : Rm M M2) (hw : (r.map cat).sum ≤ 8) (h : Ct l g M2 (vR b :: []) X (fun _ X2 => G l g M κ K (pc + 3) lv (r) X2)) : G l g M κ K pc lv (vR b :: r) X :=
  g_callV (as := []) hd hml hC rfl hb h9 hci hR hw (by simpa only [if_pos hrt] using h)
theorem g_cv1 {l : Launch} {g : Geo} {M : Me} {κ : Kx} {K : AV → Mm → Prop} {pc : Nat} {lv : Lv} {X : Mm} {r : List AV} {M2 : Me} {a1 : AV} {b ci idx N : Nat} {T : u_T} (hd : decode M.2.1 pc = .ok (.invokevirtual idx, 3)) (hml : Cond.methodLink M.1.cls idx M2.1 ∈ TB) (hC : CalV M2 1) (hrt : ¬ M2.2.2.2.1 = none) (hb : kd b = ci) (h9 : ci < 9) (hci : vwCl[ci]? = some (M2.1.cls, T, N)) (hR : Rm M M2) (hw : (r.map cat).sum ≤ 8) (h : Ct l g M2 (vR b :: [a1]) X (fun v X2 => G l g M κ K (pc + 3) lv (v :: r) X2)) : G l g M κ K pc lv (a1 :: vR b :: r) X :=
  g_callV (as := [a1]) hd hml hC rfl hb h9 hci hR hw (by simpa only [if_neg hrt] using h)
theorem g_cs1 {l : Launch} {g : Geo} {M : Me} {κ : Kx} {K : AV → Mm → Prop} {pc : Nat} {lv : Lv} {X : Mm} {r : List AV} {M2 : Me} {a1 : AV} {idx : Nat} (hd : decode M.2.1 pc = .ok (.invokestatic idx, 3)) (hml : Cond.methodLink M.1.cls idx M2.1 ∈ TB) (hC : CalS M2 1) (hcl : M2.1.cls = M.1.cls) (hrt : ¬ M2.2.2.2.1 = none) (hR : Rm M M2) (hw : (r.map cat).sum ≤ 8) (h : Ct l g M2 [a1] X (fun v X2 => G l g M κ K (pc + 3) lv (v :: r) X2)) : G l g M κ K pc lv (a1 :: r) X :=
  g_callS (as := [a1]) hd hml hC hcl rfl hR hw (by simpa only [if_neg hrt] using h)
theorem g_cn1 {l : Launch} {g : Geo} {M : Me} {κ : Kx} {K : AV → Mm → Prop} {pc : Nat} {lv : Lv} {X : Mm} {r : List AV} {M2 : Me} {a1 : AV} {idx : Nat} (hd : decode M.2.1 pc = .ok (.invokestatic idx, 3)) (hml : ∀ U : State, NW U → va_Nw (.methodLinkNest M.1.cls idx M2.1 RX7) U) (hC : CalS M2 1) (hrt : ¬ M2.2.2.2.1 = none) (hR : Rm M M2) (hw : (r.map cat).sum ≤ 8) (h : Ct l g M2 [a1] X (fun v X2 => G l g M κ K (pc + 3) lv (v :: r) X2)) : G l g M κ K pc lv (a1 :: r) X :=
  g_callN (as := [a1]) hd hml hC rfl hR hw (by simpa only [if_neg hrt] using h)
theorem g_cv1v {l : Launch} {g : Geo} {M : Me} {κ : Kx} {K : AV → Mm → Prop} {pc : Nat} {lv : Lv} {X : Mm} {r : List AV} {M2 : Me} {a1 : AV} {b ci idx N : Nat} {T : u_T} (hd : decode M.2.1 pc = .ok (.invokevirtual idx, 3)) (hml : Cond.methodLink M.1.cls idx M2.1 ∈ TB) (hC : CalV M2 1) (hrt : M2.2.2.2.1 = none) (hb : kd b = ci) (h9 : ci < 9) (hci : vwCl[ci]? = some (M2.1.cls, T, N)) (hR : Rm M M2) (hw : (r.map cat).sum ≤ 8) (h : Ct l g M2 (vR b :: [a1]) X (fun _ X2 => G l g M κ K (pc + 3) lv (r) X2)) : G l g M κ K pc lv (a1 :: vR b :: r) X :=
  g_callV (as := [a1]) hd hml hC rfl hb h9 hci hR hw (by simpa only [if_pos hrt] using h)
theorem g_cs1v {l : Launch} {g : Geo} {M : Me} {κ : Kx} {K : AV → Mm → Prop} {pc : Nat} {lv : Lv} {X : Mm} {r : List AV} {M2 : Me} {a1 : AV} {idx : Nat} (hd : decode M.2.1 pc = .ok (.invokestatic idx, 3)) (hml : Cond.methodLink M.1.cls idx M2.1 ∈ TB) (hC : CalS M2 1) (hcl : M2.1.cls = M.1.cls) (hrt : M2.2.2.2.1 = none) (hR : Rm M M2) (hw : (r.map cat).sum ≤ 8) (h : Ct l g M2 [a1] X (fun _ X2 => G l g M κ K (pc + 3) lv (r) X2)) : G l g M κ K pc lv (a1 :: r) X :=
  g_callS (as := [a1]) hd hml hC hcl rfl hR hw (by simpa only [if_pos hrt] using h)
theorem g_cv2 {l : Launch} {g : Geo} {M : Me} {κ : Kx} {K : AV → Mm → Prop} {pc : Nat} {lv : Lv} {X : Mm} {r : List AV} {M2 : Me} {a1 a2 : AV} {b ci idx N : Nat} {T : u_T} (hd : decode M.2.1 pc = .ok (.invokevirtual idx, 3)) (hml : Cond.methodLink M.1.cls idx M2.1 ∈ TB) (hC : CalV M2 2) (hrt : ¬ M2.2.2.2.1 = none) (hb : kd b = ci) (h9 : ci < 9) (hci : vwCl[ci]? = some (M2.1.cls, T, N)) (hR : Rm M M2) (hw : (r.map cat).sum ≤ 8) (h : Ct l g M2 (vR b :: [a1, a2]) X (fun v X2 => G l g M κ K (pc + 3) lv (v :: r) X2)) : G l g M κ K pc lv (a2 :: a1 :: vR b :: r) X :=
  g_callV (as := [a1, a2]) hd hml hC rfl hb h9 hci hR hw (by simpa only [if_neg hrt] using h)
theorem g_cs2 {l : Launch} {g : Geo} {M : Me} {κ : Kx} {K : AV → Mm → Prop} {pc : Nat} {lv : Lv} {X : Mm} {r : List AV} {M2 : Me} {a1 a2 : AV} {idx : Nat} (hd : decode M.2.1 pc = .ok (.invokestatic idx, 3)) (hml : Cond.methodLink M.1.cls idx M2.1 ∈ TB) (hC : CalS M2 2) (hcl : M2.1.cls = M.1.cls) (hrt : ¬ M2.2.2.2.1 = none) (hR : Rm M M2) (hw : (r.map cat).sum ≤ 8) (h : Ct l g M2 [a1, a2] X (fun v X2 => G l g M κ K (pc + 3) lv (v :: r) X2)) : G l g M κ K pc lv (a2 :: a1 :: r) X :=
  g_callS (as := [a1, a2]) hd hml hC hcl rfl hR hw (by simpa only [if_neg hrt] using h)
theorem g_cn2 {l : Launch} {g : Geo} {M : Me} {κ : Kx} {K : AV → Mm → Prop} {pc : Nat} {lv : Lv} {X : Mm} {r : List AV} {M2 : Me} {a1 a2 : AV} {idx : Nat} (hd : decode M.2.1 pc = .ok (.invokestatic idx, 3)) (hml : ∀ U : State, NW U → va_Nw (.methodLinkNest M.1.cls idx M2.1 RX7) U) (hC : CalS M2 2) (hrt : ¬ M2.2.2.2.1 = none) (hR : Rm M M2) (hw : (r.map cat).sum ≤ 8) (h : Ct l g M2 [a1, a2] X (fun v X2 => G l g M κ K (pc + 3) lv (v :: r) X2)) : G l g M κ K pc lv (a2 :: a1 :: r) X :=
  g_callN (as := [a1, a2]) hd hml hC rfl hR hw (by simpa only [if_neg hrt] using h)
theorem g_cv2v {l : Launch} {g : Geo} {M : Me} {κ : Kx} {K : AV → Mm → Prop} {pc : Nat} {lv : Lv} {X : Mm} {r : List AV} {M2 : Me} {a1 a2 : AV} {b ci idx N : Nat} {T : u_T} (hd : decode M.2.1 pc = .ok (.invokevirtual idx, 3)) (hml : Cond.methodLink M.1.cls idx M2.1 ∈ TB) (hC : CalV M2 2) (hrt : M2.2.2.2.1 = none) (hb : kd b = ci) (h9 : ci < 9) (hci : vwCl[ci]? = some (M2.1.cls, T, N)) (hR : Rm M M2) (hw : (r.map cat).sum ≤ 8) (h : Ct l g M2 (vR b :: [a1, a2]) X (fun _ X2 => G l g M κ K (pc + 3) lv (r) X2)) : G l g M κ K pc lv (a2 :: a1 :: vR b :: r) X :=
  g_callV (as := [a1, a2]) hd hml hC rfl hb h9 hci hR hw (by simpa only [if_pos hrt] using h)
theorem g_cs2v {l : Launch} {g : Geo} {M : Me} {κ : Kx} {K : AV → Mm → Prop} {pc : Nat} {lv : Lv} {X : Mm} {r : List AV} {M2 : Me} {a1 a2 : AV} {idx : Nat} (hd : decode M.2.1 pc = .ok (.invokestatic idx, 3)) (hml : Cond.methodLink M.1.cls idx M2.1 ∈ TB) (hC : CalS M2 2) (hcl : M2.1.cls = M.1.cls) (hrt : M2.2.2.2.1 = none) (hR : Rm M M2) (hw : (r.map cat).sum ≤ 8) (h : Ct l g M2 [a1, a2] X (fun _ X2 => G l g M κ K (pc + 3) lv (r) X2)) : G l g M κ K pc lv (a2 :: a1 :: r) X :=
  g_callS (as := [a1, a2]) hd hml hC hcl rfl hR hw (by simpa only [if_pos hrt] using h)
theorem g_cv3 {l : Launch} {g : Geo} {M : Me} {κ : Kx} {K : AV → Mm → Prop} {pc : Nat} {lv : Lv} {X : Mm} {r : List AV} {M2 : Me} {a1 a2 a3 : AV} {b ci idx N : Nat} {T : u_T} (hd : decode M.2.1 pc = .ok (.invokevirtual idx, 3)) (hml : Cond.methodLink M.1.cls idx M2.1 ∈ TB) (hC : CalV M2 3) (hrt : ¬ M2.2.2.2.1 = none) (hb : kd b = ci) (h9 : ci < 9) (hci : vwCl[ci]? = some (M2.1.cls, T, N)) (hR : Rm M M2) (hw : (r.map cat).sum ≤ 8) (h : Ct l g M2 (vR b :: [a1, a2, a3]) X (fun v X2 => G l g M κ K (pc + 3) lv (v :: r) X2)) : G l g M κ K pc lv (a3 :: a2 :: a1 :: vR b :: r) X :=
  g_callV (as := [a1, a2, a3]) hd hml hC rfl hb h9 hci hR hw (by simpa only [if_neg hrt] using h)
theorem g_cs3 {l : Launch} {g : Geo} {M : Me} {κ : Kx} {K : AV → Mm → Prop} {pc : Nat} {lv : Lv} {X : Mm} {r : List AV} {M2 : Me} {a1 a2 a3 : AV} {idx : Nat} (hd : decode M.2.1 pc = .ok (.invokestatic idx, 3)) (hml : Cond.methodLink M.1.cls idx M2.1 ∈ TB) (hC : CalS M2 3) (hcl : M2.1.cls = M.1.cls) (hrt : ¬ M2.2.2.2.1 = none) (hR : Rm M M2) (hw : (r.map cat).sum ≤ 8) (h : Ct l g M2 [a1, a2, a3] X (fun v X2 => G l g M κ K (pc + 3) lv (v :: r) X2)) : G l g M κ K pc lv (a3 :: a2 :: a1 :: r) X :=
  g_callS (as := [a1, a2, a3]) hd hml hC hcl rfl hR hw (by simpa only [if_neg hrt] using h)
theorem g_cn3 {l : Launch} {g : Geo} {M : Me} {κ : Kx} {K : AV → Mm → Prop} {pc : Nat} {lv : Lv} {X : Mm} {r : List AV} {M2 : Me} {a1 a2 a3 : AV} {idx : Nat} (hd : decode M.2.1 pc = .ok (.invokestatic idx, 3)) (hml : ∀ U : State, NW U → va_Nw (.methodLinkNest M.1.cls idx M2.1 RX7) U) (hC : CalS M2 3) (hrt : ¬ M2.2.2.2.1 = none) (hR : Rm M M2) (hw : (r.map cat).sum ≤ 8) (h : Ct l g M2 [a1, a2, a3] X (fun v X2 => G l g M κ K (pc + 3) lv (v :: r) X2)) : G l g M κ K pc lv (a3 :: a2 :: a1 :: r) X :=
  g_callN (as := [a1, a2, a3]) hd hml hC rfl hR hw (by simpa only [if_neg hrt] using h)
theorem g_cv3v {l : Launch} {g : Geo} {M : Me} {κ : Kx} {K : AV → Mm → Prop} {pc : Nat} {lv : Lv} {X : Mm} {r : List AV} {M2 : Me} {a1 a2 a3 : AV} {b ci idx N : Nat} {T : u_T} (hd : decode M.2.1 pc = .ok (.invokevirtual idx, 3)) (hml : Cond.methodLink M.1.cls idx M2.1 ∈ TB) (hC : CalV M2 3) (hrt : M2.2.2.2.1 = none) (hb : kd b = ci) (h9 : ci < 9) (hci : vwCl[ci]? = some (M2.1.cls, T, N)) (hR : Rm M M2) (hw : (r.map cat).sum ≤ 8) (h : Ct l g M2 (vR b :: [a1, a2, a3]) X (fun _ X2 => G l g M κ K (pc + 3) lv (r) X2)) : G l g M κ K pc lv (a3 :: a2 :: a1 :: vR b :: r) X :=
  g_callV (as := [a1, a2, a3]) hd hml hC rfl hb h9 hci hR hw (by simpa only [if_pos hrt] using h)
theorem g_cs3v {l : Launch} {g : Geo} {M : Me} {κ : Kx} {K : AV → Mm → Prop} {pc : Nat} {lv : Lv} {X : Mm} {r : List AV} {M2 : Me} {a1 a2 a3 : AV} {idx : Nat} (hd : decode M.2.1 pc = .ok (.invokestatic idx, 3)) (hml : Cond.methodLink M.1.cls idx M2.1 ∈ TB) (hC : CalS M2 3) (hcl : M2.1.cls = M.1.cls) (hrt : M2.2.2.2.1 = none) (hR : Rm M M2) (hw : (r.map cat).sum ≤ 8) (h : Ct l g M2 [a1, a2, a3] X (fun _ X2 => G l g M κ K (pc + 3) lv (r) X2)) : G l g M κ K pc lv (a3 :: a2 :: a1 :: r) X :=
  g_callS (as := [a1, a2, a3]) hd hml hC hcl rfl hR hw (by simpa only [if_pos hrt] using h)
theorem g_cv4 {l : Launch} {g : Geo} {M : Me} {κ : Kx} {K : AV → Mm → Prop} {pc : Nat} {lv : Lv} {X : Mm} {r : List AV} {M2 : Me} {a1 a2 a3 a4 : AV} {b ci idx N : Nat} {T : u_T} (hd : decode M.2.1 pc = .ok (.invokevirtual idx, 3)) (hml : Cond.methodLink M.1.cls idx M2.1 ∈ TB) (hC : CalV M2 4) (hrt : ¬ M2.2.2.2.1 = none) (hb : kd b = ci) (h9 : ci < 9) (hci : vwCl[ci]? = some (M2.1.cls, T, N)) (hR : Rm M M2) (hw : (r.map cat).sum ≤ 8) (h : Ct l g M2 (vR b :: [a1, a2, a3, a4]) X (fun v X2 => G l g M κ K (pc + 3) lv (v :: r) X2)) : G l g M κ K pc lv (a4 :: a3 :: a2 :: a1 :: vR b :: r) X :=
  g_callV (as := [a1, a2, a3, a4]) hd hml hC rfl hb h9 hci hR hw (by simpa only [if_neg hrt] using h)
theorem g_cs4 {l : Launch} {g : Geo} {M : Me} {κ : Kx} {K : AV → Mm → Prop} {pc : Nat} {lv : Lv} {X : Mm} {r : List AV} {M2 : Me} {a1 a2 a3 a4 : AV} {idx : Nat} (hd : decode M.2.1 pc = .ok (.invokestatic idx, 3)) (hml : Cond.methodLink M.1.cls idx M2.1 ∈ TB) (hC : CalS M2 4) (hcl : M2.1.cls = M.1.cls) (hrt : ¬ M2.2.2.2.1 = none) (hR : Rm M M2) (hw : (r.map cat).sum ≤ 8) (h : Ct l g M2 [a1, a2, a3, a4] X (fun v X2 => G l g M κ K (pc + 3) lv (v :: r) X2)) : G l g M κ K pc lv (a4 :: a3 :: a2 :: a1 :: r) X :=
  g_callS (as := [a1, a2, a3, a4]) hd hml hC hcl rfl hR hw (by simpa only [if_neg hrt] using h)
theorem g_cn4 {l : Launch} {g : Geo} {M : Me} {κ : Kx} {K : AV → Mm → Prop} {pc : Nat} {lv : Lv} {X : Mm} {r : List AV} {M2 : Me} {a1 a2 a3 a4 : AV} {idx : Nat} (hd : decode M.2.1 pc = .ok (.invokestatic idx, 3)) (hml : ∀ U : State, NW U → va_Nw (.methodLinkNest M.1.cls idx M2.1 RX7) U) (hC : CalS M2 4) (hrt : ¬ M2.2.2.2.1 = none) (hR : Rm M M2) (hw : (r.map cat).sum ≤ 8) (h : Ct l g M2 [a1, a2, a3, a4] X (fun v X2 => G l g M κ K (pc + 3) lv (v :: r) X2)) : G l g M κ K pc lv (a4 :: a3 :: a2 :: a1 :: r) X :=
  g_callN (as := [a1, a2, a3, a4]) hd hml hC rfl hR hw (by simpa only [if_neg hrt] using h)
theorem g_cv4v {l : Launch} {g : Geo} {M : Me} {κ : Kx} {K : AV → Mm → Prop} {pc : Nat} {lv : Lv} {X : Mm} {r : List AV} {M2 : Me} {a1 a2 a3 a4 : AV} {b ci idx N : Nat} {T : u_T} (hd : decode M.2.1 pc = .ok (.invokevirtual idx, 3)) (hml : Cond.methodLink M.1.cls idx M2.1 ∈ TB) (hC : CalV M2 4) (hrt : M2.2.2.2.1 = none) (hb : kd b = ci) (h9 : ci < 9) (hci : vwCl[ci]? = some (M2.1.cls, T, N)) (hR : Rm M M2) (hw : (r.map cat).sum ≤ 8) (h : Ct l g M2 (vR b :: [a1, a2, a3, a4]) X (fun _ X2 => G l g M κ K (pc + 3) lv (r) X2)) : G l g M κ K pc lv (a4 :: a3 :: a2 :: a1 :: vR b :: r) X :=
  g_callV (as := [a1, a2, a3, a4]) hd hml hC rfl hb h9 hci hR hw (by simpa only [if_pos hrt] using h)
theorem g_cs4v {l : Launch} {g : Geo} {M : Me} {κ : Kx} {K : AV → Mm → Prop} {pc : Nat} {lv : Lv} {X : Mm} {r : List AV} {M2 : Me} {a1 a2 a3 a4 : AV} {idx : Nat} (hd : decode M.2.1 pc = .ok (.invokestatic idx, 3)) (hml : Cond.methodLink M.1.cls idx M2.1 ∈ TB) (hC : CalS M2 4) (hcl : M2.1.cls = M.1.cls) (hrt : M2.2.2.2.1 = none) (hR : Rm M M2) (hw : (r.map cat).sum ≤ 8) (h : Ct l g M2 [a1, a2, a3, a4] X (fun _ X2 => G l g M κ K (pc + 3) lv (r) X2)) : G l g M κ K pc lv (a4 :: a3 :: a2 :: a1 :: r) X :=
  g_callS (as := [a1, a2, a3, a4]) hd hml hC hcl rfl hR hw (by simpa only [if_pos hrt] using h)
theorem g_get {l : Launch} {g : Geo} {M : Me} {κ : Kx} {K : AV → Mm → Prop} {pc : Nat} {lv : Lv} {X : Mm} {r : List AV} {c ci idx k N : Nat} {C : String} {T : u_T} {v : AV} (hc : kd c = ci) (h9 : ci < 9) (hcl : vwCl[ci]? = some (C, T, N)) (hN : N = cN ci) (hk : k < N) (hlay : ∀ w ∈ u_ws C T N, w ∈ TB) (hlk : Cond.fieldLink M.1.cls idx (T k).1 (T k).2.1 (T k).2.2.1 ∈ TB) (hv : fv g c ci k (X c) = cv g v) (hd : decode M.2.1 pc = .ok (.getfield idx, 3)) (kk : G l g M κ K (pc + 3) lv (v :: r) X) : G l g M κ K pc lv (vR c :: r) X := by
  obtain ⟨p, e, s, m, args, below, meth, co, A, Q, kc, ks⟩ := κ
  intro O H locs ls hP hS hl
  have hws := wl_at g X (kd_lt hc (by omega))
  rw [ce_o hc h9] at hws
  exact va_get (ci := ci) (v := cv g v) (C := C) (T := T) (N := N) O.1 O.2.1 O.2.2.2.2.1 hlay O.2.2.2.1 O.2.2.2.2.2.1 hP c hws hcl k hk (O.2.2.2.2.1 _ hlk) (fun _ h => h) (by rw [← hv]; exact fl_at g c ci (X c) (by omega)) hd (kk O H locs ls hP hS hl)
theorem g_put {l : Launch} {g : Geo} {M : Me} {κ : Kx} {K : AV → Mm → Prop} {pc : Nat} {lv : Lv} {X : Mm} {r : List AV} {c ci idx k N : Nat} {C : String} {T : u_T} {ty0 : Nat → FieldType} {ty : FieldType} {v : AV} {n : Int} (hc : kd c = ci) (h9 : ci < 9) (hcl : vwCl[ci]? = some (C, T, N)) (hN : N = cN ci) (hk : k < N) (hlay : ∀ w ∈ u_ws C T N, w ∈ TB) (hty : ∀ k, k < N → parseFieldDescriptor (T k).2.2.1 = some (ty0 k)) (hnm : ∀ a, a < N → ∀ b, b < N → a ≠ b → (T a).2.1 ≠ (T b).2.1) (hlk : Cond.fieldLink M.1.cls idx (T k).1 (T k).2.1 (T k).2.2.1 ∈ TB) (hfin : (T k).2.2.2 = false) (hde : parseFieldDescriptor (T k).2.2.1 = some ty) (hv : fv g c ci k (fun j => if j = k then n else X c j) = cv g v) (hn : narrow ty (cv g v) = cv g v) (hf : fits ty (cv g v) = true) (hd : decode M.2.1 pc = .ok (.putfield idx, 3)) (kk : G l g M κ K (pc + 3) lv r (st2 X c k n)) : G l g M κ K pc lv (v :: vR c :: r) X := by
  obtain ⟨p, e, s, m, args, below, meth, co, A, Q, kc, ks⟩ := κ
  intro O H locs ls hP hS hl
  have h70 := kd_lt hc (by omega)
  have hws := wl_at g X h70
  rw [ce_o hc h9] at hws
  refine va_put (ci := ci) (v := cv g v) (ty := ty) (C := C) (T := T) (N := N) O.1 O.2.1 O.2.2.2.2.1 hlay ty0 hty hnm O.2.2.2.1 O.2.2.2.2.2.1 hP (wl_D O.2.2.2.2.2.2.2.1 X (fun i hi => O.2.2.2.2.2.2.2.2.1 _ (Or.inl ⟨i, hi, rfl⟩))) hS c hws hcl k hk (O.2.2.2.2.1 _ hlk) (fun _ h => h) hfin hde hn hf (by rw [show (fl g c ci (X c)).length = cN ci by simp [fl]]; omega) hd (fun H1 locs1 hP1 hD1 hS1 => ?_)
  rw [← hv, wl_set g X n h70 (j := k) (by rw [ce_o hc h9, fl_set g c ci (X c) n (by omega)])] at hP1
  exact kk O H1 locs1 ls hP1 hS1 hl
theorem fit_z {v : Int} (h : v = 0 ∨ v = 1) : fits .boolean (.int (Int32.ofInt v)) = true := by
  rcases h with rfl | rfl <;> rfl
theorem gf_X0_9 {l : Launch} {g : Geo} {M : Me} {κ : Kx} {K : AV → Mm → Prop} {pc : Nat} {lv : Lv} {X : Mm} {r : List AV} {c : Nat} {c2 : Nat} (h2 : c + 1 = c2) (hM : M.1.cls = RX0) (hc : kd c = 0) (hd : decode M.2.1 pc = .ok (.getfield 9, 3)) (k : G l g M κ K (pc + 3) lv (vR c2 :: r) X) : G l g M κ K pc lv (vR c :: r) X := by
  subst h2
  exact g_get (k := 1) hc (by decide) (show vwCl[0]? = some (RX0, TX0, 2) from rfl) rfl (by decide) lay_X0 (by rw [hM]; exact fl_RX0_9) rfl hd k
theorem gf_X0_15 {l : Launch} {g : Geo} {M : Me} {κ : Kx} {K : AV → Mm → Prop} {pc : Nat} {lv : Lv} {X : Mm} {r : List AV} {c : Nat} (hM : M.1.cls = RX0) (hc : kd c = 3) (hd : decode M.2.1 pc = .ok (.getfield 15, 3)) (k : G l g M κ K (pc + 3) lv (vI (X c 0) :: r) X) : G l g M κ K pc lv (vR c :: r) X := g_get (k := 0) hc (by decide) (show vwCl[3]? = some (RX3, TX3, 9) from rfl) rfl (by decide) lay_X3 (by rw [hM]; exact fl_RX0_15) rfl hd k
theorem gf_X0_21 {l : Launch} {g : Geo} {M : Me} {κ : Kx} {K : AV → Mm → Prop} {pc : Nat} {lv : Lv} {X : Mm} {r : List AV} {c : Nat} (hM : M.1.cls = RX0) (hc : kd c = 0) (hd : decode M.2.1 pc = .ok (.getfield 21, 3)) (k : G l g M κ K (pc + 3) lv (vI (X c 0) :: r) X) : G l g M κ K pc lv (vR c :: r) X := g_get (k := 0) hc (by decide) (show vwCl[0]? = some (RX0, TX0, 2) from rfl) rfl (by decide) lay_X0 (by rw [hM]; exact fl_RX0_21) rfl hd k
theorem gf_X0_22 {l : Launch} {g : Geo} {M : Me} {κ : Kx} {K : AV → Mm → Prop} {pc : Nat} {lv : Lv} {X : Mm} {r : List AV} {c : Nat} {c2 : Nat} (h2 : c + 3 = c2) (hM : M.1.cls = RX0) (hc : kd c = 3) (hd : decode M.2.1 pc = .ok (.getfield 22, 3)) (k : G l g M κ K (pc + 3) lv (vR c2 :: r) X) : G l g M κ K pc lv (vR c :: r) X := by
  subst h2
  exact g_get (k := 6) hc (by decide) (show vwCl[3]? = some (RX3, TX3, 9) from rfl) rfl (by decide) lay_X3 (by rw [hM]; exact fl_RX0_22) rfl hd k
theorem gf_X0_25 {l : Launch} {g : Geo} {M : Me} {κ : Kx} {K : AV → Mm → Prop} {pc : Nat} {lv : Lv} {X : Mm} {r : List AV} {c : Nat} {c2 : Nat} (h2 : c + 4 = c2) (hM : M.1.cls = RX0) (hc : kd c = 3) (hd : decode M.2.1 pc = .ok (.getfield 25, 3)) (k : G l g M κ K (pc + 3) lv (vR c2 :: r) X) : G l g M κ K pc lv (vR c :: r) X := by
  subst h2
  exact g_get (k := 7) hc (by decide) (show vwCl[3]? = some (RX3, TX3, 9) from rfl) rfl (by decide) lay_X3 (by rw [hM]; exact fl_RX0_25) rfl hd k
theorem gf_X1_9 {l : Launch} {g : Geo} {M : Me} {κ : Kx} {K : AV → Mm → Prop} {pc : Nat} {lv : Lv} {X : Mm} {r : List AV} {c : Nat} {c2 : Nat} (h2 : c + 1 = c2) (hM : M.1.cls = RX1) (hc : kd c = 1) (hd : decode M.2.1 pc = .ok (.getfield 9, 3)) (k : G l g M κ K (pc + 3) lv (vR c2 :: r) X) : G l g M κ K pc lv (vR c :: r) X := by
  subst h2
  exact g_get (k := 1) hc (by decide) (show vwCl[1]? = some (RX1, TX1, 6) from rfl) rfl (by decide) lay_X1 (by rw [hM]; exact fl_RX1_9) rfl hd k
theorem gf_X1_15 {l : Launch} {g : Geo} {M : Me} {κ : Kx} {K : AV → Mm → Prop} {pc : Nat} {lv : Lv} {X : Mm} {r : List AV} {c : Nat} {c2 : Nat} (h2 : c + 2 = c2) (hM : M.1.cls = RX1) (hc : kd c = 1) (hd : decode M.2.1 pc = .ok (.getfield 15, 3)) (k : G l g M κ K (pc + 3) lv (vR c2 :: r) X) : G l g M κ K pc lv (vR c :: r) X := by
  subst h2
  exact g_get (k := 2) hc (by decide) (show vwCl[1]? = some (RX1, TX1, 6) from rfl) rfl (by decide) lay_X1 (by rw [hM]; exact fl_RX1_15) rfl hd k
theorem gf_X1_18 {l : Launch} {g : Geo} {M : Me} {κ : Kx} {K : AV → Mm → Prop} {pc : Nat} {lv : Lv} {X : Mm} {r : List AV} {c : Nat} {c2 : Nat} (h2 : c + 3 = c2) (hM : M.1.cls = RX1) (hc : kd c = 1) (hd : decode M.2.1 pc = .ok (.getfield 18, 3)) (k : G l g M κ K (pc + 3) lv (vR c2 :: r) X) : G l g M κ K pc lv (vR c :: r) X := by
  subst h2
  exact g_get (k := 3) hc (by decide) (show vwCl[1]? = some (RX1, TX1, 6) from rfl) rfl (by decide) lay_X1 (by rw [hM]; exact fl_RX1_18) rfl hd k
theorem gf_X1_21 {l : Launch} {g : Geo} {M : Me} {κ : Kx} {K : AV → Mm → Prop} {pc : Nat} {lv : Lv} {X : Mm} {r : List AV} {c : Nat} {c2 : Nat} (h2 : c + 4 = c2) (hM : M.1.cls = RX1) (hc : kd c = 1) (hd : decode M.2.1 pc = .ok (.getfield 21, 3)) (k : G l g M κ K (pc + 3) lv (vR c2 :: r) X) : G l g M κ K pc lv (vR c :: r) X := by
  subst h2
  exact g_get (k := 4) hc (by decide) (show vwCl[1]? = some (RX1, TX1, 6) from rfl) rfl (by decide) lay_X1 (by rw [hM]; exact fl_RX1_21) rfl hd k
theorem gf_X1_24 {l : Launch} {g : Geo} {M : Me} {κ : Kx} {K : AV → Mm → Prop} {pc : Nat} {lv : Lv} {X : Mm} {r : List AV} {c : Nat} {c2 : Nat} (h2 : c + 5 = c2) (hM : M.1.cls = RX1) (hc : kd c = 1) (hd : decode M.2.1 pc = .ok (.getfield 24, 3)) (k : G l g M κ K (pc + 3) lv (vR c2 :: r) X) : G l g M κ K pc lv (vR c :: r) X := by
  subst h2
  exact g_get (k := 5) hc (by decide) (show vwCl[1]? = some (RX1, TX1, 6) from rfl) rfl (by decide) lay_X1 (by rw [hM]; exact fl_RX1_24) rfl hd k
theorem gf_X1_31 {l : Launch} {g : Geo} {M : Me} {κ : Kx} {K : AV → Mm → Prop} {pc : Nat} {lv : Lv} {X : Mm} {r : List AV} {c : Nat} (hM : M.1.cls = RX1) (hc : kd c = 1) (hd : decode M.2.1 pc = .ok (.getfield 31, 3)) (k : G l g M κ K (pc + 3) lv (vI (X c 0) :: r) X) : G l g M κ K pc lv (vR c :: r) X := g_get (k := 0) hc (by decide) (show vwCl[1]? = some (RX1, TX1, 6) from rfl) rfl (by decide) lay_X1 (by rw [hM]; exact fl_RX1_31) rfl hd k
theorem gf_X1_42 {l : Launch} {g : Geo} {M : Me} {κ : Kx} {K : AV → Mm → Prop} {pc : Nat} {lv : Lv} {X : Mm} {r : List AV} {c : Nat} (hM : M.1.cls = RX1) (hc : kd c = 6) (hd : decode M.2.1 pc = .ok (.getfield 42, 3)) (k : G l g M κ K (pc + 3) lv (vI (X c 0) :: r) X) : G l g M κ K pc lv (vR c :: r) X := g_get (k := 0) hc (by decide) (show vwCl[6]? = some (RX6, TX6, 7) from rfl) rfl (by decide) lay_X6 (by rw [hM]; exact fl_RX1_42) rfl hd k
theorem gf_X1_45 {l : Launch} {g : Geo} {M : Me} {κ : Kx} {K : AV → Mm → Prop} {pc : Nat} {lv : Lv} {X : Mm} {r : List AV} {c : Nat} {c2 : Nat} (h2 : c + 2 = c2) (hM : M.1.cls = RX1) (hc : kd c = 6) (hd : decode M.2.1 pc = .ok (.getfield 45, 3)) (k : G l g M κ K (pc + 3) lv (vR c2 :: r) X) : G l g M κ K pc lv (vR c :: r) X := by
  subst h2
  exact g_get (k := 3) hc (by decide) (show vwCl[6]? = some (RX6, TX6, 7) from rfl) rfl (by decide) lay_X6 (by rw [hM]; exact fl_RX1_45) rfl hd k
theorem gf_X1_49 {l : Launch} {g : Geo} {M : Me} {κ : Kx} {K : AV → Mm → Prop} {pc : Nat} {lv : Lv} {X : Mm} {r : List AV} {c : Nat} {c2 : Nat} (h2 : c + 4 = c2) (hM : M.1.cls = RX1) (hc : kd c = 6) (hd : decode M.2.1 pc = .ok (.getfield 49, 3)) (k : G l g M κ K (pc + 3) lv (vR c2 :: r) X) : G l g M κ K pc lv (vR c :: r) X := by
  subst h2
  exact g_get (k := 5) hc (by decide) (show vwCl[6]? = some (RX6, TX6, 7) from rfl) rfl (by decide) lay_X6 (by rw [hM]; exact fl_RX1_49) rfl hd k
theorem gf_X1_52 {l : Launch} {g : Geo} {M : Me} {κ : Kx} {K : AV → Mm → Prop} {pc : Nat} {lv : Lv} {X : Mm} {r : List AV} {c : Nat} {c2 : Nat} (h2 : c + 1 = c2) (hM : M.1.cls = RX1) (hc : kd c = 6) (hd : decode M.2.1 pc = .ok (.getfield 52, 3)) (k : G l g M κ K (pc + 3) lv (vR c2 :: r) X) : G l g M κ K pc lv (vR c :: r) X := by
  subst h2
  exact g_get (k := 2) hc (by decide) (show vwCl[6]? = some (RX6, TX6, 7) from rfl) rfl (by decide) lay_X6 (by rw [hM]; exact fl_RX1_52) rfl hd k
theorem gf_X2_9 {l : Launch} {g : Geo} {M : Me} {κ : Kx} {K : AV → Mm → Prop} {pc : Nat} {lv : Lv} {X : Mm} {r : List AV} {c : Nat} {c2 : Nat} (h2 : c + 1 = c2) (hM : M.1.cls = RX2) (hc : kd c = 2) (hd : decode M.2.1 pc = .ok (.getfield 9, 3)) (k : G l g M κ K (pc + 3) lv (vR c2 :: r) X) : G l g M κ K pc lv (vR c :: r) X := by
  subst h2
  exact g_get (k := 2) hc (by decide) (show vwCl[2]? = some (RX2, TX2, 6) from rfl) rfl (by decide) lay_X2 (by rw [hM]; exact fl_RX2_9) rfl hd k
theorem gf_X2_15 {l : Launch} {g : Geo} {M : Me} {κ : Kx} {K : AV → Mm → Prop} {pc : Nat} {lv : Lv} {X : Mm} {r : List AV} {c : Nat} {c2 : Nat} (h2 : c + 2 = c2) (hM : M.1.cls = RX2) (hc : kd c = 2) (hd : decode M.2.1 pc = .ok (.getfield 15, 3)) (k : G l g M κ K (pc + 3) lv (vR c2 :: r) X) : G l g M κ K pc lv (vR c :: r) X := by
  subst h2
  exact g_get (k := 3) hc (by decide) (show vwCl[2]? = some (RX2, TX2, 6) from rfl) rfl (by decide) lay_X2 (by rw [hM]; exact fl_RX2_15) rfl hd k
theorem gf_X2_19 {l : Launch} {g : Geo} {M : Me} {κ : Kx} {K : AV → Mm → Prop} {pc : Nat} {lv : Lv} {X : Mm} {r : List AV} {c : Nat} {c2 : Nat} (h2 : c + 3 = c2) (hM : M.1.cls = RX2) (hc : kd c = 2) (hd : decode M.2.1 pc = .ok (.getfield 19, 3)) (k : G l g M κ K (pc + 3) lv (vR c2 :: r) X) : G l g M κ K pc lv (vR c :: r) X := by
  subst h2
  exact g_get (k := 4) hc (by decide) (show vwCl[2]? = some (RX2, TX2, 6) from rfl) rfl (by decide) lay_X2 (by rw [hM]; exact fl_RX2_19) rfl hd k
theorem gf_X2_22 {l : Launch} {g : Geo} {M : Me} {κ : Kx} {K : AV → Mm → Prop} {pc : Nat} {lv : Lv} {X : Mm} {r : List AV} {c : Nat} {c2 : Nat} (h2 : c + 4 = c2) (hM : M.1.cls = RX2) (hc : kd c = 2) (hd : decode M.2.1 pc = .ok (.getfield 22, 3)) (k : G l g M κ K (pc + 3) lv (vR c2 :: r) X) : G l g M κ K pc lv (vR c :: r) X := by
  subst h2
  exact g_get (k := 5) hc (by decide) (show vwCl[2]? = some (RX2, TX2, 6) from rfl) rfl (by decide) lay_X2 (by rw [hM]; exact fl_RX2_22) rfl hd k
theorem gf_X2_25 {l : Launch} {g : Geo} {M : Me} {κ : Kx} {K : AV → Mm → Prop} {pc : Nat} {lv : Lv} {X : Mm} {r : List AV} {c : Nat} (hM : M.1.cls = RX2) (hc : kd c = 3) (hd : decode M.2.1 pc = .ok (.getfield 25, 3)) (k : G l g M κ K (pc + 3) lv (vI (X c 0) :: r) X) : G l g M κ K pc lv (vR c :: r) X := g_get (k := 0) hc (by decide) (show vwCl[3]? = some (RX3, TX3, 9) from rfl) rfl (by decide) lay_X3 (by rw [hM]; exact fl_RX2_25) rfl hd k
theorem gf_X2_31 {l : Launch} {g : Geo} {M : Me} {κ : Kx} {K : AV → Mm → Prop} {pc : Nat} {lv : Lv} {X : Mm} {r : List AV} {c : Nat} (hM : M.1.cls = RX2) (hc : kd c = 2) (hd : decode M.2.1 pc = .ok (.getfield 31, 3)) (k : G l g M κ K (pc + 3) lv (vI (X c 0) :: r) X) : G l g M κ K pc lv (vR c :: r) X := g_get (k := 0) hc (by decide) (show vwCl[2]? = some (RX2, TX2, 6) from rfl) rfl (by decide) lay_X2 (by rw [hM]; exact fl_RX2_31) rfl hd k
theorem gf_X2_32 {l : Launch} {g : Geo} {M : Me} {κ : Kx} {K : AV → Mm → Prop} {pc : Nat} {lv : Lv} {X : Mm} {r : List AV} {c : Nat} (hM : M.1.cls = RX2) (hc : kd c = 2) (hd : decode M.2.1 pc = .ok (.getfield 32, 3)) (k : G l g M κ K (pc + 3) lv (vI (X c 1) :: r) X) : G l g M κ K pc lv (vR c :: r) X := g_get (k := 1) hc (by decide) (show vwCl[2]? = some (RX2, TX2, 6) from rfl) rfl (by decide) lay_X2 (by rw [hM]; exact fl_RX2_32) rfl hd k
theorem gf_X2_52 {l : Launch} {g : Geo} {M : Me} {κ : Kx} {K : AV → Mm → Prop} {pc : Nat} {lv : Lv} {X : Mm} {r : List AV} {c : Nat} {c2 : Nat} (h2 : c + 4 = c2) (hM : M.1.cls = RX2) (hc : kd c = 3) (hd : decode M.2.1 pc = .ok (.getfield 52, 3)) (k : G l g M κ K (pc + 3) lv (vR c2 :: r) X) : G l g M κ K pc lv (vR c :: r) X := by
  subst h2
  exact g_get (k := 7) hc (by decide) (show vwCl[3]? = some (RX3, TX3, 9) from rfl) rfl (by decide) lay_X3 (by rw [hM]; exact fl_RX2_52) rfl hd k
theorem gf_X2_55 {l : Launch} {g : Geo} {M : Me} {κ : Kx} {K : AV → Mm → Prop} {pc : Nat} {lv : Lv} {X : Mm} {r : List AV} {c : Nat} {c2 : Nat} (h2 : c + 3 = c2) (hM : M.1.cls = RX2) (hc : kd c = 3) (hd : decode M.2.1 pc = .ok (.getfield 55, 3)) (k : G l g M κ K (pc + 3) lv (vR c2 :: r) X) : G l g M κ K pc lv (vR c :: r) X := by
  subst h2
  exact g_get (k := 6) hc (by decide) (show vwCl[3]? = some (RX3, TX3, 9) from rfl) rfl (by decide) lay_X3 (by rw [hM]; exact fl_RX2_55) rfl hd k
theorem gf_X3_9 {l : Launch} {g : Geo} {M : Me} {κ : Kx} {K : AV → Mm → Prop} {pc : Nat} {lv : Lv} {X : Mm} {r : List AV} {c : Nat} {c2 : Nat} (h2 : c + 1 = c2) (hM : M.1.cls = RX3) (hc : kd c = 3) (hd : decode M.2.1 pc = .ok (.getfield 9, 3)) (k : G l g M κ K (pc + 3) lv (vR c2 :: r) X) : G l g M κ K pc lv (vR c :: r) X := by
  subst h2
  exact g_get (k := 4) hc (by decide) (show vwCl[3]? = some (RX3, TX3, 9) from rfl) rfl (by decide) lay_X3 (by rw [hM]; exact fl_RX3_9) rfl hd k
theorem gf_X3_15 {l : Launch} {g : Geo} {M : Me} {κ : Kx} {K : AV → Mm → Prop} {pc : Nat} {lv : Lv} {X : Mm} {r : List AV} {c : Nat} {c2 : Nat} (h2 : c + 2 = c2) (hM : M.1.cls = RX3) (hc : kd c = 3) (hd : decode M.2.1 pc = .ok (.getfield 15, 3)) (k : G l g M κ K (pc + 3) lv (vR c2 :: r) X) : G l g M κ K pc lv (vR c :: r) X := by
  subst h2
  exact g_get (k := 5) hc (by decide) (show vwCl[3]? = some (RX3, TX3, 9) from rfl) rfl (by decide) lay_X3 (by rw [hM]; exact fl_RX3_15) rfl hd k
theorem gf_X3_18 {l : Launch} {g : Geo} {M : Me} {κ : Kx} {K : AV → Mm → Prop} {pc : Nat} {lv : Lv} {X : Mm} {r : List AV} {c : Nat} {c2 : Nat} (h2 : c + 3 = c2) (hM : M.1.cls = RX3) (hc : kd c = 3) (hd : decode M.2.1 pc = .ok (.getfield 18, 3)) (k : G l g M κ K (pc + 3) lv (vR c2 :: r) X) : G l g M κ K pc lv (vR c :: r) X := by
  subst h2
  exact g_get (k := 6) hc (by decide) (show vwCl[3]? = some (RX3, TX3, 9) from rfl) rfl (by decide) lay_X3 (by rw [hM]; exact fl_RX3_18) rfl hd k
theorem gf_X3_21 {l : Launch} {g : Geo} {M : Me} {κ : Kx} {K : AV → Mm → Prop} {pc : Nat} {lv : Lv} {X : Mm} {r : List AV} {c : Nat} {c2 : Nat} (h2 : c + 4 = c2) (hM : M.1.cls = RX3) (hc : kd c = 3) (hd : decode M.2.1 pc = .ok (.getfield 21, 3)) (k : G l g M κ K (pc + 3) lv (vR c2 :: r) X) : G l g M κ K pc lv (vR c :: r) X := by
  subst h2
  exact g_get (k := 7) hc (by decide) (show vwCl[3]? = some (RX3, TX3, 9) from rfl) rfl (by decide) lay_X3 (by rw [hM]; exact fl_RX3_21) rfl hd k
theorem gf_X3_24 {l : Launch} {g : Geo} {M : Me} {κ : Kx} {K : AV → Mm → Prop} {pc : Nat} {lv : Lv} {X : Mm} {r : List AV} {c : Nat} {c2 : Nat} (h2 : c + 5 = c2) (hM : M.1.cls = RX3) (hc : kd c = 3) (hd : decode M.2.1 pc = .ok (.getfield 24, 3)) (k : G l g M κ K (pc + 3) lv (vR c2 :: r) X) : G l g M κ K pc lv (vR c :: r) X := by
  subst h2
  exact g_get (k := 8) hc (by decide) (show vwCl[3]? = some (RX3, TX3, 9) from rfl) rfl (by decide) lay_X3 (by rw [hM]; exact fl_RX3_24) rfl hd k
theorem gf_X3_28 {l : Launch} {g : Geo} {M : Me} {κ : Kx} {K : AV → Mm → Prop} {pc : Nat} {lv : Lv} {X : Mm} {r : List AV} {c : Nat} (hM : M.1.cls = RX3) (hc : kd c = 4) (hd : decode M.2.1 pc = .ok (.getfield 28, 3)) (k : G l g M κ K (pc + 3) lv (vI (X c 0) :: r) X) : G l g M κ K pc lv (vR c :: r) X := g_get (k := 0) hc (by decide) (show vwCl[4]? = some (RX4, TX4, 4) from rfl) rfl (by decide) lay_X4 (by rw [hM]; exact fl_RX3_28) rfl hd k
theorem gf_X3_34 {l : Launch} {g : Geo} {M : Me} {κ : Kx} {K : AV → Mm → Prop} {pc : Nat} {lv : Lv} {X : Mm} {r : List AV} {c : Nat} (hM : M.1.cls = RX3) (hc : kd c = 3) (hd : decode M.2.1 pc = .ok (.getfield 34, 3)) (k : G l g M κ K (pc + 3) lv (vI (X c 0) :: r) X) : G l g M κ K pc lv (vR c :: r) X := g_get (k := 0) hc (by decide) (show vwCl[3]? = some (RX3, TX3, 9) from rfl) rfl (by decide) lay_X3 (by rw [hM]; exact fl_RX3_34) rfl hd k
theorem gf_X3_35 {l : Launch} {g : Geo} {M : Me} {κ : Kx} {K : AV → Mm → Prop} {pc : Nat} {lv : Lv} {X : Mm} {r : List AV} {c : Nat} (hM : M.1.cls = RX3) (hc : kd c = 3) (hd : decode M.2.1 pc = .ok (.getfield 35, 3)) (k : G l g M κ K (pc + 3) lv (vI (X c 1) :: r) X) : G l g M κ K pc lv (vR c :: r) X := g_get (k := 1) hc (by decide) (show vwCl[3]? = some (RX3, TX3, 9) from rfl) rfl (by decide) lay_X3 (by rw [hM]; exact fl_RX3_35) rfl hd k
theorem gf_X3_38 {l : Launch} {g : Geo} {M : Me} {κ : Kx} {K : AV → Mm → Prop} {pc : Nat} {lv : Lv} {X : Mm} {r : List AV} {c : Nat} (hM : M.1.cls = RX3) (hc : kd c = 3) (hd : decode M.2.1 pc = .ok (.getfield 38, 3)) (k : G l g M κ K (pc + 3) lv (vI (X c 2) :: r) X) : G l g M κ K pc lv (vR c :: r) X := g_get (k := 2) hc (by decide) (show vwCl[3]? = some (RX3, TX3, 9) from rfl) rfl (by decide) lay_X3 (by rw [hM]; exact fl_RX3_38) rfl hd k
theorem gf_X3_41 {l : Launch} {g : Geo} {M : Me} {κ : Kx} {K : AV → Mm → Prop} {pc : Nat} {lv : Lv} {X : Mm} {r : List AV} {c : Nat} (hM : M.1.cls = RX3) (hc : kd c = 3) (hd : decode M.2.1 pc = .ok (.getfield 41, 3)) (k : G l g M κ K (pc + 3) lv (vI (X c 3) :: r) X) : G l g M κ K pc lv (vR c :: r) X := g_get (k := 3) hc (by decide) (show vwCl[3]? = some (RX3, TX3, 9) from rfl) rfl (by decide) lay_X3 (by rw [hM]; exact fl_RX3_41) rfl hd k
theorem gf_X3_44 {l : Launch} {g : Geo} {M : Me} {κ : Kx} {K : AV → Mm → Prop} {pc : Nat} {lv : Lv} {X : Mm} {r : List AV} {c : Nat} {c2 : Nat} (h2 : c + 1 = c2) (hM : M.1.cls = RX3) (hc : kd c = 4) (hd : decode M.2.1 pc = .ok (.getfield 44, 3)) (k : G l g M κ K (pc + 3) lv (vR c2 :: r) X) : G l g M κ K pc lv (vR c :: r) X := by
  subst h2
  exact g_get (k := 1) hc (by decide) (show vwCl[4]? = some (RX4, TX4, 4) from rfl) rfl (by decide) lay_X4 (by rw [hM]; exact fl_RX3_44) rfl hd k
theorem gf_X3_45 {l : Launch} {g : Geo} {M : Me} {κ : Kx} {K : AV → Mm → Prop} {pc : Nat} {lv : Lv} {X : Mm} {r : List AV} {c : Nat} {c2 : Nat} (h2 : c + 2 = c2) (hM : M.1.cls = RX3) (hc : kd c = 4) (hd : decode M.2.1 pc = .ok (.getfield 45, 3)) (k : G l g M κ K (pc + 3) lv (vR c2 :: r) X) : G l g M κ K pc lv (vR c :: r) X := by
  subst h2
  exact g_get (k := 2) hc (by decide) (show vwCl[4]? = some (RX4, TX4, 4) from rfl) rfl (by decide) lay_X4 (by rw [hM]; exact fl_RX3_45) rfl hd k
theorem gf_X3_46 {l : Launch} {g : Geo} {M : Me} {κ : Kx} {K : AV → Mm → Prop} {pc : Nat} {lv : Lv} {X : Mm} {r : List AV} {c : Nat} {c2 : Nat} (h2 : c + 3 = c2) (hM : M.1.cls = RX3) (hc : kd c = 4) (hd : decode M.2.1 pc = .ok (.getfield 46, 3)) (k : G l g M κ K (pc + 3) lv (vR c2 :: r) X) : G l g M κ K pc lv (vR c :: r) X := by
  subst h2
  exact g_get (k := 3) hc (by decide) (show vwCl[4]? = some (RX4, TX4, 4) from rfl) rfl (by decide) lay_X4 (by rw [hM]; exact fl_RX3_46) rfl hd k
theorem gf_X4_9 {l : Launch} {g : Geo} {M : Me} {κ : Kx} {K : AV → Mm → Prop} {pc : Nat} {lv : Lv} {X : Mm} {r : List AV} {c : Nat} {c2 : Nat} (h2 : c + 1 = c2) (hM : M.1.cls = RX4) (hc : kd c = 4) (hd : decode M.2.1 pc = .ok (.getfield 9, 3)) (k : G l g M κ K (pc + 3) lv (vR c2 :: r) X) : G l g M κ K pc lv (vR c :: r) X := by
  subst h2
  exact g_get (k := 1) hc (by decide) (show vwCl[4]? = some (RX4, TX4, 4) from rfl) rfl (by decide) lay_X4 (by rw [hM]; exact fl_RX4_9) rfl hd k
theorem gf_X4_15 {l : Launch} {g : Geo} {M : Me} {κ : Kx} {K : AV → Mm → Prop} {pc : Nat} {lv : Lv} {X : Mm} {r : List AV} {c : Nat} {c2 : Nat} (h2 : c + 2 = c2) (hM : M.1.cls = RX4) (hc : kd c = 4) (hd : decode M.2.1 pc = .ok (.getfield 15, 3)) (k : G l g M κ K (pc + 3) lv (vR c2 :: r) X) : G l g M κ K pc lv (vR c :: r) X := by
  subst h2
  exact g_get (k := 2) hc (by decide) (show vwCl[4]? = some (RX4, TX4, 4) from rfl) rfl (by decide) lay_X4 (by rw [hM]; exact fl_RX4_15) rfl hd k
theorem gf_X4_18 {l : Launch} {g : Geo} {M : Me} {κ : Kx} {K : AV → Mm → Prop} {pc : Nat} {lv : Lv} {X : Mm} {r : List AV} {c : Nat} {c2 : Nat} (h2 : c + 3 = c2) (hM : M.1.cls = RX4) (hc : kd c = 4) (hd : decode M.2.1 pc = .ok (.getfield 18, 3)) (k : G l g M κ K (pc + 3) lv (vR c2 :: r) X) : G l g M κ K pc lv (vR c :: r) X := by
  subst h2
  exact g_get (k := 3) hc (by decide) (show vwCl[4]? = some (RX4, TX4, 4) from rfl) rfl (by decide) lay_X4 (by rw [hM]; exact fl_RX4_18) rfl hd k
theorem gf_X4_21 {l : Launch} {g : Geo} {M : Me} {κ : Kx} {K : AV → Mm → Prop} {pc : Nat} {lv : Lv} {X : Mm} {r : List AV} {c : Nat} (hM : M.1.cls = RX4) (hc : kd c = 4) (hd : decode M.2.1 pc = .ok (.getfield 21, 3)) (k : G l g M κ K (pc + 3) lv (vI (X c 0) :: r) X) : G l g M κ K pc lv (vR c :: r) X := g_get (k := 0) hc (by decide) (show vwCl[4]? = some (RX4, TX4, 4) from rfl) rfl (by decide) lay_X4 (by rw [hM]; exact fl_RX4_21) rfl hd k
theorem gf_X6_9 {l : Launch} {g : Geo} {M : Me} {κ : Kx} {K : AV → Mm → Prop} {pc : Nat} {lv : Lv} {X : Mm} {r : List AV} {c : Nat} {c2 : Nat} (h2 : c + 1 = c2) (hM : M.1.cls = RX6) (hc : kd c = 6) (hd : decode M.2.1 pc = .ok (.getfield 9, 3)) (k : G l g M κ K (pc + 3) lv (vR c2 :: r) X) : G l g M κ K pc lv (vR c :: r) X := by
  subst h2
  exact g_get (k := 2) hc (by decide) (show vwCl[6]? = some (RX6, TX6, 7) from rfl) rfl (by decide) lay_X6 (by rw [hM]; exact fl_RX6_9) rfl hd k
theorem gf_X6_15 {l : Launch} {g : Geo} {M : Me} {κ : Kx} {K : AV → Mm → Prop} {pc : Nat} {lv : Lv} {X : Mm} {r : List AV} {c : Nat} {c2 : Nat} (h2 : c + 2 = c2) (hM : M.1.cls = RX6) (hc : kd c = 6) (hd : decode M.2.1 pc = .ok (.getfield 15, 3)) (k : G l g M κ K (pc + 3) lv (vR c2 :: r) X) : G l g M κ K pc lv (vR c :: r) X := by
  subst h2
  exact g_get (k := 3) hc (by decide) (show vwCl[6]? = some (RX6, TX6, 7) from rfl) rfl (by decide) lay_X6 (by rw [hM]; exact fl_RX6_15) rfl hd k
theorem gf_X6_19 {l : Launch} {g : Geo} {M : Me} {κ : Kx} {K : AV → Mm → Prop} {pc : Nat} {lv : Lv} {X : Mm} {r : List AV} {c : Nat} {c2 : Nat} (h2 : c + 3 = c2) (hM : M.1.cls = RX6) (hc : kd c = 6) (hd : decode M.2.1 pc = .ok (.getfield 19, 3)) (k : G l g M κ K (pc + 3) lv (vR c2 :: r) X) : G l g M κ K pc lv (vR c :: r) X := by
  subst h2
  exact g_get (k := 4) hc (by decide) (show vwCl[6]? = some (RX6, TX6, 7) from rfl) rfl (by decide) lay_X6 (by rw [hM]; exact fl_RX6_19) rfl hd k
theorem gf_X6_22 {l : Launch} {g : Geo} {M : Me} {κ : Kx} {K : AV → Mm → Prop} {pc : Nat} {lv : Lv} {X : Mm} {r : List AV} {c : Nat} {c2 : Nat} (h2 : c + 4 = c2) (hM : M.1.cls = RX6) (hc : kd c = 6) (hd : decode M.2.1 pc = .ok (.getfield 22, 3)) (k : G l g M κ K (pc + 3) lv (vR c2 :: r) X) : G l g M κ K pc lv (vR c :: r) X := by
  subst h2
  exact g_get (k := 5) hc (by decide) (show vwCl[6]? = some (RX6, TX6, 7) from rfl) rfl (by decide) lay_X6 (by rw [hM]; exact fl_RX6_22) rfl hd k
theorem gf_X6_25 {l : Launch} {g : Geo} {M : Me} {κ : Kx} {K : AV → Mm → Prop} {pc : Nat} {lv : Lv} {X : Mm} {r : List AV} {c : Nat} {c2 : Nat} (h2 : c + 5 = c2) (hM : M.1.cls = RX6) (hc : kd c = 6) (hd : decode M.2.1 pc = .ok (.getfield 25, 3)) (k : G l g M κ K (pc + 3) lv (vR c2 :: r) X) : G l g M κ K pc lv (vR c :: r) X := by
  subst h2
  exact g_get (k := 6) hc (by decide) (show vwCl[6]? = some (RX6, TX6, 7) from rfl) rfl (by decide) lay_X6 (by rw [hM]; exact fl_RX6_25) rfl hd k
theorem gf_X6_28 {l : Launch} {g : Geo} {M : Me} {κ : Kx} {K : AV → Mm → Prop} {pc : Nat} {lv : Lv} {X : Mm} {r : List AV} {c : Nat} (hM : M.1.cls = RX6) (hc : kd c = 3) (hd : decode M.2.1 pc = .ok (.getfield 28, 3)) (k : G l g M κ K (pc + 3) lv (vI (X c 0) :: r) X) : G l g M κ K pc lv (vR c :: r) X := g_get (k := 0) hc (by decide) (show vwCl[3]? = some (RX3, TX3, 9) from rfl) rfl (by decide) lay_X3 (by rw [hM]; exact fl_RX6_28) rfl hd k
theorem gf_X6_34 {l : Launch} {g : Geo} {M : Me} {κ : Kx} {K : AV → Mm → Prop} {pc : Nat} {lv : Lv} {X : Mm} {r : List AV} {c : Nat} (hM : M.1.cls = RX6) (hc : kd c = 6) (hd : decode M.2.1 pc = .ok (.getfield 34, 3)) (k : G l g M κ K (pc + 3) lv (vI (X c 0) :: r) X) : G l g M κ K pc lv (vR c :: r) X := g_get (k := 0) hc (by decide) (show vwCl[6]? = some (RX6, TX6, 7) from rfl) rfl (by decide) lay_X6 (by rw [hM]; exact fl_RX6_34) rfl hd k
theorem gf_X6_35 {l : Launch} {g : Geo} {M : Me} {κ : Kx} {K : AV → Mm → Prop} {pc : Nat} {lv : Lv} {X : Mm} {r : List AV} {c : Nat} (hM : M.1.cls = RX6) (hc : kd c = 3) (hd : decode M.2.1 pc = .ok (.getfield 35, 3)) (k : G l g M κ K (pc + 3) lv (vI (X c 1) :: r) X) : G l g M κ K pc lv (vR c :: r) X := g_get (k := 1) hc (by decide) (show vwCl[3]? = some (RX3, TX3, 9) from rfl) rfl (by decide) lay_X3 (by rw [hM]; exact fl_RX6_35) rfl hd k
theorem gf_X6_38 {l : Launch} {g : Geo} {M : Me} {κ : Kx} {K : AV → Mm → Prop} {pc : Nat} {lv : Lv} {X : Mm} {r : List AV} {c : Nat} (hM : M.1.cls = RX6) (hc : kd c = 6) (hd : decode M.2.1 pc = .ok (.getfield 38, 3)) (k : G l g M κ K (pc + 3) lv (vI (X c 1) :: r) X) : G l g M κ K pc lv (vR c :: r) X := g_get (k := 1) hc (by decide) (show vwCl[6]? = some (RX6, TX6, 7) from rfl) rfl (by decide) lay_X6 (by rw [hM]; exact fl_RX6_38) rfl hd k
theorem gf_X6_39 {l : Launch} {g : Geo} {M : Me} {κ : Kx} {K : AV → Mm → Prop} {pc : Nat} {lv : Lv} {X : Mm} {r : List AV} {c : Nat} {c2 : Nat} (h2 : c + 1 = c2) (hM : M.1.cls = RX6) (hc : kd c = 3) (hd : decode M.2.1 pc = .ok (.getfield 39, 3)) (k : G l g M κ K (pc + 3) lv (vR c2 :: r) X) : G l g M κ K pc lv (vR c :: r) X := by
  subst h2
  exact g_get (k := 4) hc (by decide) (show vwCl[3]? = some (RX3, TX3, 9) from rfl) rfl (by decide) lay_X3 (by rw [hM]; exact fl_RX6_39) rfl hd k
theorem gf_X6_42 {l : Launch} {g : Geo} {M : Me} {κ : Kx} {K : AV → Mm → Prop} {pc : Nat} {lv : Lv} {X : Mm} {r : List AV} {c : Nat} {c2 : Nat} (h2 : c + 2 = c2) (hM : M.1.cls = RX6) (hc : kd c = 3) (hd : decode M.2.1 pc = .ok (.getfield 42, 3)) (k : G l g M κ K (pc + 3) lv (vR c2 :: r) X) : G l g M κ K pc lv (vR c :: r) X := by
  subst h2
  exact g_get (k := 5) hc (by decide) (show vwCl[3]? = some (RX3, TX3, 9) from rfl) rfl (by decide) lay_X3 (by rw [hM]; exact fl_RX6_42) rfl hd k
theorem gf_X6_53 {l : Launch} {g : Geo} {M : Me} {κ : Kx} {K : AV → Mm → Prop} {pc : Nat} {lv : Lv} {X : Mm} {r : List AV} {c : Nat} (hM : M.1.cls = RX6) (hc : kd c = 5) (hd : decode M.2.1 pc = .ok (.getfield 53, 3)) (k : G l g M κ K (pc + 3) lv (vJ (X c 1) :: r) X) : G l g M κ K pc lv (vR c :: r) X := g_get (k := 1) hc (by decide) (show vwCl[5]? = some (RX5, TX5, 3) from rfl) rfl (by decide) lay_X5 (by rw [hM]; exact fl_RX6_53) rfl hd k
theorem gf_X6_59 {l : Launch} {g : Geo} {M : Me} {κ : Kx} {K : AV → Mm → Prop} {pc : Nat} {lv : Lv} {X : Mm} {r : List AV} {c : Nat} (hM : M.1.cls = RX6) (hc : kd c = 5) (hd : decode M.2.1 pc = .ok (.getfield 59, 3)) (k : G l g M κ K (pc + 3) lv (vJ (X c 2) :: r) X) : G l g M κ K pc lv (vR c :: r) X := g_get (k := 2) hc (by decide) (show vwCl[5]? = some (RX5, TX5, 3) from rfl) rfl (by decide) lay_X5 (by rw [hM]; exact fl_RX6_59) rfl hd k
theorem gf_X7_7 {l : Launch} {g : Geo} {M : Me} {κ : Kx} {K : AV → Mm → Prop} {pc : Nat} {lv : Lv} {X : Mm} {r : List AV} {c : Nat} (hM : M.1.cls = RX7) (hc : kd c = 7) (hd : decode M.2.1 pc = .ok (.getfield 7, 3)) (k : G l g M κ K (pc + 3) lv (vI (X c 0) :: r) X) : G l g M κ K pc lv (vR c :: r) X := g_get (k := 0) hc (by decide) (show vwCl[7]? = some (RX7, TX7, 11) from rfl) rfl (by decide) lay_X7 (by rw [hM]; exact fl_RX7_7) rfl hd k
theorem gf_X7_16 {l : Launch} {g : Geo} {M : Me} {κ : Kx} {K : AV → Mm → Prop} {pc : Nat} {lv : Lv} {X : Mm} {r : List AV} {c : Nat} {c2 : Nat} (h2 : c + 1 = c2) (hM : M.1.cls = RX7) (hc : kd c = 7) (hd : decode M.2.1 pc = .ok (.getfield 16, 3)) (k : G l g M κ K (pc + 3) lv (vR c2 :: r) X) : G l g M κ K pc lv (vR c :: r) X := by
  subst h2
  exact g_get (k := 1) hc (by decide) (show vwCl[7]? = some (RX7, TX7, 11) from rfl) rfl (by decide) lay_X7 (by rw [hM]; exact fl_RX7_16) rfl hd k
theorem gf_X7_23 {l : Launch} {g : Geo} {M : Me} {κ : Kx} {K : AV → Mm → Prop} {pc : Nat} {lv : Lv} {X : Mm} {r : List AV} {c : Nat} {c2 : Nat} (h2 : c + 5 = c2) (hM : M.1.cls = RX7) (hc : kd c = 7) (hd : decode M.2.1 pc = .ok (.getfield 23, 3)) (k : G l g M κ K (pc + 3) lv (vR c2 :: r) X) : G l g M κ K pc lv (vR c :: r) X := by
  subst h2
  exact g_get (k := 2) hc (by decide) (show vwCl[7]? = some (RX7, TX7, 11) from rfl) rfl (by decide) lay_X7 (by rw [hM]; exact fl_RX7_23) rfl hd k
theorem gf_X7_27 {l : Launch} {g : Geo} {M : Me} {κ : Kx} {K : AV → Mm → Prop} {pc : Nat} {lv : Lv} {X : Mm} {r : List AV} {c : Nat} {c2 : Nat} (h2 : c + 11 = c2) (hM : M.1.cls = RX7) (hc : kd c = 7) (hd : decode M.2.1 pc = .ok (.getfield 27, 3)) (k : G l g M κ K (pc + 3) lv (vR c2 :: r) X) : G l g M κ K pc lv (vR c :: r) X := by
  subst h2
  exact g_get (k := 3) hc (by decide) (show vwCl[7]? = some (RX7, TX7, 11) from rfl) rfl (by decide) lay_X7 (by rw [hM]; exact fl_RX7_27) rfl hd k
theorem gf_X7_33 {l : Launch} {g : Geo} {M : Me} {κ : Kx} {K : AV → Mm → Prop} {pc : Nat} {lv : Lv} {X : Mm} {r : List AV} {c : Nat} {c2 : Nat} (h2 : c + 17 = c2) (hM : M.1.cls = RX7) (hc : kd c = 7) (hd : decode M.2.1 pc = .ok (.getfield 33, 3)) (k : G l g M κ K (pc + 3) lv (vR c2 :: r) X) : G l g M κ K pc lv (vR c :: r) X := by
  subst h2
  exact g_get (k := 4) hc (by decide) (show vwCl[7]? = some (RX7, TX7, 11) from rfl) rfl (by decide) lay_X7 (by rw [hM]; exact fl_RX7_33) rfl hd k
theorem gf_X7_37 {l : Launch} {g : Geo} {M : Me} {κ : Kx} {K : AV → Mm → Prop} {pc : Nat} {lv : Lv} {X : Mm} {r : List AV} {c : Nat} {c2 : Nat} (h2 : c + 23 = c2) (hM : M.1.cls = RX7) (hc : kd c = 7) (hd : decode M.2.1 pc = .ok (.getfield 37, 3)) (k : G l g M κ K (pc + 3) lv (vR c2 :: r) X) : G l g M κ K pc lv (vR c :: r) X := by
  subst h2
  exact g_get (k := 5) hc (by decide) (show vwCl[7]? = some (RX7, TX7, 11) from rfl) rfl (by decide) lay_X7 (by rw [hM]; exact fl_RX7_37) rfl hd k
theorem gf_X7_43 {l : Launch} {g : Geo} {M : Me} {κ : Kx} {K : AV → Mm → Prop} {pc : Nat} {lv : Lv} {X : Mm} {r : List AV} {c : Nat} {c2 : Nat} (h2 : c + 29 = c2) (hM : M.1.cls = RX7) (hc : kd c = 7) (hd : decode M.2.1 pc = .ok (.getfield 43, 3)) (k : G l g M κ K (pc + 3) lv (vR c2 :: r) X) : G l g M κ K pc lv (vR c :: r) X := by
  subst h2
  exact g_get (k := 6) hc (by decide) (show vwCl[7]? = some (RX7, TX7, 11) from rfl) rfl (by decide) lay_X7 (by rw [hM]; exact fl_RX7_43) rfl hd k
theorem gf_X7_47 {l : Launch} {g : Geo} {M : Me} {κ : Kx} {K : AV → Mm → Prop} {pc : Nat} {lv : Lv} {X : Mm} {r : List AV} {c : Nat} {c2 : Nat} (h2 : c + 30 = c2) (hM : M.1.cls = RX7) (hc : kd c = 7) (hd : decode M.2.1 pc = .ok (.getfield 47, 3)) (k : G l g M κ K (pc + 3) lv (vR c2 :: r) X) : G l g M κ K pc lv (vR c :: r) X := by
  subst h2
  exact g_get (k := 7) hc (by decide) (show vwCl[7]? = some (RX7, TX7, 11) from rfl) rfl (by decide) lay_X7 (by rw [hM]; exact fl_RX7_47) rfl hd k
theorem gf_X7_53 {l : Launch} {g : Geo} {M : Me} {κ : Kx} {K : AV → Mm → Prop} {pc : Nat} {lv : Lv} {X : Mm} {r : List AV} {c : Nat} {c2 : Nat} (h2 : c + 31 = c2) (hM : M.1.cls = RX7) (hc : kd c = 7) (hd : decode M.2.1 pc = .ok (.getfield 53, 3)) (k : G l g M κ K (pc + 3) lv (vR c2 :: r) X) : G l g M κ K pc lv (vR c :: r) X := by
  subst h2
  exact g_get (k := 8) hc (by decide) (show vwCl[7]? = some (RX7, TX7, 11) from rfl) rfl (by decide) lay_X7 (by rw [hM]; exact fl_RX7_53) rfl hd k
theorem gf_X7_60 {l : Launch} {g : Geo} {M : Me} {κ : Kx} {K : AV → Mm → Prop} {pc : Nat} {lv : Lv} {X : Mm} {r : List AV} {c : Nat} {c2 : Nat} (h2 : c + 37 = c2) (hM : M.1.cls = RX7) (hc : kd c = 7) (hd : decode M.2.1 pc = .ok (.getfield 60, 3)) (k : G l g M κ K (pc + 3) lv (vR c2 :: r) X) : G l g M κ K pc lv (vR c :: r) X := by
  subst h2
  exact g_get (k := 9) hc (by decide) (show vwCl[7]? = some (RX7, TX7, 11) from rfl) rfl (by decide) lay_X7 (by rw [hM]; exact fl_RX7_60) rfl hd k
theorem gf_X7_67 {l : Launch} {g : Geo} {M : Me} {κ : Kx} {K : AV → Mm → Prop} {pc : Nat} {lv : Lv} {X : Mm} {r : List AV} {c : Nat} {c2 : Nat} (h2 : c + 42 = c2) (hM : M.1.cls = RX7) (hc : kd c = 7) (hd : decode M.2.1 pc = .ok (.getfield 67, 3)) (k : G l g M κ K (pc + 3) lv (vR c2 :: r) X) : G l g M κ K pc lv (vR c :: r) X := by
  subst h2
  exact g_get (k := 10) hc (by decide) (show vwCl[7]? = some (RX7, TX7, 11) from rfl) rfl (by decide) lay_X7 (by rw [hM]; exact fl_RX7_67) rfl hd k
theorem gf_X7_74 {l : Launch} {g : Geo} {M : Me} {κ : Kx} {K : AV → Mm → Prop} {pc : Nat} {lv : Lv} {X : Mm} {r : List AV} {c : Nat} (hM : M.1.cls = RX7) (hc : kd c = 3) (hd : decode M.2.1 pc = .ok (.getfield 74, 3)) (k : G l g M κ K (pc + 3) lv (vI (X c 0) :: r) X) : G l g M κ K pc lv (vR c :: r) X := g_get (k := 0) hc (by decide) (show vwCl[3]? = some (RX3, TX3, 9) from rfl) rfl (by decide) lay_X3 (by rw [hM]; exact fl_RX7_74) rfl hd k
theorem gf_X7_77 {l : Launch} {g : Geo} {M : Me} {κ : Kx} {K : AV → Mm → Prop} {pc : Nat} {lv : Lv} {X : Mm} {r : List AV} {c : Nat} (hM : M.1.cls = RX7) (hc : kd c = 5) (hd : decode M.2.1 pc = .ok (.getfield 77, 3)) (k : G l g M κ K (pc + 3) lv (vI (X c 0) :: r) X) : G l g M κ K pc lv (vR c :: r) X := g_get (k := 0) hc (by decide) (show vwCl[5]? = some (RX5, TX5, 3) from rfl) rfl (by decide) lay_X5 (by rw [hM]; exact fl_RX7_77) rfl hd k
theorem gf_X7_89 {l : Launch} {g : Geo} {M : Me} {κ : Kx} {K : AV → Mm → Prop} {pc : Nat} {lv : Lv} {X : Mm} {r : List AV} {c : Nat} {c2 : Nat} (h2 : c + 1 = c2) (hM : M.1.cls = RX7) (hc : kd c = 4) (hd : decode M.2.1 pc = .ok (.getfield 89, 3)) (k : G l g M κ K (pc + 3) lv (vR c2 :: r) X) : G l g M κ K pc lv (vR c :: r) X := by
  subst h2
  exact g_get (k := 1) hc (by decide) (show vwCl[4]? = some (RX4, TX4, 4) from rfl) rfl (by decide) lay_X4 (by rw [hM]; exact fl_RX7_89) rfl hd k
theorem gf_X7_93 {l : Launch} {g : Geo} {M : Me} {κ : Kx} {K : AV → Mm → Prop} {pc : Nat} {lv : Lv} {X : Mm} {r : List AV} {c : Nat} {c2 : Nat} (h2 : c + 2 = c2) (hM : M.1.cls = RX7) (hc : kd c = 4) (hd : decode M.2.1 pc = .ok (.getfield 93, 3)) (k : G l g M κ K (pc + 3) lv (vR c2 :: r) X) : G l g M κ K pc lv (vR c :: r) X := by
  subst h2
  exact g_get (k := 2) hc (by decide) (show vwCl[4]? = some (RX4, TX4, 4) from rfl) rfl (by decide) lay_X4 (by rw [hM]; exact fl_RX7_93) rfl hd k
theorem gf_X7_100 {l : Launch} {g : Geo} {M : Me} {κ : Kx} {K : AV → Mm → Prop} {pc : Nat} {lv : Lv} {X : Mm} {r : List AV} {c : Nat} (hM : M.1.cls = RX7) (hc : kd c = 4) (hd : decode M.2.1 pc = .ok (.getfield 100, 3)) (k : G l g M κ K (pc + 3) lv (vI (X c 0) :: r) X) : G l g M κ K pc lv (vR c :: r) X := g_get (k := 0) hc (by decide) (show vwCl[4]? = some (RX4, TX4, 4) from rfl) rfl (by decide) lay_X4 (by rw [hM]; exact fl_RX7_100) rfl hd k
theorem gf_X7_112 {l : Launch} {g : Geo} {M : Me} {κ : Kx} {K : AV → Mm → Prop} {pc : Nat} {lv : Lv} {X : Mm} {r : List AV} {c : Nat} (hM : M.1.cls = RX7) (hc : kd c = 3) (hd : decode M.2.1 pc = .ok (.getfield 112, 3)) (k : G l g M κ K (pc + 3) lv (vI (X c 2) :: r) X) : G l g M κ K pc lv (vR c :: r) X := g_get (k := 2) hc (by decide) (show vwCl[3]? = some (RX3, TX3, 9) from rfl) rfl (by decide) lay_X3 (by rw [hM]; exact fl_RX7_112) rfl hd k
theorem gf_X7_119 {l : Launch} {g : Geo} {M : Me} {κ : Kx} {K : AV → Mm → Prop} {pc : Nat} {lv : Lv} {X : Mm} {r : List AV} {c : Nat} (hM : M.1.cls = RX7) (hc : kd c = 3) (hd : decode M.2.1 pc = .ok (.getfield 119, 3)) (k : G l g M κ K (pc + 3) lv (vI (X c 3) :: r) X) : G l g M κ K pc lv (vR c :: r) X := g_get (k := 3) hc (by decide) (show vwCl[3]? = some (RX3, TX3, 9) from rfl) rfl (by decide) lay_X3 (by rw [hM]; exact fl_RX7_119) rfl hd k
theorem gf_X7_122 {l : Launch} {g : Geo} {M : Me} {κ : Kx} {K : AV → Mm → Prop} {pc : Nat} {lv : Lv} {X : Mm} {r : List AV} {c : Nat} {c2 : Nat} (h2 : c + 2 = c2) (hM : M.1.cls = RX7) (hc : kd c = 6) (hd : decode M.2.1 pc = .ok (.getfield 122, 3)) (k : G l g M κ K (pc + 3) lv (vR c2 :: r) X) : G l g M κ K pc lv (vR c :: r) X := by
  subst h2
  exact g_get (k := 3) hc (by decide) (show vwCl[6]? = some (RX6, TX6, 7) from rfl) rfl (by decide) lay_X6 (by rw [hM]; exact fl_RX7_122) rfl hd k
theorem gf_X7_126 {l : Launch} {g : Geo} {M : Me} {κ : Kx} {K : AV → Mm → Prop} {pc : Nat} {lv : Lv} {X : Mm} {r : List AV} {c : Nat} {c2 : Nat} (h2 : c + 3 = c2) (hM : M.1.cls = RX7) (hc : kd c = 6) (hd : decode M.2.1 pc = .ok (.getfield 126, 3)) (k : G l g M κ K (pc + 3) lv (vR c2 :: r) X) : G l g M κ K pc lv (vR c :: r) X := by
  subst h2
  exact g_get (k := 4) hc (by decide) (show vwCl[6]? = some (RX6, TX6, 7) from rfl) rfl (by decide) lay_X6 (by rw [hM]; exact fl_RX7_126) rfl hd k
theorem gf_X7_129 {l : Launch} {g : Geo} {M : Me} {κ : Kx} {K : AV → Mm → Prop} {pc : Nat} {lv : Lv} {X : Mm} {r : List AV} {c : Nat} {c2 : Nat} (h2 : c + 1 = c2) (hM : M.1.cls = RX7) (hc : kd c = 3) (hd : decode M.2.1 pc = .ok (.getfield 129, 3)) (k : G l g M κ K (pc + 3) lv (vR c2 :: r) X) : G l g M κ K pc lv (vR c :: r) X := by
  subst h2
  exact g_get (k := 4) hc (by decide) (show vwCl[3]? = some (RX3, TX3, 9) from rfl) rfl (by decide) lay_X3 (by rw [hM]; exact fl_RX7_129) rfl hd k
theorem gf_X7_130 {l : Launch} {g : Geo} {M : Me} {κ : Kx} {K : AV → Mm → Prop} {pc : Nat} {lv : Lv} {X : Mm} {r : List AV} {c : Nat} {c2 : Nat} (h2 : c + 2 = c2) (hM : M.1.cls = RX7) (hc : kd c = 3) (hd : decode M.2.1 pc = .ok (.getfield 130, 3)) (k : G l g M κ K (pc + 3) lv (vR c2 :: r) X) : G l g M κ K pc lv (vR c :: r) X := by
  subst h2
  exact g_get (k := 5) hc (by decide) (show vwCl[3]? = some (RX3, TX3, 9) from rfl) rfl (by decide) lay_X3 (by rw [hM]; exact fl_RX7_130) rfl hd k
theorem gf_X7_131 {l : Launch} {g : Geo} {M : Me} {κ : Kx} {K : AV → Mm → Prop} {pc : Nat} {lv : Lv} {X : Mm} {r : List AV} {c : Nat} {c2 : Nat} (h2 : c + 3 = c2) (hM : M.1.cls = RX7) (hc : kd c = 3) (hd : decode M.2.1 pc = .ok (.getfield 131, 3)) (k : G l g M κ K (pc + 3) lv (vR c2 :: r) X) : G l g M κ K pc lv (vR c :: r) X := by
  subst h2
  exact g_get (k := 6) hc (by decide) (show vwCl[3]? = some (RX3, TX3, 9) from rfl) rfl (by decide) lay_X3 (by rw [hM]; exact fl_RX7_131) rfl hd k
theorem gf_X7_134 {l : Launch} {g : Geo} {M : Me} {κ : Kx} {K : AV → Mm → Prop} {pc : Nat} {lv : Lv} {X : Mm} {r : List AV} {c : Nat} {c2 : Nat} (h2 : c + 4 = c2) (hM : M.1.cls = RX7) (hc : kd c = 3) (hd : decode M.2.1 pc = .ok (.getfield 134, 3)) (k : G l g M κ K (pc + 3) lv (vR c2 :: r) X) : G l g M κ K pc lv (vR c :: r) X := by
  subst h2
  exact g_get (k := 7) hc (by decide) (show vwCl[3]? = some (RX3, TX3, 9) from rfl) rfl (by decide) lay_X3 (by rw [hM]; exact fl_RX7_134) rfl hd k
theorem gf_X7_150 {l : Launch} {g : Geo} {M : Me} {κ : Kx} {K : AV → Mm → Prop} {pc : Nat} {lv : Lv} {X : Mm} {r : List AV} {c : Nat} (hM : M.1.cls = RX7) (hc : kd c = 5) (hd : decode M.2.1 pc = .ok (.getfield 150, 3)) (k : G l g M κ K (pc + 3) lv (vJ (X c 1) :: r) X) : G l g M κ K pc lv (vR c :: r) X := g_get (k := 1) hc (by decide) (show vwCl[5]? = some (RX5, TX5, 3) from rfl) rfl (by decide) lay_X5 (by rw [hM]; exact fl_RX7_150) rfl hd k
theorem gf_X7_154 {l : Launch} {g : Geo} {M : Me} {κ : Kx} {K : AV → Mm → Prop} {pc : Nat} {lv : Lv} {X : Mm} {r : List AV} {c : Nat} (hM : M.1.cls = RX7) (hc : kd c = 5) (hd : decode M.2.1 pc = .ok (.getfield 154, 3)) (k : G l g M κ K (pc + 3) lv (vJ (X c 2) :: r) X) : G l g M κ K pc lv (vR c :: r) X := g_get (k := 2) hc (by decide) (show vwCl[5]? = some (RX5, TX5, 3) from rfl) rfl (by decide) lay_X5 (by rw [hM]; exact fl_RX7_154) rfl hd k
theorem gf_X7_175 {l : Launch} {g : Geo} {M : Me} {κ : Kx} {K : AV → Mm → Prop} {pc : Nat} {lv : Lv} {X : Mm} {r : List AV} {c : Nat} {c2 : Nat} (h2 : c + 5 = c2) (hM : M.1.cls = RX7) (hc : kd c = 3) (hd : decode M.2.1 pc = .ok (.getfield 175, 3)) (k : G l g M κ K (pc + 3) lv (vR c2 :: r) X) : G l g M κ K pc lv (vR c :: r) X := by
  subst h2
  exact g_get (k := 8) hc (by decide) (show vwCl[3]? = some (RX3, TX3, 9) from rfl) rfl (by decide) lay_X3 (by rw [hM]; exact fl_RX7_175) rfl hd k
theorem gf_X7_195 {l : Launch} {g : Geo} {M : Me} {κ : Kx} {K : AV → Mm → Prop} {pc : Nat} {lv : Lv} {X : Mm} {r : List AV} {c : Nat} (hM : M.1.cls = RX7) (hc : kd c = 1) (hd : decode M.2.1 pc = .ok (.getfield 195, 3)) (k : G l g M κ K (pc + 3) lv (vI (X c 0) :: r) X) : G l g M κ K pc lv (vR c :: r) X := g_get (k := 0) hc (by decide) (show vwCl[1]? = some (RX1, TX1, 6) from rfl) rfl (by decide) lay_X1 (by rw [hM]; exact fl_RX7_195) rfl hd k
theorem gf_X7_196 {l : Launch} {g : Geo} {M : Me} {κ : Kx} {K : AV → Mm → Prop} {pc : Nat} {lv : Lv} {X : Mm} {r : List AV} {c : Nat} {c2 : Nat} (h2 : c + 1 = c2) (hM : M.1.cls = RX7) (hc : kd c = 1) (hd : decode M.2.1 pc = .ok (.getfield 196, 3)) (k : G l g M κ K (pc + 3) lv (vR c2 :: r) X) : G l g M κ K pc lv (vR c :: r) X := by
  subst h2
  exact g_get (k := 1) hc (by decide) (show vwCl[1]? = some (RX1, TX1, 6) from rfl) rfl (by decide) lay_X1 (by rw [hM]; exact fl_RX7_196) rfl hd k
theorem gf_X7_199 {l : Launch} {g : Geo} {M : Me} {κ : Kx} {K : AV → Mm → Prop} {pc : Nat} {lv : Lv} {X : Mm} {r : List AV} {c : Nat} {c2 : Nat} (h2 : c + 2 = c2) (hM : M.1.cls = RX7) (hc : kd c = 1) (hd : decode M.2.1 pc = .ok (.getfield 199, 3)) (k : G l g M κ K (pc + 3) lv (vR c2 :: r) X) : G l g M κ K pc lv (vR c :: r) X := by
  subst h2
  exact g_get (k := 2) hc (by decide) (show vwCl[1]? = some (RX1, TX1, 6) from rfl) rfl (by decide) lay_X1 (by rw [hM]; exact fl_RX7_199) rfl hd k
theorem gf_X7_202 {l : Launch} {g : Geo} {M : Me} {κ : Kx} {K : AV → Mm → Prop} {pc : Nat} {lv : Lv} {X : Mm} {r : List AV} {c : Nat} {c2 : Nat} (h2 : c + 3 = c2) (hM : M.1.cls = RX7) (hc : kd c = 1) (hd : decode M.2.1 pc = .ok (.getfield 202, 3)) (k : G l g M κ K (pc + 3) lv (vR c2 :: r) X) : G l g M κ K pc lv (vR c :: r) X := by
  subst h2
  exact g_get (k := 3) hc (by decide) (show vwCl[1]? = some (RX1, TX1, 6) from rfl) rfl (by decide) lay_X1 (by rw [hM]; exact fl_RX7_202) rfl hd k
theorem gf_X8_7 {l : Launch} {g : Geo} {M : Me} {κ : Kx} {K : AV → Mm → Prop} {pc : Nat} {lv : Lv} {X : Mm} {r : List AV} {c : Nat} {c2 : Nat} (h2 : c + 1 = c2) (hM : M.1.cls = RX8) (hc : kd c = 8) (hd : decode M.2.1 pc = .ok (.getfield 7, 3)) (k : G l g M κ K (pc + 3) lv (vR c2 :: r) X) : G l g M κ K pc lv (vR c :: r) X := by
  subst h2
  exact g_get (k := 1) hc (by decide) (show vwCl[8]? = some (RX8, TX8, 39) from rfl) rfl (by decide) lay_X8 (by rw [hM]; exact fl_RX8_7) rfl hd k
theorem gf_X8_13 {l : Launch} {g : Geo} {M : Me} {κ : Kx} {K : AV → Mm → Prop} {pc : Nat} {lv : Lv} {X : Mm} {r : List AV} {c : Nat} {c2 : Nat} (h2 : c + 2 = c2) (hM : M.1.cls = RX8) (hc : kd c = 8) (hd : decode M.2.1 pc = .ok (.getfield 13, 3)) (k : G l g M κ K (pc + 3) lv (vR c2 :: r) X) : G l g M κ K pc lv (vR c :: r) X := by
  subst h2
  exact g_get (k := 2) hc (by decide) (show vwCl[8]? = some (RX8, TX8, 39) from rfl) rfl (by decide) lay_X8 (by rw [hM]; exact fl_RX8_13) rfl hd k
theorem gf_X8_16 {l : Launch} {g : Geo} {M : Me} {κ : Kx} {K : AV → Mm → Prop} {pc : Nat} {lv : Lv} {X : Mm} {r : List AV} {c : Nat} {c2 : Nat} (h2 : c + 3 = c2) (hM : M.1.cls = RX8) (hc : kd c = 8) (hd : decode M.2.1 pc = .ok (.getfield 16, 3)) (k : G l g M κ K (pc + 3) lv (vR c2 :: r) X) : G l g M κ K pc lv (vR c :: r) X := by
  subst h2
  exact g_get (k := 4) hc (by decide) (show vwCl[8]? = some (RX8, TX8, 39) from rfl) rfl (by decide) lay_X8 (by rw [hM]; exact fl_RX8_16) rfl hd k
theorem gf_X8_19 {l : Launch} {g : Geo} {M : Me} {κ : Kx} {K : AV → Mm → Prop} {pc : Nat} {lv : Lv} {X : Mm} {r : List AV} {c : Nat} {c2 : Nat} (h2 : c + 4 = c2) (hM : M.1.cls = RX8) (hc : kd c = 8) (hd : decode M.2.1 pc = .ok (.getfield 19, 3)) (k : G l g M κ K (pc + 3) lv (vR c2 :: r) X) : G l g M κ K pc lv (vR c :: r) X := by
  subst h2
  exact g_get (k := 6) hc (by decide) (show vwCl[8]? = some (RX8, TX8, 39) from rfl) rfl (by decide) lay_X8 (by rw [hM]; exact fl_RX8_19) rfl hd k
theorem gf_X8_23 {l : Launch} {g : Geo} {M : Me} {κ : Kx} {K : AV → Mm → Prop} {pc : Nat} {lv : Lv} {X : Mm} {r : List AV} {c : Nat} {c2 : Nat} (h2 : c + 5 = c2) (hM : M.1.cls = RX8) (hc : kd c = 8) (hd : decode M.2.1 pc = .ok (.getfield 23, 3)) (k : G l g M κ K (pc + 3) lv (vR c2 :: r) X) : G l g M κ K pc lv (vR c :: r) X := by
  subst h2
  exact g_get (k := 7) hc (by decide) (show vwCl[8]? = some (RX8, TX8, 39) from rfl) rfl (by decide) lay_X8 (by rw [hM]; exact fl_RX8_23) rfl hd k
theorem gf_X8_26 {l : Launch} {g : Geo} {M : Me} {κ : Kx} {K : AV → Mm → Prop} {pc : Nat} {lv : Lv} {X : Mm} {r : List AV} {c : Nat} {c2 : Nat} (h2 : c + 6 = c2) (hM : M.1.cls = RX8) (hc : kd c = 8) (hd : decode M.2.1 pc = .ok (.getfield 26, 3)) (k : G l g M κ K (pc + 3) lv (vR c2 :: r) X) : G l g M κ K pc lv (vR c :: r) X := by
  subst h2
  exact g_get (k := 8) hc (by decide) (show vwCl[8]? = some (RX8, TX8, 39) from rfl) rfl (by decide) lay_X8 (by rw [hM]; exact fl_RX8_26) rfl hd k
theorem gf_X8_29 {l : Launch} {g : Geo} {M : Me} {κ : Kx} {K : AV → Mm → Prop} {pc : Nat} {lv : Lv} {X : Mm} {r : List AV} {c : Nat} {c2 : Nat} (h2 : c + 7 = c2) (hM : M.1.cls = RX8) (hc : kd c = 8) (hd : decode M.2.1 pc = .ok (.getfield 29, 3)) (k : G l g M κ K (pc + 3) lv (vR c2 :: r) X) : G l g M κ K pc lv (vR c :: r) X := by
  subst h2
  exact g_get (k := 9) hc (by decide) (show vwCl[8]? = some (RX8, TX8, 39) from rfl) rfl (by decide) lay_X8 (by rw [hM]; exact fl_RX8_29) rfl hd k
theorem gf_X8_32 {l : Launch} {g : Geo} {M : Me} {κ : Kx} {K : AV → Mm → Prop} {pc : Nat} {lv : Lv} {X : Mm} {r : List AV} {c : Nat} {c2 : Nat} (h2 : c + 8 = c2) (hM : M.1.cls = RX8) (hc : kd c = 8) (hd : decode M.2.1 pc = .ok (.getfield 32, 3)) (k : G l g M κ K (pc + 3) lv (vR c2 :: r) X) : G l g M κ K pc lv (vR c :: r) X := by
  subst h2
  exact g_get (k := 10) hc (by decide) (show vwCl[8]? = some (RX8, TX8, 39) from rfl) rfl (by decide) lay_X8 (by rw [hM]; exact fl_RX8_32) rfl hd k
theorem gf_X8_35 {l : Launch} {g : Geo} {M : Me} {κ : Kx} {K : AV → Mm → Prop} {pc : Nat} {lv : Lv} {X : Mm} {r : List AV} {c : Nat} {c2 : Nat} (h2 : c + 9 = c2) (hM : M.1.cls = RX8) (hc : kd c = 8) (hd : decode M.2.1 pc = .ok (.getfield 35, 3)) (k : G l g M κ K (pc + 3) lv (vR c2 :: r) X) : G l g M κ K pc lv (vR c :: r) X := by
  subst h2
  exact g_get (k := 20) hc (by decide) (show vwCl[8]? = some (RX8, TX8, 39) from rfl) rfl (by decide) lay_X8 (by rw [hM]; exact fl_RX8_35) rfl hd k
theorem gf_X8_38 {l : Launch} {g : Geo} {M : Me} {κ : Kx} {K : AV → Mm → Prop} {pc : Nat} {lv : Lv} {X : Mm} {r : List AV} {c : Nat} {c2 : Nat} (h2 : c + 10 = c2) (hM : M.1.cls = RX8) (hc : kd c = 8) (hd : decode M.2.1 pc = .ok (.getfield 38, 3)) (k : G l g M κ K (pc + 3) lv (vR c2 :: r) X) : G l g M κ K pc lv (vR c :: r) X := by
  subst h2
  exact g_get (k := 21) hc (by decide) (show vwCl[8]? = some (RX8, TX8, 39) from rfl) rfl (by decide) lay_X8 (by rw [hM]; exact fl_RX8_38) rfl hd k
theorem gf_X8_41 {l : Launch} {g : Geo} {M : Me} {κ : Kx} {K : AV → Mm → Prop} {pc : Nat} {lv : Lv} {X : Mm} {r : List AV} {c : Nat} {c2 : Nat} (h2 : c + 11 = c2) (hM : M.1.cls = RX8) (hc : kd c = 8) (hd : decode M.2.1 pc = .ok (.getfield 41, 3)) (k : G l g M κ K (pc + 3) lv (vR c2 :: r) X) : G l g M κ K pc lv (vR c :: r) X := by
  subst h2
  exact g_get (k := 22) hc (by decide) (show vwCl[8]? = some (RX8, TX8, 39) from rfl) rfl (by decide) lay_X8 (by rw [hM]; exact fl_RX8_41) rfl hd k
theorem gf_X8_44 {l : Launch} {g : Geo} {M : Me} {κ : Kx} {K : AV → Mm → Prop} {pc : Nat} {lv : Lv} {X : Mm} {r : List AV} {c : Nat} {c2 : Nat} (h2 : c + 12 = c2) (hM : M.1.cls = RX8) (hc : kd c = 8) (hd : decode M.2.1 pc = .ok (.getfield 44, 3)) (k : G l g M κ K (pc + 3) lv (vR c2 :: r) X) : G l g M κ K pc lv (vR c :: r) X := by
  subst h2
  exact g_get (k := 23) hc (by decide) (show vwCl[8]? = some (RX8, TX8, 39) from rfl) rfl (by decide) lay_X8 (by rw [hM]; exact fl_RX8_44) rfl hd k
theorem gf_X8_47 {l : Launch} {g : Geo} {M : Me} {κ : Kx} {K : AV → Mm → Prop} {pc : Nat} {lv : Lv} {X : Mm} {r : List AV} {c : Nat} {c2 : Nat} (h2 : c + 13 = c2) (hM : M.1.cls = RX8) (hc : kd c = 8) (hd : decode M.2.1 pc = .ok (.getfield 47, 3)) (k : G l g M κ K (pc + 3) lv (vR c2 :: r) X) : G l g M κ K pc lv (vR c :: r) X := by
  subst h2
  exact g_get (k := 24) hc (by decide) (show vwCl[8]? = some (RX8, TX8, 39) from rfl) rfl (by decide) lay_X8 (by rw [hM]; exact fl_RX8_47) rfl hd k
theorem gf_X8_50 {l : Launch} {g : Geo} {M : Me} {κ : Kx} {K : AV → Mm → Prop} {pc : Nat} {lv : Lv} {X : Mm} {r : List AV} {c : Nat} {c2 : Nat} (h2 : c + 14 = c2) (hM : M.1.cls = RX8) (hc : kd c = 8) (hd : decode M.2.1 pc = .ok (.getfield 50, 3)) (k : G l g M κ K (pc + 3) lv (vR c2 :: r) X) : G l g M κ K pc lv (vR c :: r) X := by
  subst h2
  exact g_get (k := 26) hc (by decide) (show vwCl[8]? = some (RX8, TX8, 39) from rfl) rfl (by decide) lay_X8 (by rw [hM]; exact fl_RX8_50) rfl hd k
theorem gf_X8_53 {l : Launch} {g : Geo} {M : Me} {κ : Kx} {K : AV → Mm → Prop} {pc : Nat} {lv : Lv} {X : Mm} {r : List AV} {c : Nat} {c2 : Nat} (h2 : c + 15 = c2) (hM : M.1.cls = RX8) (hc : kd c = 8) (hd : decode M.2.1 pc = .ok (.getfield 53, 3)) (k : G l g M κ K (pc + 3) lv (vR c2 :: r) X) : G l g M κ K pc lv (vR c :: r) X := by
  subst h2
  exact g_get (k := 27) hc (by decide) (show vwCl[8]? = some (RX8, TX8, 39) from rfl) rfl (by decide) lay_X8 (by rw [hM]; exact fl_RX8_53) rfl hd k
theorem gf_X8_56 {l : Launch} {g : Geo} {M : Me} {κ : Kx} {K : AV → Mm → Prop} {pc : Nat} {lv : Lv} {X : Mm} {r : List AV} {c : Nat} {c2 : Nat} (h2 : c + 16 = c2) (hM : M.1.cls = RX8) (hc : kd c = 8) (hd : decode M.2.1 pc = .ok (.getfield 56, 3)) (k : G l g M κ K (pc + 3) lv (vR c2 :: r) X) : G l g M κ K pc lv (vR c :: r) X := by
  subst h2
  exact g_get (k := 28) hc (by decide) (show vwCl[8]? = some (RX8, TX8, 39) from rfl) rfl (by decide) lay_X8 (by rw [hM]; exact fl_RX8_56) rfl hd k
theorem gf_X8_59 {l : Launch} {g : Geo} {M : Me} {κ : Kx} {K : AV → Mm → Prop} {pc : Nat} {lv : Lv} {X : Mm} {r : List AV} {c : Nat} {c2 : Nat} (h2 : c + 17 = c2) (hM : M.1.cls = RX8) (hc : kd c = 8) (hd : decode M.2.1 pc = .ok (.getfield 59, 3)) (k : G l g M κ K (pc + 3) lv (vR c2 :: r) X) : G l g M κ K pc lv (vR c :: r) X := by
  subst h2
  exact g_get (k := 29) hc (by decide) (show vwCl[8]? = some (RX8, TX8, 39) from rfl) rfl (by decide) lay_X8 (by rw [hM]; exact fl_RX8_59) rfl hd k
theorem gf_X8_62 {l : Launch} {g : Geo} {M : Me} {κ : Kx} {K : AV → Mm → Prop} {pc : Nat} {lv : Lv} {X : Mm} {r : List AV} {c : Nat} {c2 : Nat} (h2 : c + 18 = c2) (hM : M.1.cls = RX8) (hc : kd c = 8) (hd : decode M.2.1 pc = .ok (.getfield 62, 3)) (k : G l g M κ K (pc + 3) lv (vR c2 :: r) X) : G l g M κ K pc lv (vR c :: r) X := by
  subst h2
  exact g_get (k := 30) hc (by decide) (show vwCl[8]? = some (RX8, TX8, 39) from rfl) rfl (by decide) lay_X8 (by rw [hM]; exact fl_RX8_62) rfl hd k
theorem gf_X8_65 {l : Launch} {g : Geo} {M : Me} {κ : Kx} {K : AV → Mm → Prop} {pc : Nat} {lv : Lv} {X : Mm} {r : List AV} {c : Nat} {c2 : Nat} (h2 : c + 19 = c2) (hM : M.1.cls = RX8) (hc : kd c = 8) (hd : decode M.2.1 pc = .ok (.getfield 65, 3)) (k : G l g M κ K (pc + 3) lv (vR c2 :: r) X) : G l g M κ K pc lv (vR c :: r) X := by
  subst h2
  exact g_get (k := 31) hc (by decide) (show vwCl[8]? = some (RX8, TX8, 39) from rfl) rfl (by decide) lay_X8 (by rw [hM]; exact fl_RX8_65) rfl hd k
theorem gf_X8_69 {l : Launch} {g : Geo} {M : Me} {κ : Kx} {K : AV → Mm → Prop} {pc : Nat} {lv : Lv} {X : Mm} {r : List AV} {c : Nat} {c2 : Nat} (h2 : c + 20 = c2) (hM : M.1.cls = RX8) (hc : kd c = 8) (hd : decode M.2.1 pc = .ok (.getfield 69, 3)) (k : G l g M κ K (pc + 3) lv (vR c2 :: r) X) : G l g M κ K pc lv (vR c :: r) X := by
  subst h2
  exact g_get (k := 32) hc (by decide) (show vwCl[8]? = some (RX8, TX8, 39) from rfl) rfl (by decide) lay_X8 (by rw [hM]; exact fl_RX8_69) rfl hd k
theorem gf_X8_72 {l : Launch} {g : Geo} {M : Me} {κ : Kx} {K : AV → Mm → Prop} {pc : Nat} {lv : Lv} {X : Mm} {r : List AV} {c : Nat} {c2 : Nat} (h2 : c + 21 = c2) (hM : M.1.cls = RX8) (hc : kd c = 8) (hd : decode M.2.1 pc = .ok (.getfield 72, 3)) (k : G l g M κ K (pc + 3) lv (vR c2 :: r) X) : G l g M κ K pc lv (vR c :: r) X := by
  subst h2
  exact g_get (k := 33) hc (by decide) (show vwCl[8]? = some (RX8, TX8, 39) from rfl) rfl (by decide) lay_X8 (by rw [hM]; exact fl_RX8_72) rfl hd k
theorem gf_X8_75 {l : Launch} {g : Geo} {M : Me} {κ : Kx} {K : AV → Mm → Prop} {pc : Nat} {lv : Lv} {X : Mm} {r : List AV} {c : Nat} {c2 : Nat} (h2 : c + 22 = c2) (hM : M.1.cls = RX8) (hc : kd c = 8) (hd : decode M.2.1 pc = .ok (.getfield 75, 3)) (k : G l g M κ K (pc + 3) lv (vR c2 :: r) X) : G l g M κ K pc lv (vR c :: r) X := by
  subst h2
  exact g_get (k := 34) hc (by decide) (show vwCl[8]? = some (RX8, TX8, 39) from rfl) rfl (by decide) lay_X8 (by rw [hM]; exact fl_RX8_75) rfl hd k
theorem gf_X8_78 {l : Launch} {g : Geo} {M : Me} {κ : Kx} {K : AV → Mm → Prop} {pc : Nat} {lv : Lv} {X : Mm} {r : List AV} {c : Nat} {c2 : Nat} (h2 : c + 23 = c2) (hM : M.1.cls = RX8) (hc : kd c = 8) (hd : decode M.2.1 pc = .ok (.getfield 78, 3)) (k : G l g M κ K (pc + 3) lv (vR c2 :: r) X) : G l g M κ K pc lv (vR c :: r) X := by
  subst h2
  exact g_get (k := 36) hc (by decide) (show vwCl[8]? = some (RX8, TX8, 39) from rfl) rfl (by decide) lay_X8 (by rw [hM]; exact fl_RX8_78) rfl hd k
theorem gf_X8_81 {l : Launch} {g : Geo} {M : Me} {κ : Kx} {K : AV → Mm → Prop} {pc : Nat} {lv : Lv} {X : Mm} {r : List AV} {c : Nat} {c2 : Nat} (h2 : c + 24 = c2) (hM : M.1.cls = RX8) (hc : kd c = 8) (hd : decode M.2.1 pc = .ok (.getfield 81, 3)) (k : G l g M κ K (pc + 3) lv (vR c2 :: r) X) : G l g M κ K pc lv (vR c :: r) X := by
  subst h2
  exact g_get (k := 37) hc (by decide) (show vwCl[8]? = some (RX8, TX8, 39) from rfl) rfl (by decide) lay_X8 (by rw [hM]; exact fl_RX8_81) rfl hd k
theorem gf_X8_84 {l : Launch} {g : Geo} {M : Me} {κ : Kx} {K : AV → Mm → Prop} {pc : Nat} {lv : Lv} {X : Mm} {r : List AV} {c : Nat} {c2 : Nat} (h2 : c + 25 = c2) (hM : M.1.cls = RX8) (hc : kd c = 8) (hd : decode M.2.1 pc = .ok (.getfield 84, 3)) (k : G l g M κ K (pc + 3) lv (vR c2 :: r) X) : G l g M κ K pc lv (vR c :: r) X := by
  subst h2
  exact g_get (k := 38) hc (by decide) (show vwCl[8]? = some (RX8, TX8, 39) from rfl) rfl (by decide) lay_X8 (by rw [hM]; exact fl_RX8_84) rfl hd k
theorem gf_X8_87 {l : Launch} {g : Geo} {M : Me} {κ : Kx} {K : AV → Mm → Prop} {pc : Nat} {lv : Lv} {X : Mm} {r : List AV} {c : Nat} (hM : M.1.cls = RX8) (hc : kd c = 8) (hd : decode M.2.1 pc = .ok (.getfield 87, 3)) (k : G l g M κ K (pc + 3) lv (vI (X c 0) :: r) X) : G l g M κ K pc lv (vR c :: r) X := g_get (k := 0) hc (by decide) (show vwCl[8]? = some (RX8, TX8, 39) from rfl) rfl (by decide) lay_X8 (by rw [hM]; exact fl_RX8_87) rfl hd k
theorem gf_X8_91 {l : Launch} {g : Geo} {M : Me} {κ : Kx} {K : AV → Mm → Prop} {pc : Nat} {lv : Lv} {X : Mm} {r : List AV} {c : Nat} (hM : M.1.cls = RX8) (hc : kd c = 8) (hd : decode M.2.1 pc = .ok (.getfield 91, 3)) (k : G l g M κ K (pc + 3) lv (vI (X c 3) :: r) X) : G l g M κ K pc lv (vR c :: r) X := g_get (k := 3) hc (by decide) (show vwCl[8]? = some (RX8, TX8, 39) from rfl) rfl (by decide) lay_X8 (by rw [hM]; exact fl_RX8_91) rfl hd k
theorem gf_X8_94 {l : Launch} {g : Geo} {M : Me} {κ : Kx} {K : AV → Mm → Prop} {pc : Nat} {lv : Lv} {X : Mm} {r : List AV} {c : Nat} (hM : M.1.cls = RX8) (hc : kd c = 8) (hd : decode M.2.1 pc = .ok (.getfield 94, 3)) (k : G l g M κ K (pc + 3) lv (vI (X c 5) :: r) X) : G l g M κ K pc lv (vR c :: r) X := g_get (k := 5) hc (by decide) (show vwCl[8]? = some (RX8, TX8, 39) from rfl) rfl (by decide) lay_X8 (by rw [hM]; exact fl_RX8_94) rfl hd k
theorem gf_X8_97 {l : Launch} {g : Geo} {M : Me} {κ : Kx} {K : AV → Mm → Prop} {pc : Nat} {lv : Lv} {X : Mm} {r : List AV} {c : Nat} (hM : M.1.cls = RX8) (hc : kd c = 8) (hd : decode M.2.1 pc = .ok (.getfield 97, 3)) (k : G l g M κ K (pc + 3) lv (vI (X c 13) :: r) X) : G l g M κ K pc lv (vR c :: r) X := g_get (k := 13) hc (by decide) (show vwCl[8]? = some (RX8, TX8, 39) from rfl) rfl (by decide) lay_X8 (by rw [hM]; exact fl_RX8_97) rfl hd k
theorem gf_X8_101 {l : Launch} {g : Geo} {M : Me} {κ : Kx} {K : AV → Mm → Prop} {pc : Nat} {lv : Lv} {X : Mm} {r : List AV} {c : Nat} (hM : M.1.cls = RX8) (hc : kd c = 8) (hd : decode M.2.1 pc = .ok (.getfield 101, 3)) (k : G l g M κ K (pc + 3) lv (vI (X c 11) :: r) X) : G l g M κ K pc lv (vR c :: r) X := g_get (k := 11) hc (by decide) (show vwCl[8]? = some (RX8, TX8, 39) from rfl) rfl (by decide) lay_X8 (by rw [hM]; exact fl_RX8_101) rfl hd k
theorem gf_X8_104 {l : Launch} {g : Geo} {M : Me} {κ : Kx} {K : AV → Mm → Prop} {pc : Nat} {lv : Lv} {X : Mm} {r : List AV} {c : Nat} (hM : M.1.cls = RX8) (hc : kd c = 8) (hd : decode M.2.1 pc = .ok (.getfield 104, 3)) (k : G l g M κ K (pc + 3) lv (vI (X c 12) :: r) X) : G l g M κ K pc lv (vR c :: r) X := g_get (k := 12) hc (by decide) (show vwCl[8]? = some (RX8, TX8, 39) from rfl) rfl (by decide) lay_X8 (by rw [hM]; exact fl_RX8_104) rfl hd k
theorem gf_X8_128 {l : Launch} {g : Geo} {M : Me} {κ : Kx} {K : AV → Mm → Prop} {pc : Nat} {lv : Lv} {X : Mm} {r : List AV} {c : Nat} (hM : M.1.cls = RX8) (hc : kd c = 8) (hd : decode M.2.1 pc = .ok (.getfield 128, 3)) (k : G l g M κ K (pc + 3) lv (vJ (X c 16) :: r) X) : G l g M κ K pc lv (vR c :: r) X := g_get (k := 16) hc (by decide) (show vwCl[8]? = some (RX8, TX8, 39) from rfl) rfl (by decide) lay_X8 (by rw [hM]; exact fl_RX8_128) rfl hd k
theorem gf_X8_132 {l : Launch} {g : Geo} {M : Me} {κ : Kx} {K : AV → Mm → Prop} {pc : Nat} {lv : Lv} {X : Mm} {r : List AV} {c : Nat} (hM : M.1.cls = RX8) (hc : kd c = 8) (hd : decode M.2.1 pc = .ok (.getfield 132, 3)) (k : G l g M κ K (pc + 3) lv (vJ (X c 17) :: r) X) : G l g M κ K pc lv (vR c :: r) X := g_get (k := 17) hc (by decide) (show vwCl[8]? = some (RX8, TX8, 39) from rfl) rfl (by decide) lay_X8 (by rw [hM]; exact fl_RX8_132) rfl hd k
theorem gf_X8_139 {l : Launch} {g : Geo} {M : Me} {κ : Kx} {K : AV → Mm → Prop} {pc : Nat} {lv : Lv} {X : Mm} {r : List AV} {c : Nat} (hM : M.1.cls = RX8) (hc : kd c = 8) (hd : decode M.2.1 pc = .ok (.getfield 139, 3)) (k : G l g M κ K (pc + 3) lv (vJ (X c 18) :: r) X) : G l g M κ K pc lv (vR c :: r) X := g_get (k := 18) hc (by decide) (show vwCl[8]? = some (RX8, TX8, 39) from rfl) rfl (by decide) lay_X8 (by rw [hM]; exact fl_RX8_139) rfl hd k
theorem gf_X8_142 {l : Launch} {g : Geo} {M : Me} {κ : Kx} {K : AV → Mm → Prop} {pc : Nat} {lv : Lv} {X : Mm} {r : List AV} {c : Nat} (hM : M.1.cls = RX8) (hc : kd c = 8) (hd : decode M.2.1 pc = .ok (.getfield 142, 3)) (k : G l g M κ K (pc + 3) lv (vJ (X c 19) :: r) X) : G l g M κ K pc lv (vR c :: r) X := g_get (k := 19) hc (by decide) (show vwCl[8]? = some (RX8, TX8, 39) from rfl) rfl (by decide) lay_X8 (by rw [hM]; exact fl_RX8_142) rfl hd k
theorem gf_X8_157 {l : Launch} {g : Geo} {M : Me} {κ : Kx} {K : AV → Mm → Prop} {pc : Nat} {lv : Lv} {X : Mm} {r : List AV} {c : Nat} (hM : M.1.cls = RX8) (hc : kd c = 8) (hd : decode M.2.1 pc = .ok (.getfield 157, 3)) (k : G l g M κ K (pc + 3) lv (vJ (X c 14) :: r) X) : G l g M κ K pc lv (vR c :: r) X := g_get (k := 14) hc (by decide) (show vwCl[8]? = some (RX8, TX8, 39) from rfl) rfl (by decide) lay_X8 (by rw [hM]; exact fl_RX8_157) rfl hd k
theorem gf_X8_160 {l : Launch} {g : Geo} {M : Me} {κ : Kx} {K : AV → Mm → Prop} {pc : Nat} {lv : Lv} {X : Mm} {r : List AV} {c : Nat} (hM : M.1.cls = RX8) (hc : kd c = 8) (hd : decode M.2.1 pc = .ok (.getfield 160, 3)) (k : G l g M κ K (pc + 3) lv (vJ (X c 15) :: r) X) : G l g M κ K pc lv (vR c :: r) X := g_get (k := 15) hc (by decide) (show vwCl[8]? = some (RX8, TX8, 39) from rfl) rfl (by decide) lay_X8 (by rw [hM]; exact fl_RX8_160) rfl hd k
theorem gf_X8_193 {l : Launch} {g : Geo} {M : Me} {κ : Kx} {K : AV → Mm → Prop} {pc : Nat} {lv : Lv} {X : Mm} {r : List AV} {c : Nat} (hM : M.1.cls = RX8) (hc : kd c = 8) (hd : decode M.2.1 pc = .ok (.getfield 193, 3)) (k : G l g M κ K (pc + 3) lv (vI (X c 25) :: r) X) : G l g M κ K pc lv (vR c :: r) X := g_get (k := 25) hc (by decide) (show vwCl[8]? = some (RX8, TX8, 39) from rfl) rfl (by decide) lay_X8 (by rw [hM]; exact fl_RX8_193) rfl hd k
theorem gf_X8_200 {l : Launch} {g : Geo} {M : Me} {κ : Kx} {K : AV → Mm → Prop} {pc : Nat} {lv : Lv} {X : Mm} {r : List AV} {c : Nat} (hM : M.1.cls = RX8) (hc : kd c = 8) (hd : decode M.2.1 pc = .ok (.getfield 200, 3)) (k : G l g M κ K (pc + 3) lv (vI (X c 35) :: r) X) : G l g M κ K pc lv (vR c :: r) X := g_get (k := 35) hc (by decide) (show vwCl[8]? = some (RX8, TX8, 39) from rfl) rfl (by decide) lay_X8 (by rw [hM]; exact fl_RX8_200) rfl hd k
theorem pf_X0_21 {l : Launch} {g : Geo} {M : Me} {κ : Kx} {K : AV → Mm → Prop} {pc : Nat} {lv : Lv} {X : Mm} {r : List AV} {c : Nat} {n : Int} (hM : M.1.cls = RX0) (hc : kd c = 0) (hd : decode M.2.1 pc = .ok (.putfield 21, 3)) (k : G l g M κ K (pc + 3) lv r (st2 X c 0 n)) : G l g M κ K pc lv (vI n :: vR c :: r) X := g_put (k := 0) (ty := .int) hc (by decide) (show vwCl[0]? = some (RX0, TX0, 2) from rfl) rfl (by decide) lay_X0 tyX0_ok nmX0 (by rw [hM]; exact fl_RX0_21) rfl (by decide +kernel) rfl rfl rfl hd k
theorem pf_X1_31 {l : Launch} {g : Geo} {M : Me} {κ : Kx} {K : AV → Mm → Prop} {pc : Nat} {lv : Lv} {X : Mm} {r : List AV} {c : Nat} {n : Int} (hM : M.1.cls = RX1) (hc : kd c = 1) (hd : decode M.2.1 pc = .ok (.putfield 31, 3)) (k : G l g M κ K (pc + 3) lv r (st2 X c 0 n)) : G l g M κ K pc lv (vI n :: vR c :: r) X := g_put (k := 0) (ty := .int) hc (by decide) (show vwCl[1]? = some (RX1, TX1, 6) from rfl) rfl (by decide) lay_X1 tyX1_ok nmX1 (by rw [hM]; exact fl_RX1_31) rfl (by decide +kernel) rfl rfl rfl hd k
theorem pf_X2_31 {l : Launch} {g : Geo} {M : Me} {κ : Kx} {K : AV → Mm → Prop} {pc : Nat} {lv : Lv} {X : Mm} {r : List AV} {c : Nat} {n : Int} (hM : M.1.cls = RX2) (hc : kd c = 2) (hd : decode M.2.1 pc = .ok (.putfield 31, 3)) (k : G l g M κ K (pc + 3) lv r (st2 X c 0 n)) : G l g M κ K pc lv (vI n :: vR c :: r) X := g_put (k := 0) (ty := .int) hc (by decide) (show vwCl[2]? = some (RX2, TX2, 6) from rfl) rfl (by decide) lay_X2 tyX2_ok nmX2 (by rw [hM]; exact fl_RX2_31) rfl (by decide +kernel) rfl rfl rfl hd k
theorem pf_X2_32 {l : Launch} {g : Geo} {M : Me} {κ : Kx} {K : AV → Mm → Prop} {pc : Nat} {lv : Lv} {X : Mm} {r : List AV} {c : Nat} {n : Int} (hM : M.1.cls = RX2) (hc : kd c = 2) (hd : decode M.2.1 pc = .ok (.putfield 32, 3)) (k : G l g M κ K (pc + 3) lv r (st2 X c 1 n)) : G l g M κ K pc lv (vI n :: vR c :: r) X := g_put (k := 1) (ty := .int) hc (by decide) (show vwCl[2]? = some (RX2, TX2, 6) from rfl) rfl (by decide) lay_X2 tyX2_ok nmX2 (by rw [hM]; exact fl_RX2_32) rfl (by decide +kernel) rfl rfl rfl hd k
theorem pf_X3_34 {l : Launch} {g : Geo} {M : Me} {κ : Kx} {K : AV → Mm → Prop} {pc : Nat} {lv : Lv} {X : Mm} {r : List AV} {c : Nat} {n : Int} (hM : M.1.cls = RX3) (hc : kd c = 3) (hd : decode M.2.1 pc = .ok (.putfield 34, 3)) (k : G l g M κ K (pc + 3) lv r (st2 X c 0 n)) : G l g M κ K pc lv (vI n :: vR c :: r) X := g_put (k := 0) (ty := .int) hc (by decide) (show vwCl[3]? = some (RX3, TX3, 9) from rfl) rfl (by decide) lay_X3 tyX3_ok nmX3 (by rw [hM]; exact fl_RX3_34) rfl (by decide +kernel) rfl rfl rfl hd k
theorem pf_X3_35 {l : Launch} {g : Geo} {M : Me} {κ : Kx} {K : AV → Mm → Prop} {pc : Nat} {lv : Lv} {X : Mm} {r : List AV} {c : Nat} {n : Int} (hM : M.1.cls = RX3) (hc : kd c = 3) (hd : decode M.2.1 pc = .ok (.putfield 35, 3)) (k : G l g M κ K (pc + 3) lv r (st2 X c 1 n)) : G l g M κ K pc lv (vI n :: vR c :: r) X := g_put (k := 1) (ty := .int) hc (by decide) (show vwCl[3]? = some (RX3, TX3, 9) from rfl) rfl (by decide) lay_X3 tyX3_ok nmX3 (by rw [hM]; exact fl_RX3_35) rfl (by decide +kernel) rfl rfl rfl hd k
theorem pf_X3_38 {l : Launch} {g : Geo} {M : Me} {κ : Kx} {K : AV → Mm → Prop} {pc : Nat} {lv : Lv} {X : Mm} {r : List AV} {c : Nat} {n : Int} (hM : M.1.cls = RX3) (hc : kd c = 3) (hd : decode M.2.1 pc = .ok (.putfield 38, 3)) (k : G l g M κ K (pc + 3) lv r (st2 X c 2 n)) : G l g M κ K pc lv (vI n :: vR c :: r) X := g_put (k := 2) (ty := .int) hc (by decide) (show vwCl[3]? = some (RX3, TX3, 9) from rfl) rfl (by decide) lay_X3 tyX3_ok nmX3 (by rw [hM]; exact fl_RX3_38) rfl (by decide +kernel) rfl rfl rfl hd k
theorem pf_X3_41 {l : Launch} {g : Geo} {M : Me} {κ : Kx} {K : AV → Mm → Prop} {pc : Nat} {lv : Lv} {X : Mm} {r : List AV} {c : Nat} {n : Int} (hM : M.1.cls = RX3) (hc : kd c = 3) (hd : decode M.2.1 pc = .ok (.putfield 41, 3)) (k : G l g M κ K (pc + 3) lv r (st2 X c 3 n)) : G l g M κ K pc lv (vI n :: vR c :: r) X := g_put (k := 3) (ty := .int) hc (by decide) (show vwCl[3]? = some (RX3, TX3, 9) from rfl) rfl (by decide) lay_X3 tyX3_ok nmX3 (by rw [hM]; exact fl_RX3_41) rfl (by decide +kernel) rfl rfl rfl hd k
theorem pf_X4_21 {l : Launch} {g : Geo} {M : Me} {κ : Kx} {K : AV → Mm → Prop} {pc : Nat} {lv : Lv} {X : Mm} {r : List AV} {c : Nat} {n : Int} (hM : M.1.cls = RX4) (hc : kd c = 4) (hd : decode M.2.1 pc = .ok (.putfield 21, 3)) (k : G l g M κ K (pc + 3) lv r (st2 X c 0 n)) : G l g M κ K pc lv (vI n :: vR c :: r) X := g_put (k := 0) (ty := .int) hc (by decide) (show vwCl[4]? = some (RX4, TX4, 4) from rfl) rfl (by decide) lay_X4 tyX4_ok nmX4 (by rw [hM]; exact fl_RX4_21) rfl (by decide +kernel) rfl rfl rfl hd k
theorem pf_X5_7 {l : Launch} {g : Geo} {M : Me} {κ : Kx} {K : AV → Mm → Prop} {pc : Nat} {lv : Lv} {X : Mm} {r : List AV} {c : Nat} {n : Int} (hz : n = 0 ∨ n = 1) (hM : M.1.cls = RX5) (hc : kd c = 5) (hd : decode M.2.1 pc = .ok (.putfield 7, 3)) (k : G l g M κ K (pc + 3) lv r (st2 X c 0 n)) : G l g M κ K pc lv (vI n :: vR c :: r) X := g_put (k := 0) (ty := .boolean) hc (by decide) (show vwCl[5]? = some (RX5, TX5, 3) from rfl) rfl (by decide) lay_X5 tyX5_ok nmX5 (by rw [hM]; exact fl_RX5_7) rfl (by decide +kernel) rfl (nar_zz hz) (fit_z hz) hd k
theorem pf_X5_13 {l : Launch} {g : Geo} {M : Me} {κ : Kx} {K : AV → Mm → Prop} {pc : Nat} {lv : Lv} {X : Mm} {r : List AV} {c : Nat} {n : Int} (hM : M.1.cls = RX5) (hc : kd c = 5) (hd : decode M.2.1 pc = .ok (.putfield 13, 3)) (k : G l g M κ K (pc + 3) lv r (st2 X c 1 n)) : G l g M κ K pc lv (vJ n :: vR c :: r) X := g_put (k := 1) (ty := .long) hc (by decide) (show vwCl[5]? = some (RX5, TX5, 3) from rfl) rfl (by decide) lay_X5 tyX5_ok nmX5 (by rw [hM]; exact fl_RX5_13) rfl (by decide +kernel) rfl rfl rfl hd k
theorem pf_X5_17 {l : Launch} {g : Geo} {M : Me} {κ : Kx} {K : AV → Mm → Prop} {pc : Nat} {lv : Lv} {X : Mm} {r : List AV} {c : Nat} {n : Int} (hM : M.1.cls = RX5) (hc : kd c = 5) (hd : decode M.2.1 pc = .ok (.putfield 17, 3)) (k : G l g M κ K (pc + 3) lv r (st2 X c 2 n)) : G l g M κ K pc lv (vJ n :: vR c :: r) X := g_put (k := 2) (ty := .long) hc (by decide) (show vwCl[5]? = some (RX5, TX5, 3) from rfl) rfl (by decide) lay_X5 tyX5_ok nmX5 (by rw [hM]; exact fl_RX5_17) rfl (by decide +kernel) rfl rfl rfl hd k
theorem pf_X6_34 {l : Launch} {g : Geo} {M : Me} {κ : Kx} {K : AV → Mm → Prop} {pc : Nat} {lv : Lv} {X : Mm} {r : List AV} {c : Nat} {n : Int} (hM : M.1.cls = RX6) (hc : kd c = 6) (hd : decode M.2.1 pc = .ok (.putfield 34, 3)) (k : G l g M κ K (pc + 3) lv r (st2 X c 0 n)) : G l g M κ K pc lv (vI n :: vR c :: r) X := g_put (k := 0) (ty := .int) hc (by decide) (show vwCl[6]? = some (RX6, TX6, 7) from rfl) rfl (by decide) lay_X6 tyX6_ok nmX6 (by rw [hM]; exact fl_RX6_34) rfl (by decide +kernel) rfl rfl rfl hd k
theorem pf_X6_38 {l : Launch} {g : Geo} {M : Me} {κ : Kx} {K : AV → Mm → Prop} {pc : Nat} {lv : Lv} {X : Mm} {r : List AV} {c : Nat} {n : Int} (hM : M.1.cls = RX6) (hc : kd c = 6) (hd : decode M.2.1 pc = .ok (.putfield 38, 3)) (k : G l g M κ K (pc + 3) lv r (st2 X c 1 n)) : G l g M κ K pc lv (vI n :: vR c :: r) X := g_put (k := 1) (ty := .int) hc (by decide) (show vwCl[6]? = some (RX6, TX6, 7) from rfl) rfl (by decide) lay_X6 tyX6_ok nmX6 (by rw [hM]; exact fl_RX6_38) rfl (by decide +kernel) rfl rfl rfl hd k
theorem pf_X6_53 {l : Launch} {g : Geo} {M : Me} {κ : Kx} {K : AV → Mm → Prop} {pc : Nat} {lv : Lv} {X : Mm} {r : List AV} {c : Nat} {n : Int} (hM : M.1.cls = RX6) (hc : kd c = 5) (hd : decode M.2.1 pc = .ok (.putfield 53, 3)) (k : G l g M κ K (pc + 3) lv r (st2 X c 1 n)) : G l g M κ K pc lv (vJ n :: vR c :: r) X := g_put (k := 1) (ty := .long) hc (by decide) (show vwCl[5]? = some (RX5, TX5, 3) from rfl) rfl (by decide) lay_X5 tyX5_ok nmX5 (by rw [hM]; exact fl_RX6_53) rfl (by decide +kernel) rfl rfl rfl hd k
theorem pf_X6_59 {l : Launch} {g : Geo} {M : Me} {κ : Kx} {K : AV → Mm → Prop} {pc : Nat} {lv : Lv} {X : Mm} {r : List AV} {c : Nat} {n : Int} (hM : M.1.cls = RX6) (hc : kd c = 5) (hd : decode M.2.1 pc = .ok (.putfield 59, 3)) (k : G l g M κ K (pc + 3) lv r (st2 X c 2 n)) : G l g M κ K pc lv (vJ n :: vR c :: r) X := g_put (k := 2) (ty := .long) hc (by decide) (show vwCl[5]? = some (RX5, TX5, 3) from rfl) rfl (by decide) lay_X5 tyX5_ok nmX5 (by rw [hM]; exact fl_RX6_59) rfl (by decide +kernel) rfl rfl rfl hd k
theorem pf_X7_7 {l : Launch} {g : Geo} {M : Me} {κ : Kx} {K : AV → Mm → Prop} {pc : Nat} {lv : Lv} {X : Mm} {r : List AV} {c : Nat} {n : Int} (hM : M.1.cls = RX7) (hc : kd c = 7) (hd : decode M.2.1 pc = .ok (.putfield 7, 3)) (k : G l g M κ K (pc + 3) lv r (st2 X c 0 n)) : G l g M κ K pc lv (vI n :: vR c :: r) X := g_put (k := 0) (ty := .int) hc (by decide) (show vwCl[7]? = some (RX7, TX7, 11) from rfl) rfl (by decide) lay_X7 tyX7_ok nmX7 (by rw [hM]; exact fl_RX7_7) rfl (by decide +kernel) rfl rfl rfl hd k
theorem pf_X7_74 {l : Launch} {g : Geo} {M : Me} {κ : Kx} {K : AV → Mm → Prop} {pc : Nat} {lv : Lv} {X : Mm} {r : List AV} {c : Nat} {n : Int} (hM : M.1.cls = RX7) (hc : kd c = 3) (hd : decode M.2.1 pc = .ok (.putfield 74, 3)) (k : G l g M κ K (pc + 3) lv r (st2 X c 0 n)) : G l g M κ K pc lv (vI n :: vR c :: r) X := g_put (k := 0) (ty := .int) hc (by decide) (show vwCl[3]? = some (RX3, TX3, 9) from rfl) rfl (by decide) lay_X3 tyX3_ok nmX3 (by rw [hM]; exact fl_RX7_74) rfl (by decide +kernel) rfl rfl rfl hd k
theorem pf_X7_77 {l : Launch} {g : Geo} {M : Me} {κ : Kx} {K : AV → Mm → Prop} {pc : Nat} {lv : Lv} {X : Mm} {r : List AV} {c : Nat} {n : Int} (hz : n = 0 ∨ n = 1) (hM : M.1.cls = RX7) (hc : kd c = 5) (hd : decode M.2.1 pc = .ok (.putfield 77, 3)) (k : G l g M κ K (pc + 3) lv r (st2 X c 0 n)) : G l g M κ K pc lv (vI n :: vR c :: r) X := g_put (k := 0) (ty := .boolean) hc (by decide) (show vwCl[5]? = some (RX5, TX5, 3) from rfl) rfl (by decide) lay_X5 tyX5_ok nmX5 (by rw [hM]; exact fl_RX7_77) rfl (by decide +kernel) rfl (nar_zz hz) (fit_z hz) hd k
theorem pf_X8_87 {l : Launch} {g : Geo} {M : Me} {κ : Kx} {K : AV → Mm → Prop} {pc : Nat} {lv : Lv} {X : Mm} {r : List AV} {c : Nat} {n : Int} (hM : M.1.cls = RX8) (hc : kd c = 8) (hd : decode M.2.1 pc = .ok (.putfield 87, 3)) (k : G l g M κ K (pc + 3) lv r (st2 X c 0 n)) : G l g M κ K pc lv (vI n :: vR c :: r) X := g_put (k := 0) (ty := .int) hc (by decide) (show vwCl[8]? = some (RX8, TX8, 39) from rfl) rfl (by decide) lay_X8 tyX8_ok nmX8 (by rw [hM]; exact fl_RX8_87) rfl (by decide +kernel) rfl rfl rfl hd k
theorem pf_X8_91 {l : Launch} {g : Geo} {M : Me} {κ : Kx} {K : AV → Mm → Prop} {pc : Nat} {lv : Lv} {X : Mm} {r : List AV} {c : Nat} {n : Int} (hM : M.1.cls = RX8) (hc : kd c = 8) (hd : decode M.2.1 pc = .ok (.putfield 91, 3)) (k : G l g M κ K (pc + 3) lv r (st2 X c 3 n)) : G l g M κ K pc lv (vI n :: vR c :: r) X := g_put (k := 3) (ty := .int) hc (by decide) (show vwCl[8]? = some (RX8, TX8, 39) from rfl) rfl (by decide) lay_X8 tyX8_ok nmX8 (by rw [hM]; exact fl_RX8_91) rfl (by decide +kernel) rfl rfl rfl hd k
theorem pf_X8_94 {l : Launch} {g : Geo} {M : Me} {κ : Kx} {K : AV → Mm → Prop} {pc : Nat} {lv : Lv} {X : Mm} {r : List AV} {c : Nat} {n : Int} (hM : M.1.cls = RX8) (hc : kd c = 8) (hd : decode M.2.1 pc = .ok (.putfield 94, 3)) (k : G l g M κ K (pc + 3) lv r (st2 X c 5 n)) : G l g M κ K pc lv (vI n :: vR c :: r) X := g_put (k := 5) (ty := .int) hc (by decide) (show vwCl[8]? = some (RX8, TX8, 39) from rfl) rfl (by decide) lay_X8 tyX8_ok nmX8 (by rw [hM]; exact fl_RX8_94) rfl (by decide +kernel) rfl rfl rfl hd k
theorem pf_X8_97 {l : Launch} {g : Geo} {M : Me} {κ : Kx} {K : AV → Mm → Prop} {pc : Nat} {lv : Lv} {X : Mm} {r : List AV} {c : Nat} {n : Int} (hz : n = 0 ∨ n = 1) (hM : M.1.cls = RX8) (hc : kd c = 8) (hd : decode M.2.1 pc = .ok (.putfield 97, 3)) (k : G l g M κ K (pc + 3) lv r (st2 X c 13 n)) : G l g M κ K pc lv (vI n :: vR c :: r) X := g_put (k := 13) (ty := .boolean) hc (by decide) (show vwCl[8]? = some (RX8, TX8, 39) from rfl) rfl (by decide) lay_X8 tyX8_ok nmX8 (by rw [hM]; exact fl_RX8_97) rfl (by decide +kernel) rfl (nar_zz hz) (fit_z hz) hd k
theorem pf_X8_101 {l : Launch} {g : Geo} {M : Me} {κ : Kx} {K : AV → Mm → Prop} {pc : Nat} {lv : Lv} {X : Mm} {r : List AV} {c : Nat} {n : Int} (hM : M.1.cls = RX8) (hc : kd c = 8) (hd : decode M.2.1 pc = .ok (.putfield 101, 3)) (k : G l g M κ K (pc + 3) lv r (st2 X c 11 n)) : G l g M κ K pc lv (vI n :: vR c :: r) X := g_put (k := 11) (ty := .int) hc (by decide) (show vwCl[8]? = some (RX8, TX8, 39) from rfl) rfl (by decide) lay_X8 tyX8_ok nmX8 (by rw [hM]; exact fl_RX8_101) rfl (by decide +kernel) rfl rfl rfl hd k
theorem pf_X8_104 {l : Launch} {g : Geo} {M : Me} {κ : Kx} {K : AV → Mm → Prop} {pc : Nat} {lv : Lv} {X : Mm} {r : List AV} {c : Nat} {n : Int} (hM : M.1.cls = RX8) (hc : kd c = 8) (hd : decode M.2.1 pc = .ok (.putfield 104, 3)) (k : G l g M κ K (pc + 3) lv r (st2 X c 12 n)) : G l g M κ K pc lv (vI n :: vR c :: r) X := g_put (k := 12) (ty := .int) hc (by decide) (show vwCl[8]? = some (RX8, TX8, 39) from rfl) rfl (by decide) lay_X8 tyX8_ok nmX8 (by rw [hM]; exact fl_RX8_104) rfl (by decide +kernel) rfl rfl rfl hd k
theorem pf_X8_128 {l : Launch} {g : Geo} {M : Me} {κ : Kx} {K : AV → Mm → Prop} {pc : Nat} {lv : Lv} {X : Mm} {r : List AV} {c : Nat} {n : Int} (hM : M.1.cls = RX8) (hc : kd c = 8) (hd : decode M.2.1 pc = .ok (.putfield 128, 3)) (k : G l g M κ K (pc + 3) lv r (st2 X c 16 n)) : G l g M κ K pc lv (vJ n :: vR c :: r) X := g_put (k := 16) (ty := .long) hc (by decide) (show vwCl[8]? = some (RX8, TX8, 39) from rfl) rfl (by decide) lay_X8 tyX8_ok nmX8 (by rw [hM]; exact fl_RX8_128) rfl (by decide +kernel) rfl rfl rfl hd k
theorem pf_X8_132 {l : Launch} {g : Geo} {M : Me} {κ : Kx} {K : AV → Mm → Prop} {pc : Nat} {lv : Lv} {X : Mm} {r : List AV} {c : Nat} {n : Int} (hM : M.1.cls = RX8) (hc : kd c = 8) (hd : decode M.2.1 pc = .ok (.putfield 132, 3)) (k : G l g M κ K (pc + 3) lv r (st2 X c 17 n)) : G l g M κ K pc lv (vJ n :: vR c :: r) X := g_put (k := 17) (ty := .long) hc (by decide) (show vwCl[8]? = some (RX8, TX8, 39) from rfl) rfl (by decide) lay_X8 tyX8_ok nmX8 (by rw [hM]; exact fl_RX8_132) rfl (by decide +kernel) rfl rfl rfl hd k
theorem pf_X8_139 {l : Launch} {g : Geo} {M : Me} {κ : Kx} {K : AV → Mm → Prop} {pc : Nat} {lv : Lv} {X : Mm} {r : List AV} {c : Nat} {n : Int} (hM : M.1.cls = RX8) (hc : kd c = 8) (hd : decode M.2.1 pc = .ok (.putfield 139, 3)) (k : G l g M κ K (pc + 3) lv r (st2 X c 18 n)) : G l g M κ K pc lv (vJ n :: vR c :: r) X := g_put (k := 18) (ty := .long) hc (by decide) (show vwCl[8]? = some (RX8, TX8, 39) from rfl) rfl (by decide) lay_X8 tyX8_ok nmX8 (by rw [hM]; exact fl_RX8_139) rfl (by decide +kernel) rfl rfl rfl hd k
theorem pf_X8_142 {l : Launch} {g : Geo} {M : Me} {κ : Kx} {K : AV → Mm → Prop} {pc : Nat} {lv : Lv} {X : Mm} {r : List AV} {c : Nat} {n : Int} (hM : M.1.cls = RX8) (hc : kd c = 8) (hd : decode M.2.1 pc = .ok (.putfield 142, 3)) (k : G l g M κ K (pc + 3) lv r (st2 X c 19 n)) : G l g M κ K pc lv (vJ n :: vR c :: r) X := g_put (k := 19) (ty := .long) hc (by decide) (show vwCl[8]? = some (RX8, TX8, 39) from rfl) rfl (by decide) lay_X8 tyX8_ok nmX8 (by rw [hM]; exact fl_RX8_142) rfl (by decide +kernel) rfl rfl rfl hd k
theorem pf_X8_157 {l : Launch} {g : Geo} {M : Me} {κ : Kx} {K : AV → Mm → Prop} {pc : Nat} {lv : Lv} {X : Mm} {r : List AV} {c : Nat} {n : Int} (hM : M.1.cls = RX8) (hc : kd c = 8) (hd : decode M.2.1 pc = .ok (.putfield 157, 3)) (k : G l g M κ K (pc + 3) lv r (st2 X c 14 n)) : G l g M κ K pc lv (vJ n :: vR c :: r) X := g_put (k := 14) (ty := .long) hc (by decide) (show vwCl[8]? = some (RX8, TX8, 39) from rfl) rfl (by decide) lay_X8 tyX8_ok nmX8 (by rw [hM]; exact fl_RX8_157) rfl (by decide +kernel) rfl rfl rfl hd k
theorem pf_X8_160 {l : Launch} {g : Geo} {M : Me} {κ : Kx} {K : AV → Mm → Prop} {pc : Nat} {lv : Lv} {X : Mm} {r : List AV} {c : Nat} {n : Int} (hM : M.1.cls = RX8) (hc : kd c = 8) (hd : decode M.2.1 pc = .ok (.putfield 160, 3)) (k : G l g M κ K (pc + 3) lv r (st2 X c 15 n)) : G l g M κ K pc lv (vJ n :: vR c :: r) X := g_put (k := 15) (ty := .long) hc (by decide) (show vwCl[8]? = some (RX8, TX8, 39) from rfl) rfl (by decide) lay_X8 tyX8_ok nmX8 (by rw [hM]; exact fl_RX8_160) rfl (by decide +kernel) rfl rfl rfl hd k
theorem pf_X8_193 {l : Launch} {g : Geo} {M : Me} {κ : Kx} {K : AV → Mm → Prop} {pc : Nat} {lv : Lv} {X : Mm} {r : List AV} {c : Nat} {n : Int} (hM : M.1.cls = RX8) (hc : kd c = 8) (hd : decode M.2.1 pc = .ok (.putfield 193, 3)) (k : G l g M κ K (pc + 3) lv r (st2 X c 25 n)) : G l g M κ K pc lv (vI n :: vR c :: r) X := g_put (k := 25) (ty := .int) hc (by decide) (show vwCl[8]? = some (RX8, TX8, 39) from rfl) rfl (by decide) lay_X8 tyX8_ok nmX8 (by rw [hM]; exact fl_RX8_193) rfl (by decide +kernel) rfl rfl rfl hd k
theorem pf_X8_200 {l : Launch} {g : Geo} {M : Me} {κ : Kx} {K : AV → Mm → Prop} {pc : Nat} {lv : Lv} {X : Mm} {r : List AV} {c : Nat} {n : Int} (hM : M.1.cls = RX8) (hc : kd c = 8) (hd : decode M.2.1 pc = .ok (.putfield 200, 3)) (k : G l g M κ K (pc + 3) lv r (st2 X c 35 n)) : G l g M κ K pc lv (vI n :: vR c :: r) X := g_put (k := 35) (ty := .int) hc (by decide) (show vwCl[8]? = some (RX8, TX8, 39) from rfl) rfl (by decide) lay_X8 tyX8_ok nmX8 (by rw [hM]; exact fl_RX8_200) rfl (by decide +kernel) rfl rfl rfl hd k
theorem bv_of (a : Int) : (Int32.ofInt a).toBitVec.toNat = (a % 4294967296).toNat := by
  rw [Int32.toBitVec_ofInt, BitVec.toNat_ofInt]; rfl
theorem i32_bv {x y : Int32} (h : x.toBitVec.toNat = y.toBitVec.toNat) : x = y := Int32.toBitVec_inj.mp (BitVec.eq_of_toNat_eq h)
theorem sh_amt : ∀ k : Fin 32, ((Int32.ofInt ((k : Nat) : Int) &&& 31).toBitVec.smod 32).toNat = (k : Nat) := by decide
theorem sh_amu : ∀ k : Fin 32, (((Int32.ofInt ((k : Nat) : Int)).toUInt32 &&& Int32.toUInt32 31).toBitVec % 32).toNat = (k : Nat) := by decide
theorem sh_l (a : Int) {k : Nat} (hk : k < 32) : Int32.ofInt a <<< (Int32.ofInt (k : Int) &&& 31) = Int32.ofInt (a * 2 ^ k) := by
  apply i32_bv
  rw [pk_shl _ _ k (sh_amt ⟨k, hk⟩), bv_of, bv_of]
  have h1 : 0 ≤ a % 4294967296 := by omega
  apply Int.ofNat_inj.mp
  rw [Int.toNat_of_nonneg (by omega)]
  simp only [Int.ofNat_eq_natCast, Int.natCast_emod, Int.natCast_mul, Int.natCast_pow]
  rw [Int.toNat_of_nonneg h1]
  have h2 : ((2 : Nat) : Int) ^ 32 = 4294967296 := rfl
  show (a % 4294967296 * ((2 : Nat) : Int) ^ k) % ((2 : Nat) : Int) ^ 32 = _
  rw [h2, Int.mul_emod, Int.emod_emod, ← Int.mul_emod]; rfl
theorem sh_r {a : Int} (ha : -2147483648 ≤ a ∧ a < 2147483648) {k : Nat} (hk : k < 32) : Int32.ofInt a >>> (Int32.ofInt (k : Int) &&& 31) = Int32.ofInt (a / 2 ^ k) := by
  apply Int32.toInt_inj.mp
  have hp : (1 : Int) ≤ 2 ^ k := by exact_mod_cast Nat.one_le_two_pow
  have h1 : a / 2 ^ k ≤ a.natAbs := Int.le_trans Int.le_natAbs (by exact_mod_cast (show (a / 2 ^ k).natAbs ≤ a.natAbs from Int.natAbs_ediv_le_natAbs a (2 ^ k)))
  have h2 : -(a.natAbs : Int) ≤ a / 2 ^ k := by
    have := Int.natAbs_ediv_le_natAbs a (2 ^ k)
    omega
  rw [pk_shr _ _ k (sh_amt ⟨k, hk⟩), i32_le ha, i32_le (by
    rcases Int.lt_or_le a 0 with q | q
    · have h3 : a / 2 ^ k < 0 := Int.ediv_neg_of_neg_of_pos q (by omega)
      omega
    · omega), Int.shiftRight_eq_div_pow]
  rfl
theorem sh_u (a : Int) {k : Nat} (hk : k < 32) : ((Int32.ofInt a).toUInt32 >>> ((Int32.ofInt (k : Int)).toUInt32 &&& Int32.toUInt32 31)).toInt32 = Int32.ofInt ((a % 4294967296) / 2 ^ k) := by
  apply i32_bv
  rw [pk_ushr _ _ k (sh_amu ⟨k, hk⟩), bv_of, bv_of]
  have h1 : 0 ≤ a % 4294967296 := by omega
  have hp : (1 : Int) ≤ 2 ^ k := by exact_mod_cast Nat.one_le_two_pow
  have h2 : 0 ≤ (a % 4294967296) / 2 ^ k := Int.ediv_nonneg h1 (by omega)
  have h3 : (a % 4294967296) / 2 ^ k ≤ a % 4294967296 := Int.ediv_le_self _ h1
  rw [Int.emod_eq_of_lt h2 (by omega)]
  apply Int.ofNat_inj.mp
  rw [Int.toNat_of_nonneg h2, Int.natCast_ediv, Int.toNat_of_nonneg h1, Int.natCast_pow]
  rfl
theorem an_m (a : Int) {k : Nat} (hk : k ≤ 31) : Int32.ofInt a &&& Int32.ofInt (2 ^ k - 1) = Int32.ofInt (a % 2 ^ k) := by
  have hp : (1 : Int) ≤ 2 ^ k := by exact_mod_cast Nat.one_le_two_pow
  have hk2 : (2 : Int) ^ k ≤ 2 ^ 31 := by exact_mod_cast Nat.pow_le_pow_right (by decide) hk
  rw [pk_and (Int32.ofInt a) k (by
    rw [bv_of, Int.emod_eq_of_lt (by omega) (by omega)]
    have : ((2 ^ k - 1 : Nat) : Int) = 2 ^ k - 1 := by
      rw [Int.natCast_sub Nat.one_le_two_pow]; simp
    omega), bv_of]
  unfold nI
  rw [← Int32.ofInt_eq_ofNat]
  congr 1
  have h1 : 0 ≤ a % 4294967296 := by omega
  rw [Int.natCast_emod, Int.toNat_of_nonneg h1, Int.natCast_pow]
  show a % 4294967296 % 2 ^ k = a % 2 ^ k
  apply Int.emod_emod_of_dvd
  exact ⟨2 ^ (32 - k), by rw [← Int.pow_add, show k + (32 - k) = 32 by omega]; rfl⟩
theorem or_n (a b : Nat) : Int32.ofInt (a : Int) ||| Int32.ofInt (b : Int) = Int32.ofInt ((a ||| b : Nat) : Int) := by
  apply Int32.toBitVec_inj.mp
  rw [Int32.toBitVec_or, Int32.toBitVec_ofInt, Int32.toBitVec_ofInt, Int32.toBitVec_ofInt, BitVec.ofInt_natCast, BitVec.ofInt_natCast, BitVec.ofInt_natCast]
  exact (BitVec.ofNat_or).symm
theorem g_ishl {l : Launch} {g : Geo} {M : Me} {κ : Kx} {K : AV → Mm → Prop} {pc : Nat} {lv : Lv} {X : Mm} {r : List AV} {a i : Int} (j : Nat) (hi : i = (j : Int)) (hj : j < 32) (hd : decode M.2.1 pc = .ok (.ishl, 1)) (k : G l g M κ K (pc + 1) lv (vI (a * 2 ^ j) :: r) X) : G l g M κ K pc lv (vI i :: vI a :: r) X := by
  obtain ⟨p, e, s, m, args, below, meth, c, A, Q, kc, ks⟩ := κ
  intro O H locs ls hP hS hl
  subst hi
  refine lv_ishl O.1 O.2.1 hd ?_
  rw [sh_l a hj]
  exact k O H locs ls hP hS hl
theorem g_ishr {l : Launch} {g : Geo} {M : Me} {κ : Kx} {K : AV → Mm → Prop} {pc : Nat} {lv : Lv} {X : Mm} {r : List AV} {a i : Int} (j : Nat) (ha : -2147483648 ≤ a ∧ a < 2147483648) (hi : i = (j : Int)) (hj : j < 32) (hd : decode M.2.1 pc = .ok (.ishr, 1)) (k : G l g M κ K (pc + 1) lv (vI (a / 2 ^ j) :: r) X) : G l g M κ K pc lv (vI i :: vI a :: r) X := by
  obtain ⟨p, e, s, m, args, below, meth, c, A, Q, kc, ks⟩ := κ
  intro O H locs ls hP hS hl
  subst hi
  refine lv_ishr O.1 O.2.1 hd ?_
  rw [sh_r ha hj]
  exact k O H locs ls hP hS hl
theorem g_iushr {l : Launch} {g : Geo} {M : Me} {κ : Kx} {K : AV → Mm → Prop} {pc : Nat} {lv : Lv} {X : Mm} {r : List AV} {a i : Int} (j : Nat) (hi : i = (j : Int)) (hj : j < 32) (hd : decode M.2.1 pc = .ok (.iushr, 1)) (k : G l g M κ K (pc + 1) lv (vI ((a % 4294967296) / 2 ^ j) :: r) X) : G l g M κ K pc lv (vI i :: vI a :: r) X := by
  obtain ⟨p, e, s, m, args, below, meth, c, A, Q, kc, ks⟩ := κ
  intro O H locs ls hP hS hl
  subst hi
  exact lv_iushr O.1 O.2.1 hd (sh_u a hj) (k O H locs ls hP hS hl)
theorem g_iand {l : Launch} {g : Geo} {M : Me} {κ : Kx} {K : AV → Mm → Prop} {pc : Nat} {lv : Lv} {X : Mm} {r : List AV} {a b : Int} (j : Nat) (hb : b = 2 ^ j - 1) (hj : j ≤ 31) (hd : decode M.2.1 pc = .ok (.iand, 1)) (k : G l g M κ K (pc + 1) lv (vI (a % 2 ^ j) :: r) X) : G l g M κ K pc lv (vI b :: vI a :: r) X := by
  obtain ⟨p, e, s, m, args, below, meth, c, A, Q, kc, ks⟩ := κ
  intro O H locs ls hP hS hl
  subst hb
  refine lv_iand O.1 O.2.1 hd ?_
  rw [an_m a hj]
  exact k O H locs ls hP hS hl
theorem g_ior {l : Launch} {g : Geo} {M : Me} {κ : Kx} {K : AV → Mm → Prop} {pc : Nat} {lv : Lv} {X : Mm} {r : List AV} {a b : Int} (x y : Nat) (ha : a = (x : Int)) (hb : b = (y : Int)) (hd : decode M.2.1 pc = .ok (.ior, 1)) (k : G l g M κ K (pc + 1) lv (vI ((x ||| y : Nat) : Int) :: r) X) : G l g M κ K pc lv (vI b :: vI a :: r) X := by
  obtain ⟨p, e, s, m, args, below, meth, c, A, Q, kc, ks⟩ := κ
  intro O H locs ls hP hS hl
  subst ha
  subst hb
  refine lv_ior O.1 O.2.1 hd ?_
  rw [or_n]
  exact k O H locs ls hP hS hl
theorem g_idiv {l : Launch} {g : Geo} {M : Me} {κ : Kx} {K : AV → Mm → Prop} {pc : Nat} {lv : Lv} {X : Mm} {r : List AV} {a b : Int} (ha : 0 ≤ a ∧ a < 2147483648) (hb : 0 < b ∧ b < 2147483648) (hd : decode M.2.1 pc = .ok (.idiv, 1)) (k : G l g M κ K (pc + 1) lv (vI (a / b) :: r) X) : G l g M κ K pc lv (vI b :: vI a :: r) X := by
  obtain ⟨p, e, s, m, args, below, meth, c, A, Q, kc, ks⟩ := κ
  intro O H locs ls hP hS hl
  refine lv_idiv O.1 O.2.1 hd ?_ ?_
  · intro q
    rw [i32_0, i32_eq (by omega) (by omega)] at q
    omega
  · have e1 : Int32.ofInt a / Int32.ofInt b = Int32.ofInt (a / b) := by
      apply Int32.toInt_inj.mp
      have h1 : a / b ≤ a := Int.ediv_le_self _ ha.1
      have h2 : 0 ≤ a / b := Int.ediv_nonneg ha.1 (by omega)
      rw [Int32.toInt_div_of_ne_left _ _ (fun q => by
        have := congrArg Int32.toInt q
        rw [i32_le (by omega)] at this
        have h3 : Int32.minValue.toInt = -2147483648 := by decide
        omega), i32_le (by omega), i32_le (by omega), i32_le (by omega), Int.tdiv_eq_ediv_of_nonneg ha.1]
    rw [e1]
    exact k O H locs ls hP hS hl
theorem g_tabIn {l : Launch} {g : Geo} {M : Me} {κ : Kx} {K : AV → Mm → Prop} {pc : Nat} {lv : Lv} {X : Mm} {r : List AV} {a d lo hi off : Int} {offs : Array Int} {len t : Nat} (hd : decode M.2.1 pc = .ok (.tableswitch d lo hi offs, len)) (ha : -2147483648 ≤ a ∧ a < 2147483648) (h1 : lo ≤ a) (h2 : a ≤ hi) (ho : offs[(a - lo).toNat]? = some off) (ht : (pc : Int) + off = (t : Int)) (k : G l g M κ K t lv r X) : G l g M κ K pc lv (vI a :: r) X := by
  obtain ⟨p, e, s, m, args, below, meth, c, A, Q, kc, ks⟩ := κ
  intro O H locs ls hP hS hl
  exact lv_tableIn O.1 O.2.1 hd (by rw [i32_le ha]; omega) (by rw [i32_le ha]; omega) (by rw [i32_le ha]; exact ho) ht (k O H locs ls hP hS hl)
theorem g_tabOut {l : Launch} {g : Geo} {M : Me} {κ : Kx} {K : AV → Mm → Prop} {pc : Nat} {lv : Lv} {X : Mm} {r : List AV} {a d lo hi : Int} {offs : Array Int} {len t : Nat} (hd : decode M.2.1 pc = .ok (.tableswitch d lo hi offs, len)) (ha : -2147483648 ≤ a ∧ a < 2147483648) (h1 : a < lo ∨ hi < a) (ht : (pc : Int) + d = (t : Int)) (k : G l g M κ K t lv r X) : G l g M κ K pc lv (vI a :: r) X := by
  obtain ⟨p, e, s, m, args, below, meth, c, A, Q, kc, ks⟩ := κ
  intro O H locs ls hP hS hl
  exact lv_tableOut O.1 O.2.1 hd (by rw [i32_le ha]; exact h1) ht (k O H locs ls hP hS hl)
theorem wl_setx (g : Geo) (X : Mm) {a : Nat} (x : Nat → Int) (ha : a < 70) {q : va_E} (hq : q = ce g a x) : (wl g X).set a (g.1 a, q) = wl g (fun c k => if c = a then x k else X c k) := by
  subst hq
  apply List.ext_getElem?
  intro i
  rcases Nat.lt_or_ge i 70 with hi | hi
  · rw [wl_at g _ hi]
    by_cases e : i = a
    · subst e
      rw [List.getElem?_set_self (by simp [wl]; exact ha)]
      simp
    · rw [List.getElem?_set_ne (fun q => e q.symm), wl_at g X hi]
      simp [e]
  · rw [List.getElem?_eq_none (by simp [wl]; exact hi), List.getElem?_eq_none (by simp [wl]; exact hi)]
/-- the first n of a row are those of another one -/
def cpy (X : Mm) (a b n : Nat) : Mm := fun c k => if c = b then (if k < n then X a k else X b k) else X c k
def CopL (M : Me) (idx : Nat) : Prop := Cond.methodLink M.1.cls idx arraycopyName ∈ TB
theorem g_copyi {l : Launch} {g : Geo} {M : Me} {κ : Kx} {K : AV → Mm → Prop} {pc : Nat} {lv : Lv} {X : Mm} {r : List AV} {a b : Nat} {i : Int} (n : Nat) {idx : Nat} (hi : i = (n : Int)) (ha : kd a = 9) (hb : kd b = 9) (hna : n ≤ ln a) (hnb : n ≤ ln b) (hn : n < 2147483648) (hl2 : CopL M idx) (hfr : 1 ≤ M.2.2.2.2.1) (hlo : (r.map cat).sum + (nativeFrameWords "java/lang/System" "arraycopy" 5 + 11) ≤ M.2.2.2.2.2) (hd : decode M.2.1 pc = .ok (.invokestatic idx, 3)) (k : G l g M κ K (pc + 3) lv r (cpy X a b n)) : G l g M κ K pc lv (vI i :: vI 0 :: vR b :: vI 0 :: vR a :: r) X := by
  obtain ⟨p, e, s, m, args, below, meth, c, A, Q, kc, ks⟩ := κ
  intro O H locs ls hP hS hl
  subst hi
  have h70a := kd_lt ha (by omega)
  have hwa := wl_at g X h70a
  rw [ce_i ha] at hwa
  have h70 := kd_lt hb (by omega)
  have hw := wl_at g X h70
  rw [ce_i hb] at hw
  have h0 : (Int32.ofInt 0).toNatClampNeg = 0 := rfl
  have hc : (Int32.ofInt (n : Int)).toNatClampNeg = n := i32_ix (by omega)
  refine va_copyi (ty := .int) O.1 O.2.1 (O.2.2.1.trans hl.1.symm) O.2.2.2.1 (O.2.2.2.2.1 _ hl2) (O.2.2.2.2.1 _ nm_arraycopy) (O.2.2.2.2.1 _ sm_arraycopy) (O.2.2.2.2.1 _ in_java_lang_System) O.2.2.2.2.2.1 hP (wl_D O.2.2.2.2.2.2.2.1 X (fun i hi => O.2.2.2.2.2.2.2.2.1 _ (Or.inl ⟨i, hi, rfl⟩))) hS a b 0 0 hwa hw rfl rfl rfl (by decide) (by decide) (by
      rw [i32_0, i32_lt (by omega) (by omega)]; omega) (by rw [h0, hc]; omega) (by rw [h0, hc]; omega) (fun _ _ => rfl) hfr (by rw [mc_sum]; exact hlo) hd (fun H1 locs1 hP1 hD1 hS1 => ?_)
  rw [h0, hc, wl_setx g X (fun j => if j < n then X a j else X b j) h70 (by
    rw [ce_i hb]
    congr 4
    funext j
    unfold va_cpy
    by_cases e : j < n
    · rw [if_pos (by omega), if_pos e]; simp
    · rw [if_neg (by omega), if_neg e])] at hP1
  exact k O H1 locs1 ls hP1 hS1 hl
theorem g_copyl {l : Launch} {g : Geo} {M : Me} {κ : Kx} {K : AV → Mm → Prop} {pc : Nat} {lv : Lv} {X : Mm} {r : List AV} {a b : Nat} {i : Int} (n : Nat) {idx : Nat} (hi : i = (n : Int)) (ha : kd a = 10) (hb : kd b = 10) (hna : n ≤ ln a) (hnb : n ≤ ln b) (hn : n < 2147483648) (hl2 : CopL M idx) (hfr : 1 ≤ M.2.2.2.2.1) (hlo : (r.map cat).sum + (nativeFrameWords "java/lang/System" "arraycopy" 5 + 11) ≤ M.2.2.2.2.2) (hd : decode M.2.1 pc = .ok (.invokestatic idx, 3)) (k : G l g M κ K (pc + 3) lv r (cpy X a b n)) : G l g M κ K pc lv (vI i :: vI 0 :: vR b :: vI 0 :: vR a :: r) X := by
  obtain ⟨p, e, s, m, args, below, meth, c, A, Q, kc, ks⟩ := κ
  intro O H locs ls hP hS hl
  subst hi
  have h70a := kd_lt ha (by omega)
  have hwa := wl_at g X h70a
  rw [ce_j ha] at hwa
  have h70 := kd_lt hb (by omega)
  have hw := wl_at g X h70
  rw [ce_j hb] at hw
  have h0 : (Int32.ofInt 0).toNatClampNeg = 0 := rfl
  have hc : (Int32.ofInt (n : Int)).toNatClampNeg = n := i32_ix (by omega)
  refine va_copyl (ty := .long) O.1 O.2.1 (O.2.2.1.trans hl.1.symm) O.2.2.2.1 (O.2.2.2.2.1 _ hl2) (O.2.2.2.2.1 _ nm_arraycopy) (O.2.2.2.2.1 _ sm_arraycopy) (O.2.2.2.2.1 _ in_java_lang_System) O.2.2.2.2.2.1 hP (wl_D O.2.2.2.2.2.2.2.1 X (fun i hi => O.2.2.2.2.2.2.2.2.1 _ (Or.inl ⟨i, hi, rfl⟩))) hS a b 1 1 hwa hw rfl rfl rfl (by decide) (by decide) (by
      rw [i32_0, i32_lt (by omega) (by omega)]; omega) (by rw [h0, hc]; omega) (by rw [h0, hc]; omega) (fun _ _ => rfl) hfr (by rw [mc_sum]; exact hlo) hd (fun H1 locs1 hP1 hD1 hS1 => ?_)
  rw [h0, hc, wl_setx g X (fun j => if j < n then X a j else X b j) h70 (by
    rw [ce_j hb]
    congr 4
    apply congrArg
    funext j
    unfold va_cpy
    by_cases e : j < n
    · rw [if_pos (by omega), if_pos e]; simp
    · rw [if_neg (by omega), if_neg e])] at hP1
  exact k O H1 locs1 ls hP1 hS1 hl
theorem g_max {l : Launch} {g : Geo} {M : Me} {κ : Kx} {K : AV → Mm → Prop} {pc : Nat} {lv : Lv} {X : Mm} {r : List AV} {a b : Int} {idx : Nat} (hl2 : Cond.methodLink M.1.cls idx Lib.Math.max.name ∈ TB) (hfr : 1 ≤ M.2.2.2.2.1) (hlo : (r.map cat).sum + 13 ≤ M.2.2.2.2.2) (ha : -2147483648 ≤ a ∧ a < 2147483648) (hb : -2147483648 ≤ b ∧ b < 2147483648) (hd : decode M.2.1 pc = .ok (.invokestatic idx, 3)) (k : G l g M κ K (pc + 3) lv (vI (if a < b then b else a) :: r) X) : G l g M κ K pc lv (vI b :: vI a :: r) X := by
  obtain ⟨p, e, s, m, args, below, meth, c, A, Q, kc, ks⟩ := κ
  intro O H locs ls hP hS hl
  refine va_mmax O.1 O.2.1 (O.2.2.1.trans hl.1.symm) O.2.2.2.1 (O.2.2.2.2.1 _ hl2) (O.2.2.2.2.1 _ sm_max) (O.2.2.2.2.1 _ in_java_lang_Math) (O.2.2.2.2.1 _ cd_max) hfr (by rw [mc_sum]; exact hlo) (Nat.le_refl _) (Nat.le_refl _) hd ?_
  have h := k O H locs ls hP hS hl
  by_cases q : a < b
  · rw [if_pos q] at h
    rw [if_pos ((i32_lt ha hb).mpr q)]
    exact h
  · rw [if_neg q] at h
    rw [if_neg (fun w => q ((i32_lt ha hb).mp w))]
    exact h
theorem g_min {l : Launch} {g : Geo} {M : Me} {κ : Kx} {K : AV → Mm → Prop} {pc : Nat} {lv : Lv} {X : Mm} {r : List AV} {a b : Int} {idx : Nat} (hl2 : Cond.methodLink M.1.cls idx Lib.Math.min.name ∈ TB) (hfr : 1 ≤ M.2.2.2.2.1) (hlo : (r.map cat).sum + 13 ≤ M.2.2.2.2.2) (ha : -2147483648 ≤ a ∧ a < 2147483648) (hb : -2147483648 ≤ b ∧ b < 2147483648) (hd : decode M.2.1 pc = .ok (.invokestatic idx, 3)) (k : G l g M κ K (pc + 3) lv (vI (if b < a then b else a) :: r) X) : G l g M κ K pc lv (vI b :: vI a :: r) X := by
  obtain ⟨p, e, s, m, args, below, meth, c, A, Q, kc, ks⟩ := κ
  intro O H locs ls hP hS hl
  refine va_mmin O.1 O.2.1 (O.2.2.1.trans hl.1.symm) O.2.2.2.1 (O.2.2.2.2.1 _ hl2) (O.2.2.2.2.1 _ sm_min) (O.2.2.2.2.1 _ in_java_lang_Math) (O.2.2.2.2.1 _ cd_min) hfr (by rw [mc_sum]; exact hlo) (Nat.le_refl _) (Nat.le_refl _) hd ?_
  have h := k O H locs ls hP hS hl
  by_cases q : b < a
  · rw [if_pos q] at h
    rw [if_pos ((i32_lt hb ha).mpr q)]
    exact h
  · rw [if_neg q] at h
    rw [if_neg (fun w => q ((i32_lt hb ha).mp w))]
    exact h
end
section
abbrev mX0_init : Me := (yX0_init, cX0_init, 1, none, 1, 26)
abbrev mX0_glue : Me := (yX0_glue, cX0_glue, 4, none, 1, 25)
theorem kX0_glue : CalV mX0_glue 1 := ⟨im_X0_glue, se_X0_glue, in_RX0, cd_X0_glue, by decide +kernel⟩
abbrev mX0_points : Me := (yX0_points, cX0_points, 3, some .int, 0, 0)
theorem kX0_points : CalV mX0_points 0 := ⟨im_X0_points, se_X0_points, in_RX0, cd_X0_points, by decide +kernel⟩
abbrev mX0_mostTurns : Me := (yX0_mostTurns, cX0_mostTurns, 3, some .int, 1, 26)
theorem kX0_mostTurns : CalV mX0_mostTurns 0 := ⟨im_X0_mostTurns, se_X0_mostTurns, in_RX0, cd_X0_mostTurns, by decide +kernel⟩
abbrev mX0_pointsWithOneTurn : Me := (yX0_pointsWithOneTurn, cX0_pointsWithOneTurn, 3, some .int, 1, 23)
theorem kX0_pointsWithOneTurn : CalV mX0_pointsWithOneTurn 0 := ⟨im_X0_pointsWithOneTurn, se_X0_pointsWithOneTurn, in_RX0, cd_X0_pointsWithOneTurn, by decide +kernel⟩
abbrev mX0_turnsAt : Me := (yX0_turnsAt, cX0_turnsAt, 4, some .int, 0, 0)
theorem kX0_turnsAt : CalV mX0_turnsAt 1 := ⟨im_X0_turnsAt, se_X0_turnsAt, in_RX0, cd_X0_turnsAt, by decide +kernel⟩
abbrev mX0_cornerBelow : Me := (yX0_cornerBelow, cX0_cornerBelow, 2, some .int, 0, 0)
theorem kX0_cornerBelow : CalV mX0_cornerBelow 1 := ⟨im_X0_cornerBelow, se_X0_cornerBelow, in_RX0, cd_X0_cornerBelow, by decide +kernel⟩
abbrev mX0_join : Me := (yX0_join, cX0_join, 6, none, 0, 0)
theorem kX0_join : CalV mX0_join 2 := ⟨im_X0_join, se_X0_join, in_RX0, cd_X0_join, by decide +kernel⟩
abbrev mX1_init : Me := (yX1_init, cX1_init, 1, none, 1, 26)
abbrev mX1_tell : Me := (yX1_tell, cX1_tell, 4, none, 2, 51)
theorem kX1_tell : CalV mX1_tell 2 := ⟨im_X1_tell, se_X1_tell, in_RX1, cd_X1_tell, by decide +kernel⟩
abbrev mX1_drawPieces : Me := (yX1_drawPieces, cX1_drawPieces, 6, none, 0, 0)
theorem kX1_drawPieces : CalV mX1_drawPieces 1 := ⟨im_X1_drawPieces, se_X1_drawPieces, in_RX1, cd_X1_drawPieces, by decide +kernel⟩
abbrev mX1_measure : Me := (yX1_measure, cX1_measure, 6, none, 1, 26)
theorem kX1_measure : CalV mX1_measure 2 := ⟨im_X1_measure, se_X1_measure, in_RX1, cd_X1_measure, by decide +kernel⟩
abbrev mX1_takeOut : Me := (yX1_takeOut, cX1_takeOut, 4, none, 0, 0)
theorem kX1_takeOut : CalV mX1_takeOut 0 := ⟨im_X1_takeOut, se_X1_takeOut, in_RX1, cd_X1_takeOut, by decide +kernel⟩
abbrev mX2_init : Me := (yX2_init, cX2_init, 1, none, 1, 26)
abbrev mX2_countFrom : Me := (yX2_countFrom, cX2_countFrom, 3, some .int, 2, 45)
theorem kX2_countFrom : CalV mX2_countFrom 1 := ⟨im_X2_countFrom, se_X2_countFrom, in_RX2, cd_X2_countFrom, by decide +kernel⟩
abbrev mX2_nameByPlaceAbove : Me := (yX2_nameByPlaceAbove, cX2_nameByPlaceAbove, 4, none, 0, 0)
theorem kX2_nameByPlaceAbove : CalV mX2_nameByPlaceAbove 1 := ⟨im_X2_nameByPlaceAbove, se_X2_nameByPlaceAbove, in_RX2, cd_X2_nameByPlaceAbove, by decide +kernel⟩
abbrev mX2_letUWin : Me := (yX2_letUWin, cX2_letUWin, 5, none, 0, 0)
theorem kX2_letUWin : CalV mX2_letUWin 0 := ⟨im_X2_letUWin, se_X2_letUWin, in_RX2, cd_X2_letUWin, by decide +kernel⟩
abbrev mX2_letVWin : Me := (yX2_letVWin, cX2_letVWin, 5, none, 0, 0)
theorem kX2_letVWin : CalV mX2_letVWin 0 := ⟨im_X2_letVWin, se_X2_letVWin, in_RX2, cd_X2_letVWin, by decide +kernel⟩
abbrev mX2_takeNext : Me := (yX2_takeNext, cX2_takeNext, 2, none, 1, 24)
theorem kX2_takeNext : CalV mX2_takeNext 0 := ⟨im_X2_takeNext, se_X2_takeNext, in_RX2, cd_X2_takeNext, by decide +kernel⟩
abbrev mX2_rankOfNext : Me := (yX2_rankOfNext, cX2_rankOfNext, 5, some .int, 0, 0)
theorem kX2_rankOfNext : CalV mX2_rankOfNext 0 := ⟨im_X2_rankOfNext, se_X2_rankOfNext, in_RX2, cd_X2_rankOfNext, by decide +kernel⟩
abbrev mX2_packNext : Me := (yX2_packNext, cX2_packNext, 3, some .int, 0, 0)
theorem kX2_packNext : CalV mX2_packNext 0 := ⟨im_X2_packNext, se_X2_packNext, in_RX2, cd_X2_packNext, by decide +kernel⟩
abbrev mX2_unpack : Me := (yX2_unpack, cX2_unpack, 3, none, 0, 0)
theorem kX2_unpack : CalV mX2_unpack 1 := ⟨im_X2_unpack, se_X2_unpack, in_RX2, cd_X2_unpack, by decide +kernel⟩
abbrev mX3_init : Me := (yX3_init, cX3_init, 1, none, 1, 26)
abbrev mX3_layFrom : Me := (yX3_layFrom, cX3_layFrom, 5, none, 0, 0)
theorem kX3_layFrom : CalV mX3_layFrom 2 := ⟨im_X3_layFrom, se_X3_layFrom, in_RX3, cd_X3_layFrom, by decide +kernel⟩
abbrev mX3_copyFrom : Me := (yX3_copyFrom, cX3_copyFrom, 2, none, 1, 26)
theorem kX3_copyFrom : CalV mX3_copyFrom 1 := ⟨im_X3_copyFrom, se_X3_copyFrom, in_RX3, cd_X3_copyFrom, by decide +kernel⟩
abbrev mX3_partedAt : Me := (yX3_partedAt, cX3_partedAt, 4, some .int, 0, 0)
theorem kX3_partedAt : CalV mX3_partedAt 0 := ⟨im_X3_partedAt, se_X3_partedAt, in_RX3, cd_X3_partedAt, by decide +kernel⟩
abbrev mX3_advance : Me := (yX3_advance, cX3_advance, 7, some .int, 2, 46)
theorem kX3_advance : CalV mX3_advance 0 := ⟨im_X3_advance, se_X3_advance, in_RX3, cd_X3_advance, by decide +kernel⟩
abbrev mX3_hasOrdersOf : Me := (yX3_hasOrdersOf, cX3_hasOrdersOf, 3, some .boolean, 0, 0)
theorem kX3_hasOrdersOf : CalV mX3_hasOrdersOf 1 := ⟨im_X3_hasOrdersOf, se_X3_hasOrdersOf, in_RX3, cd_X3_hasOrdersOf, by decide +kernel⟩
abbrev mX3_hasSharesOf : Me := (yX3_hasSharesOf, cX3_hasSharesOf, 3, some .boolean, 1, 22)
theorem kX3_hasSharesOf : CalV mX3_hasSharesOf 1 := ⟨im_X3_hasSharesOf, se_X3_hasSharesOf, in_RX3, cd_X3_hasSharesOf, by decide +kernel⟩
abbrev mX3_productA : Me := (yX3_productA, cX3_productA, 3, some .long, 0, 0)
theorem kX3_productA : CalV mX3_productA 2 := ⟨im_X3_productA, se_X3_productA, in_RX3, cd_X3_productA, by decide +kernel⟩
abbrev mX3_productB : Me := (yX3_productB, cX3_productB, 3, some .long, 0, 0)
theorem kX3_productB : CalV mX3_productB 2 := ⟨im_X3_productB, se_X3_productB, in_RX3, cd_X3_productB, by decide +kernel⟩
abbrev mX3_isSpentBy : Me := (yX3_isSpentBy, cX3_isSpentBy, 5, some .boolean, 1, 22)
theorem kX3_isSpentBy : CalV mX3_isSpentBy 2 := ⟨im_X3_isSpentBy, se_X3_isSpentBy, in_RX3, cd_X3_isSpentBy, by decide +kernel⟩
abbrev mX3_shorten : Me := (yX3_shorten, cX3_shorten, 5, none, 0, 0)
theorem kX3_shorten : CalV mX3_shorten 2 := ⟨im_X3_shorten, se_X3_shorten, in_RX3, cd_X3_shorten, by decide +kernel⟩
abbrev mX3_bringLastBehind : Me := (yX3_bringLastBehind, cX3_bringLastBehind, 5, none, 0, 0)
theorem kX3_bringLastBehind : CalV mX3_bringLastBehind 2 := ⟨im_X3_bringLastBehind, se_X3_bringLastBehind, in_RX3, cd_X3_bringLastBehind, by decide +kernel⟩
abbrev mX4_init : Me := (yX4_init, cX4_init, 1, none, 1, 26)
abbrev mX4_clear : Me := (yX4_clear, cX4_clear, 2, none, 0, 0)
theorem kX4_clear : CalV mX4_clear 0 := ⟨im_X4_clear, se_X4_clear, in_RX4, cd_X4_clear, by decide +kernel⟩
abbrev mX4_takeOrder : Me := (yX4_takeOrder, cX4_takeOrder, 5, some .boolean, 1, 21)
theorem kX4_takeOrder : CalV mX4_takeOrder 2 := ⟨im_X4_takeOrder, se_X4_takeOrder, in_RX4, cd_X4_takeOrder, by decide +kernel⟩
abbrev mX4_hasAllLengths : Me := (yX4_hasAllLengths, cX4_hasAllLengths, 2, some .boolean, 0, 0)
theorem kX4_hasAllLengths : CalV mX4_hasAllLengths 0 := ⟨im_X4_hasAllLengths, se_X4_hasAllLengths, in_RX4, cd_X4_hasAllLengths, by decide +kernel⟩
abbrev mX4_nibble : Me := (yX4_nibble, cX4_nibble, 2, some .int, 0, 0)
theorem kX4_nibble : CalS mX4_nibble 2 := ⟨sm_X4_nibble, in_RX4, cd_X4_nibble, by decide +kernel⟩
abbrev mX5_init : Me := (yX5_init, cX5_init, 1, none, 1, 26)
abbrev mX5_put : Me := (yX5_put, cX5_put, 5, none, 0, 0)
theorem kX5_put : CalV mX5_put 2 := ⟨im_X5_put, se_X5_put, in_RX5, cd_X5_put, by decide +kernel⟩
abbrev mX6_init : Me := (yX6_init, cX6_init, 1, none, 1, 26)
abbrev mX6_draw : Me := (yX6_draw, cX6_draw, 10, none, 0, 0)
theorem kX6_draw : CalV mX6_draw 3 := ⟨im_X6_draw, se_X6_draw, in_RX6, cd_X6_draw, by decide +kernel⟩
abbrev mX6_covers : Me := (yX6_covers, cX6_covers, 5, some .boolean, 2, 51)
theorem kX6_covers : CalV mX6_covers 2 := ⟨im_X6_covers, se_X6_covers, in_RX6, cd_X6_covers, by decide +kernel⟩
abbrev mX6_spanAt : Me := (yX6_spanAt, cX6_spanAt, 3, some .int, 2, 51)
theorem kX6_spanAt : CalV mX6_spanAt 1 := ⟨im_X6_spanAt, se_X6_spanAt, in_RX6, cd_X6_spanAt, by decide +kernel⟩
abbrev mX6_carry : Me := (yX6_carry, cX6_carry, 2, some .boolean, 3, 73)
theorem kX6_carry : CalV mX6_carry 1 := ⟨im_X6_carry, se_X6_carry, in_RX6, cd_X6_carry, by decide +kernel⟩
abbrev mX6_shift : Me := (yX6_shift, cX6_shift, 3, some .boolean, 1, 22)
theorem kX6_shift : CalV mX6_shift 2 := ⟨im_X6_shift, se_X6_shift, in_RX6, cd_X6_shift, by decide +kernel⟩
abbrev mX6_isLeftEnd : Me := (yX6_isLeftEnd, cX6_isLeftEnd, 3, some .boolean, 0, 0)
theorem kX6_isLeftEnd : CalV mX6_isLeftEnd 1 := ⟨im_X6_isLeftEnd, se_X6_isLeftEnd, in_RX6, cd_X6_isLeftEnd, by decide +kernel⟩
abbrev mX6_isLeftOf : Me := (yX6_isLeftOf, cX6_isLeftOf, 6, some .boolean, 1, 26)
theorem kX6_isLeftOf : CalV mX6_isLeftOf 3 := ⟨im_X6_isLeftOf, se_X6_isLeftOf, in_RX6, cd_X6_isLeftOf, by decide +kernel⟩
abbrev mX7_init : Me := (yX7_init, cX7_init, 1, none, 2, 46)
abbrev mX7_root : Me := (yX7_root, cX7_root, 2, some .boolean, 1, 21)
theorem kX7_root : CalV mX7_root 1 := ⟨im_X7_root, se_X7_root, in_RX7, cd_X7_root, by decide +kernel⟩
abbrev mX7_length : Me := (yX7_length, cX7_length, 4, some .boolean, 2, 45)
theorem kX7_length : CalV mX7_length 3 := ⟨im_X7_length, se_X7_length, in_RX7, cd_X7_length, by decide +kernel⟩
abbrev mX7_below : Me := (yX7_below, cX7_below, 3, some .boolean, 2, 45)
theorem kX7_below : CalV mX7_below 2 := ⟨im_X7_below, se_X7_below, in_RX7, cd_X7_below, by decide +kernel⟩
abbrev mX7_lay : Me := (yX7_lay, cX7_lay, 1, some .int, 2, 49)
theorem kX7_lay : CalV mX7_lay 0 := ⟨im_X7_lay, se_X7_lay, in_RX7, cd_X7_lay, by decide +kernel⟩
abbrev mX7_of : Me := (yX7_of, cX7_of, 2, some .int, 1, 23)
theorem kX7_of : CalV mX7_of 1 := ⟨im_X7_of, se_X7_of, in_RX7, cd_X7_of, by decide +kernel⟩
abbrev mX7_spans : Me := (yX7_spans, cX7_spans, 3, some .long, 0, 0)
theorem kX7_spans : CalV mX7_spans 2 := ⟨im_X7_spans, se_X7_spans, in_RX7, cd_X7_spans, by decide +kernel⟩
abbrev mX7_order : Me := (yX7_order, cX7_order, 3, some .int, 0, 0)
theorem kX7_order : CalV mX7_order 2 := ⟨im_X7_order, se_X7_order, in_RX7, cd_X7_order, by decide +kernel⟩
abbrev mX7_point : Me := (yX7_point, cX7_point, 3, some .int, 3, 75)
theorem kX7_point : CalV mX7_point 2 := ⟨im_X7_point, se_X7_point, in_RX7, cd_X7_point, by decide +kernel⟩
abbrev mX7_move : Me := (yX7_move, cX7_move, 5, some .int, 4, 94)
theorem kX7_move : CalV mX7_move 1 := ⟨im_X7_move, se_X7_move, in_RX7, cd_X7_move, by decide +kernel⟩
abbrev mX7_where : Me := (yX7_where, cX7_where, 2, some .long, 0, 0)
theorem kX7_where : CalV mX7_where 1 := ⟨im_X7_where, se_X7_where, in_RX7, cd_X7_where, by decide +kernel⟩
abbrev mX7_back : Me := (yX7_back, cX7_back, 4, some .int, 4, 94)
theorem kX7_back : CalV mX7_back 2 := ⟨im_X7_back, se_X7_back, in_RX7, cd_X7_back, by decide +kernel⟩
abbrev mX7_visits : Me := (yX7_visits, cX7_visits, 6, some .int, 3, 73)
theorem kX7_visits : CalV mX7_visits 2 := ⟨im_X7_visits, se_X7_visits, in_RX7, cd_X7_visits, by decide +kernel⟩
abbrev mX7_step : Me := (yX7_step, cX7_step, 2, some .int, 4, 95)
theorem kX7_step : CalV mX7_step 0 := ⟨im_X7_step, se_X7_step, in_RX7, cd_X7_step, by decide +kernel⟩
abbrev mX7_steps : Me := (yX7_steps, cX7_steps, 3, some .int, 4, 95)
theorem kX7_steps : CalV mX7_steps 1 := ⟨im_X7_steps, se_X7_steps, in_RX7, cd_X7_steps, by decide +kernel⟩
abbrev mX7_table : Me := (yX7_table, cX7_table, 3, some .long, 0, 0)
theorem kX7_table : CalV mX7_table 2 := ⟨im_X7_table, se_X7_table, in_RX7, cd_X7_table, by decide +kernel⟩
abbrev mX7_loop : Me := (yX7_loop, cX7_loop, 2, some .int, 3, 72)
theorem kX7_loop : CalV mX7_loop 0 := ⟨im_X7_loop, se_X7_loop, in_RX7, cd_X7_loop, by decide +kernel⟩
abbrev mX7_rounds : Me := (yX7_rounds, cX7_rounds, 3, some .int, 3, 74)
theorem kX7_rounds : CalV mX7_rounds 0 := ⟨im_X7_rounds, se_X7_rounds, in_RX7, cd_X7_rounds, by decide +kernel⟩
abbrev mX7_round : Me := (yX7_round, cX7_round, 3, some .int, 0, 0)
theorem kX7_round : CalV mX7_round 2 := ⟨im_X7_round, se_X7_round, in_RX7, cd_X7_round, by decide +kernel⟩
abbrev mX7_words : Me := (yX7_words, cX7_words, 4, some .int, 5, 117)
theorem kX7_words : CalV mX7_words 1 := ⟨im_X7_words, se_X7_words, in_RX7, cd_X7_words, by decide +kernel⟩
abbrev mX7_classes : Me := (yX7_classes, cX7_classes, 1, some .int, 3, 67)
theorem kX7_classes : CalV mX7_classes 0 := ⟨im_X7_classes, se_X7_classes, in_RX7, cd_X7_classes, by decide +kernel⟩
abbrev mX7_ground : Me := (yX7_ground, cX7_ground, 2, some .int, 2, 48)
theorem kX7_ground : CalV mX7_ground 1 := ⟨im_X7_ground, se_X7_ground, in_RX7, cd_X7_ground, by decide +kernel⟩
abbrev mX7_canBe : Me := (yX7_canBe, cX7_canBe, 4, some .boolean, 1, 22)
theorem kX7_canBe : CalV mX7_canBe 3 := ⟨im_X7_canBe, se_X7_canBe, in_RX7, cd_X7_canBe, by decide +kernel⟩
abbrev mX7_drawWays : Me := (yX7_drawWays, cX7_drawWays, 1, none, 1, 29)
theorem kX7_drawWays : CalV mX7_drawWays 0 := ⟨im_X7_drawWays, se_X7_drawWays, in_RX7, cd_X7_drawWays, by decide +kernel⟩
abbrev mX7_followMover : Me := (yX7_followMover, cX7_followMover, 1, none, 3, 75)
theorem kX7_followMover : CalV mX7_followMover 0 := ⟨im_X7_followMover, se_X7_followMover, in_RX7, cd_X7_followMover, by decide +kernel⟩
abbrev mX7_beginningsBehind : Me := (yX7_beginningsBehind, cX7_beginningsBehind, 4, some .int, 4, 94)
theorem kX7_beginningsBehind : CalV mX7_beginningsBehind 2 := ⟨im_X7_beginningsBehind, se_X7_beginningsBehind, in_RX7, cd_X7_beginningsBehind, by decide +kernel⟩
abbrev mX7_isWithin : Me := (yX7_isWithin, cX7_isWithin, 3, some .boolean, 0, 0)
theorem kX7_isWithin : CalS mX7_isWithin 2 := ⟨sm_X7_isWithin, in_RX7, cd_X7_isWithin, by decide +kernel⟩
abbrev mX7_signOf : Me := (yX7_signOf, cX7_signOf, 7, some .int, 0, 0)
theorem kX7_signOf : CalS mX7_signOf 3 := ⟨sm_X7_signOf, in_RX7, cd_X7_signOf, by decide +kernel⟩
abbrev mX8_init : Me := (yX8_init, cX8_init, 1, none, 1, 26)
abbrev mX8_signOf : Me := (yX8_signOf, cX8_signOf, 9, some .int, 0, 0)
theorem kX8_signOf : CalV mX8_signOf 2 := ⟨im_X8_signOf, se_X8_signOf, in_RX8, cd_X8_signOf, by decide +kernel⟩
abbrev mX8_forgets : Me := (yX8_forgets, cX8_forgets, 2, none, 0, 0)
theorem kX8_forgets : CalV mX8_forgets 0 := ⟨im_X8_forgets, se_X8_forgets, in_RX8, cd_X8_forgets, by decide +kernel⟩
abbrev mX8_root : Me := (yX8_root, cX8_root, 2, some .boolean, 1, 21)
theorem kX8_root : CalV mX8_root 1 := ⟨im_X8_root, se_X8_root, in_RX8, cd_X8_root, by decide +kernel⟩
abbrev mX8_isIn : Me := (yX8_isIn, cX8_isIn, 4, some .boolean, 0, 0)
theorem kX8_isIn : CalS mX8_isIn 2 := ⟨sm_X8_isIn, in_RX8, cd_X8_isIn, by decide +kernel⟩
abbrev mX8_length : Me := (yX8_length, cX8_length, 4, some .boolean, 1, 28)
theorem kX8_length : CalV mX8_length 3 := ⟨im_X8_length, se_X8_length, in_RX8, cd_X8_length, by decide +kernel⟩
abbrev mX8_below : Me := (yX8_below, cX8_below, 6, some .boolean, 0, 0)
theorem kX8_below : CalV mX8_below 2 := ⟨im_X8_below, se_X8_below, in_RX8, cd_X8_below, by decide +kernel⟩
abbrev mX8_lay : Me := (yX8_lay, cX8_lay, 3, some .int, 0, 0)
theorem kX8_lay : CalV mX8_lay 0 := ⟨im_X8_lay, se_X8_lay, in_RX8, cd_X8_lay, by decide +kernel⟩
abbrev mX8_parted : Me := (yX8_parted, cX8_parted, 4, some .int, 0, 0)
theorem kX8_parted : CalV mX8_parted 0 := ⟨im_X8_parted, se_X8_parted, in_RX8, cd_X8_parted, by decide +kernel⟩
abbrev mX8_of : Me := (yX8_of, cX8_of, 2, some .int, 1, 23)
theorem kX8_of : CalV mX8_of 1 := ⟨im_X8_of, se_X8_of, in_RX8, cd_X8_of, by decide +kernel⟩
abbrev mX8_total : Me := (yX8_total, cX8_total, 5, some .long, 0, 0)
theorem kX8_total : CalV mX8_total 1 := ⟨im_X8_total, se_X8_total, in_RX8, cd_X8_total, by decide +kernel⟩
abbrev mX8_spans : Me := (yX8_spans, cX8_spans, 3, some .long, 1, 24)
theorem kX8_spans : CalV mX8_spans 2 := ⟨im_X8_spans, se_X8_spans, in_RX8, cd_X8_spans, by decide +kernel⟩
abbrev mX8_order : Me := (yX8_order, cX8_order, 3, some .int, 0, 0)
theorem kX8_order : CalV mX8_order 2 := ⟨im_X8_order, se_X8_order, in_RX8, cd_X8_order, by decide +kernel⟩
abbrev mX8_spanAt : Me := (yX8_spanAt, cX8_spanAt, 8, some .int, 1, 28)
theorem kX8_spanAt : CalV mX8_spanAt 3 := ⟨im_X8_spanAt, se_X8_spanAt, in_RX8, cd_X8_spanAt, by decide +kernel⟩
abbrev mX8_begins : Me := (yX8_begins, cX8_begins, 4, none, 0, 0)
theorem kX8_begins : CalV mX8_begins 2 := ⟨im_X8_begins, se_X8_begins, in_RX8, cd_X8_begins, by decide +kernel⟩
abbrev mX8_isOnLine : Me := (yX8_isOnLine, cX8_isOnLine, 5, some .boolean, 1, 28)
theorem kX8_isOnLine : CalV mX8_isOnLine 2 := ⟨im_X8_isOnLine, se_X8_isOnLine, in_RX8, cd_X8_isOnLine, by decide +kernel⟩
abbrev mX8_goes : Me := (yX8_goes, cX8_goes, 7, none, 2, 55)
theorem kX8_goes : CalV mX8_goes 3 := ⟨im_X8_goes, se_X8_goes, in_RX8, cd_X8_goes, by decide +kernel⟩
abbrev mX8_isPoint : Me := (yX8_isPoint, cX8_isPoint, 4, some .boolean, 1, 23)
theorem kX8_isPoint : CalS mX8_isPoint 2 := ⟨sm_X8_isPoint, in_RX8, cd_X8_isPoint, by decide +kernel⟩
abbrev mX8_point : Me := (yX8_point, cX8_point, 3, some .int, 2, 55)
theorem kX8_point : CalV mX8_point 2 := ⟨im_X8_point, se_X8_point, in_RX8, cd_X8_point, by decide +kernel⟩
abbrev mX8_move : Me := (yX8_move, cX8_move, 7, some .int, 3, 81)
theorem kX8_move : CalV mX8_move 1 := ⟨im_X8_move, se_X8_move, in_RX8, cd_X8_move, by decide +kernel⟩
abbrev mX8_where : Me := (yX8_where, cX8_where, 2, some .long, 0, 0)
theorem kX8_where : CalV mX8_where 1 := ⟨im_X8_where, se_X8_where, in_RX8, cd_X8_where, by decide +kernel⟩
abbrev mX8_back : Me := (yX8_back, cX8_back, 8, some .int, 3, 81)
theorem kX8_back : CalV mX8_back 2 := ⟨im_X8_back, se_X8_back, in_RX8, cd_X8_back, by decide +kernel⟩
abbrev mX8_visits : Me := (yX8_visits, cX8_visits, 9, some .int, 3, 81)
theorem kX8_visits : CalV mX8_visits 2 := ⟨im_X8_visits, se_X8_visits, in_RX8, cd_X8_visits, by decide +kernel⟩
abbrev mX8_brings : Me := (yX8_brings, cX8_brings, 6, none, 0, 0)
theorem kX8_brings : CalV mX8_brings 3 := ⟨im_X8_brings, se_X8_brings, in_RX8, cd_X8_brings, by decide +kernel⟩
abbrev mX8_step : Me := (yX8_step, cX8_step, 11, some .int, 2, 52)
theorem kX8_step : CalV mX8_step 0 := ⟨im_X8_step, se_X8_step, in_RX8, cd_X8_step, by decide +kernel⟩
abbrev mX8_steps : Me := (yX8_steps, cX8_steps, 3, some .int, 3, 82)
theorem kX8_steps : CalV mX8_steps 1 := ⟨im_X8_steps, se_X8_steps, in_RX8, cd_X8_steps, by decide +kernel⟩
abbrev mX8_table : Me := (yX8_table, cX8_table, 3, some .long, 0, 0)
theorem kX8_table : CalV mX8_table 2 := ⟨im_X8_table, se_X8_table, in_RX8, cd_X8_table, by decide +kernel⟩
abbrev mX8_isShare : Me := (yX8_isShare, cX8_isShare, 10, some .boolean, 0, 0)
theorem kX8_isShare : CalV mX8_isShare 1 := ⟨im_X8_isShare, se_X8_isShare, in_RX8, cd_X8_isShare, by decide +kernel⟩
abbrev mX8_isLoop : Me := (yX8_isLoop, cX8_isLoop, 2, some .boolean, 1, 29)
theorem kX8_isLoop : CalV mX8_isLoop 0 := ⟨im_X8_isLoop, se_X8_isLoop, in_RX8, cd_X8_isLoop, by decide +kernel⟩
abbrev mX8_loop : Me := (yX8_loop, cX8_loop, 7, some .int, 3, 82)
theorem kX8_loop : CalV mX8_loop 0 := ⟨im_X8_loop, se_X8_loop, in_RX8, cd_X8_loop, by decide +kernel⟩
abbrev mX8_pieces : Me := (yX8_pieces, cX8_pieces, 3, some .int, 3, 81)
theorem kX8_pieces : CalV mX8_pieces 0 := ⟨im_X8_pieces, se_X8_pieces, in_RX8, cd_X8_pieces, by decide +kernel⟩
abbrev mX8_isJoined : Me := (yX8_isJoined, cX8_isJoined, 5, some .boolean, 0, 0)
theorem kX8_isJoined : CalV mX8_isJoined 2 := ⟨im_X8_isJoined, se_X8_isJoined, in_RX8, cd_X8_isJoined, by decide +kernel⟩
abbrev mX8_rounds : Me := (yX8_rounds, cX8_rounds, 8, some .int, 4, 103)
theorem kX8_rounds : CalV mX8_rounds 0 := ⟨im_X8_rounds, se_X8_rounds, in_RX8, cd_X8_rounds, by decide +kernel⟩
abbrev mX8_round : Me := (yX8_round, cX8_round, 3, some .int, 0, 0)
theorem kX8_round : CalV mX8_round 2 := ⟨im_X8_round, se_X8_round, in_RX8, cd_X8_round, by decide +kernel⟩
abbrev mX8_words : Me := (yX8_words, cX8_words, 15, some .int, 3, 81)
theorem kX8_words : CalV mX8_words 1 := ⟨im_X8_words, se_X8_words, in_RX8, cd_X8_words, by decide +kernel⟩
abbrev mX8_numbered : Me := (yX8_numbered, cX8_numbered, 4, some .int, 0, 0)
theorem kX8_numbered : CalV mX8_numbered 0 := ⟨im_X8_numbered, se_X8_numbered, in_RX8, cd_X8_numbered, by decide +kernel⟩
abbrev mX8_notes : Me := (yX8_notes, cX8_notes, 3, none, 0, 0)
theorem kX8_notes : CalV mX8_notes 1 := ⟨im_X8_notes, se_X8_notes, in_RX8, cd_X8_notes, by decide +kernel⟩
abbrev mX8_takes : Me := (yX8_takes, cX8_takes, 3, none, 0, 0)
theorem kX8_takes : CalV mX8_takes 1 := ⟨im_X8_takes, se_X8_takes, in_RX8, cd_X8_takes, by decide +kernel⟩
abbrev mX8_classes : Me := (yX8_classes, cX8_classes, 5, some .int, 1, 25)
theorem kX8_classes : CalV mX8_classes 0 := ⟨im_X8_classes, se_X8_classes, in_RX8, cd_X8_classes, by decide +kernel⟩
abbrev mX8_cornerOf : Me := (yX8_cornerOf, cX8_cornerOf, 3, some .int, 0, 0)
theorem kX8_cornerOf : CalV mX8_cornerOf 2 := ⟨im_X8_cornerOf, se_X8_cornerOf, in_RX8, cd_X8_cornerOf, by decide +kernel⟩
abbrev mX8_glues : Me := (yX8_glues, cX8_glues, 6, none, 0, 0)
theorem kX8_glues : CalV mX8_glues 2 := ⟨im_X8_glues, se_X8_glues, in_RX8, cd_X8_glues, by decide +kernel⟩
abbrev mX8_placeOf : Me := (yX8_placeOf, cX8_placeOf, 4, some .int, 0, 0)
theorem kX8_placeOf : CalV mX8_placeOf 2 := ⟨im_X8_placeOf, se_X8_placeOf, in_RX8, cd_X8_placeOf, by decide +kernel⟩
abbrev mX8_ground : Me := (yX8_ground, cX8_ground, 9, some .int, 1, 25)
theorem kX8_ground : CalV mX8_ground 1 := ⟨im_X8_ground, se_X8_ground, in_RX8, cd_X8_ground, by decide +kernel⟩
theorem nest1 : ∀ U : State, NW U → va_Nw (.methodLinkNest RX6 45 yX7_signOf RX7) U := fun _ h => h.1
theorem nest2 : ∀ U : State, NW U → va_Nw (.methodLinkNest RX6 71 yX7_isWithin RX7) U := fun _ h => h.2.1
theorem nest3 : ∀ U : State, NW U → va_Nw (.methodLinkNest RX3 53 yX7_signOf RX7) U := fun _ h => h.2.2.1
theorem nest4 : ∀ U : State, NW U → va_Nw (.methodLinkNest RX3 76 yX7_isWithin RX7) U := fun _ h => h.2.2.2
theorem upTo {P : Nat → Prop} (n : Nat) (h : ∀ k, k ≤ n → (∀ j, k < j → j ≤ n → P j) → P k) : ∀ k, k ≤ n → P k := by
  have key : ∀ d k, k + d = n → P k := by
    intro d
    induction d using Nat.strongRecOn with
    | _ d ih =>
      intro k hk
      exact h k (by omega) (fun j hj hn => ih (n - j) (by omega) j (by omega))
  intro k hk
  exact key (n - k) k (by omega)
theorem downTo {P : Nat → Prop} (h : ∀ k, (∀ j, j < k → P j) → P k) : ∀ k, P k := fun k => Nat.strongRecOn k h
end
section
theorem kE {K : AV → Mm → Prop} {X : Mm} {v w : Int} (h : K (vI v) X) (e : v = w) : K (vI w) X := e ▸ h
theorem kEJ {K : AV → Mm → Prop} {X : Mm} {v w : Int} (h : K (vJ v) X) (e : v = w) : K (vJ w) X := e ▸ h
theorem sq_bd {a B : Int} (h1 : -B ≤ a) (h2 : a ≤ B) : 0 ≤ a * a ∧ a * a ≤ B * B := by
  have h3 : 0 ≤ (B - a) * (B + a) := Int.mul_nonneg (by omega) (by omega)
  have h4 : (B - a) * (B + a) = B * B - a * a := by
    rw [Int.sub_mul, Int.mul_add, Int.mul_add, Int.mul_comm a B]; omega
  refine ⟨?_, by omega⟩
  rcases Int.le_total 0 a with h | h
  · exact Int.mul_nonneg h h
  · have := Int.mul_nonneg (a := -a) (b := -a) (by omega) (by omega)
    rwa [Int.neg_mul_neg] at this
/-- the sign of a + b times the root of r -/
def sgn (r a b : Int) : Int :=
  if r = 0 ∨ b = 0 then (if 0 < a then 1 else if a < 0 then -1 else 0)
  else if 0 ≤ a ∧ 0 < b then 1
  else if a ≤ 0 ∧ b < 0 then -1
  else if 0 < a then (if r * b * b < a * a then 1 else if a * a < r * b * b then -1 else 0)
  else (if a * a < r * b * b then 1 else if r * b * b < a * a then -1 else 0)
def isRoot (r : Int) : Prop := r = 0 ∨ r = 2 ∨ r = 3 ∨ r = 5 ∨ r = 7
theorem sq_r {r : Nat} (hr : r = 2 ∨ r = 3 ∨ r = 5 ∨ r = 7) : ∀ n : Nat, ∀ a b : Nat, b ≤ n → a * a = r * (b * b) → b = 0 := by
  intro n
  induction n using Nat.strongRecOn with
  | _ n ih =>
    intro a b hb h
    rcases Nat.eq_zero_or_pos b with q | q
    · exact q
    · exfalso
      have key : ∀ x : Nat, (x * x) % r = 0 → x % r = 0 := by
        intro x hx
        rw [Nat.mul_mod] at hx
        have hlt : x % r < r := Nat.mod_lt _ (by omega)
        rcases hr with e | e | e | e <;> subst e
        · rcases (show x % 2 = 0 ∨ x % 2 = 1 by omega) with e | e <;> rw [e] at hx <;> simp at hx <;> omega
        · rcases (show x % 3 = 0 ∨ x % 3 = 1 ∨ x % 3 = 2 by omega) with e | e | e <;> rw [e] at hx <;> simp at hx <;> omega
        · rcases (show x % 5 = 0 ∨ x % 5 = 1 ∨ x % 5 = 2 ∨ x % 5 = 3 ∨ x % 5 = 4 by omega) with e | e | e | e | e <;> rw [e] at hx <;> simp at hx <;> omega
        · rcases (show x % 7 = 0 ∨ x % 7 = 1 ∨ x % 7 = 2 ∨ x % 7 = 3 ∨ x % 7 = 4 ∨ x % 7 = 5 ∨ x % 7 = 6 by omega) with e | e | e | e | e | e | e <;> rw [e] at hx <;> simp at hx <;> omega
      have ha : a % r = 0 := key a (by rw [h]; exact Nat.mul_mod_right _ _)
      obtain ⟨a1, rfl⟩ : ∃ a1, a = r * a1 := ⟨a / r, (Nat.mul_div_cancel' (Nat.dvd_of_mod_eq_zero ha)).symm⟩
      have hrp : 0 < r := by omega
      have h2 : b * b = r * (a1 * a1) := by
        have h3 : r * (r * (a1 * a1)) = r * (b * b) := by rw [← h]; simp only [Nat.mul_assoc, Nat.mul_left_comm]
        exact (Nat.eq_of_mul_eq_mul_left hrp h3).symm
      have hb0 : b % r = 0 := key b (by rw [h2]; exact Nat.mul_mod_right _ _)
      have hab : a1 < b := by
        rcases Nat.lt_or_ge a1 b with z | z
        · exact z
        · exfalso
          have z2 : b * b ≤ a1 * a1 := Nat.mul_le_mul z z
          have z3 : 0 < b * b := Nat.mul_pos q q
          have z4 : 2 * (a1 * a1) ≤ r * (a1 * a1) := Nat.mul_le_mul_right _ (by omega)
          omega
      have h5 := ih a1 (by omega) b a1 (Nat.le_refl _) h2
      have h6 := Nat.mul_pos q q
      rw [h2, h5] at h6
      simp at h6
theorem root_ne {r a b : Int} (hr : isRoot r) (h0 : r ≠ 0) (hb : b ≠ 0) : a * a ≠ r * b * b := by
  intro h
  have h1 : (a.natAbs * a.natAbs : Nat) = r.toNat * (b.natAbs * b.natAbs) := by
    apply Int.ofNat_inj.mp
    rw [Int.natCast_mul, Int.natCast_mul, Int.natCast_mul, Int.natAbs_mul_self' a, Int.natAbs_mul_self' b, Int.toNat_of_nonneg (by unfold isRoot at hr; omega), h, Int.mul_assoc]
  have h2 := sq_r (r := r.toNat) (by unfold isRoot at hr; omega) _ _ _ (Nat.le_refl _) h1
  omega
theorem bb_pos {r b : Int} (hr : isRoot r) (hb : -1073741824 ≤ b ∧ b ≤ 1073741824) : 0 ≤ r * b * b ∧ r * b * b ≤ 8070450532247928832 := by
  have h := sq_bd (a := b) (B := 1073741824) (by omega) (by omega)
  rw [Int.mul_assoc]
  unfold isRoot at hr
  rcases hr with e | e | e | e | e <;> subst e <;> omega
set_option maxRecDepth 100000 in
set_option maxHeartbeats 4000000 in
theorem ct_X7_signOf {l : Launch} {g : Geo} {X : Mm} {K : AV → Mm → Prop} {a b r : Int} (hr : isRoot r) (ha : -1073741824 ≤ a ∧ a ≤ 1073741824) (hb : -1073741824 ≤ b ∧ b ≤ 1073741824) (hk : K (vI (sgn r a b)) X) : Ct l g mX7_signOf [vJ a, vJ b, vI r] X K := by
  refine enter (by decide) (Nat.le_of_ble_eq_true rfl) (fun κ => ?_)
  have h1 := sq_bd (a := a) (B := 1073741824) (by omega) (by omega)
  have h2 := bb_pos hr hb
  have h3 := root_ne (a := a) (b := b) hr
  have hr2 := hr
  unfold isRoot at hr2
  unfold sgn at hk
  refine g_lload_n rfl dX7_signOf_0 ?_
  refine g_lconst rfl dX7_signOf_1 ?_
  refine g_lle (t := 10) dX7_signOf_2 dX7_signOf_3 (by decide) (by first | omega | (simp [st2]; done) | (simp [st2]; omega)) (by first | omega | (simp [st2]; done) | (simp [st2]; omega)) (fun b2 => ?_) (fun b2 => ?_)
  · refine g_lload_n rfl dX7_signOf_10 ?_
    refine g_lconst rfl dX7_signOf_11 ?_
    refine g_lge (t := 20) dX7_signOf_12 dX7_signOf_13 (by decide) (by first | omega | (simp [st2]; done) | (simp [st2]; omega)) (by first | omega | (simp [st2]; done) | (simp [st2]; omega)) (fun b12 => ?_) (fun b12 => ?_)
    · refine g_iconst dX7_signOf_20 ?_
      refine g_istore (by decide) dX7_signOf_21 ?_
      refine g_iload rfl dX7_signOf_23 ?_
      refine g_if_eq (t := 34) dX7_signOf_25 (by decide) (by first | omega | (simp [st2]; done) | (simp [st2]; omega)) (fun b25 => ?_) (fun b25 => ?_)
      · refine g_iload rfl dX7_signOf_34 ?_
        refine g_ireturn rfl dX7_signOf_36 ?_
        refine kE hk ?_
        repeat' split
        all_goals omega
      · refine g_lload_n rfl dX7_signOf_28 ?_
        refine g_lconst rfl dX7_signOf_29 ?_
        refine g_lne (t := 37) dX7_signOf_30 dX7_signOf_31 (by decide) (by first | omega | (simp [st2]; done) | (simp [st2]; omega)) (by first | omega | (simp [st2]; done) | (simp [st2]; omega)) (fun b30 => ?_) (fun b30 => ?_)
        · refine g_lload_n rfl dX7_signOf_37 ?_
          refine g_lconst rfl dX7_signOf_38 ?_
          refine g_lle (t := 47) dX7_signOf_39 dX7_signOf_40 (by decide) (by first | omega | (simp [st2]; done) | (simp [st2]; omega)) (by first | omega | (simp [st2]; done) | (simp [st2]; omega)) (fun b39 => ?_) (fun b39 => ?_)
          · refine g_iconst dX7_signOf_47 ?_
            refine g_istore (by decide) dX7_signOf_48 ?_
            refine g_iload rfl dX7_signOf_50 ?_
            refine g_if_eq (t := 62) dX7_signOf_52 (by decide) (by first | omega | (simp [st2]; done) | (simp [st2]; omega)) (fun b52 => ?_) (fun b52 => ?_)
            · refine g_iload rfl dX7_signOf_62 ?_
              refine g_ireturn rfl dX7_signOf_64 ?_
              refine kE hk ?_
              repeat' split
              all_goals omega
            · refine g_iload rfl dX7_signOf_55 ?_
              refine g_iload rfl dX7_signOf_57 ?_
              refine g_icmp_ne (t := 65) dX7_signOf_59 (by decide) (by first | omega | (simp [st2]; done) | (simp [st2]; omega)) (by first | omega | (simp [st2]; done) | (simp [st2]; omega)) (fun b59 => ?_) (fun b59 => ?_)
              · refine g_lload_n rfl dX7_signOf_65 ?_
                refine g_lload_n rfl dX7_signOf_66 ?_
                refine g_lmul dX7_signOf_67 ?_
                refine g_iload rfl dX7_signOf_68 ?_
                refine g_i2l (by first | omega | (simp [st2]; done) | (simp [st2]; omega)) dX7_signOf_70 ?_
                refine g_lload_n rfl dX7_signOf_71 ?_
                refine g_lmul dX7_signOf_72 ?_
                refine g_lload_n rfl dX7_signOf_73 ?_
                refine g_lmul dX7_signOf_74 ?_
                refine g_lle (t := 84) dX7_signOf_75 dX7_signOf_76 (by decide) (by first | omega | (simp [st2]; done) | (simp [st2]; omega)) (by first | omega | (simp [st2]; done) | (simp [st2]; omega)) (fun b75 => ?_) (fun b75 => ?_)
                · refine g_iload rfl dX7_signOf_84 ?_
                  refine g_ireturn rfl dX7_signOf_86 ?_
                  refine kE hk ?_
                  repeat' split
                  all_goals omega
                · refine g_iload rfl dX7_signOf_79 ?_
                  refine g_goto (t := 86) dX7_signOf_81 (by decide) ?_
                  refine g_ireturn rfl dX7_signOf_86 ?_
                  refine kE hk ?_
                  repeat' split
                  all_goals omega
              · refine g_iload rfl dX7_signOf_62 ?_
                refine g_ireturn rfl dX7_signOf_64 ?_
                refine kE hk ?_
                repeat' split
                all_goals omega
          · refine g_iconst dX7_signOf_43 ?_
            refine g_goto (t := 48) dX7_signOf_44 (by decide) ?_
            refine g_istore (by decide) dX7_signOf_48 ?_
            refine g_iload rfl dX7_signOf_50 ?_
            refine g_if_eq (t := 62) dX7_signOf_52 (by decide) (by first | omega | (simp [st2]; done) | (simp [st2]; omega)) (fun b52 => ?_) (fun b52 => ?_)
            · refine g_iload rfl dX7_signOf_62 ?_
              refine g_ireturn rfl dX7_signOf_64 ?_
              refine kE hk ?_
              repeat' split
              all_goals omega
            · refine g_iload rfl dX7_signOf_55 ?_
              refine g_iload rfl dX7_signOf_57 ?_
              refine g_icmp_ne (t := 65) dX7_signOf_59 (by decide) (by first | omega | (simp [st2]; done) | (simp [st2]; omega)) (by first | omega | (simp [st2]; done) | (simp [st2]; omega)) (fun b59 => ?_) (fun b59 => ?_)
              · refine g_lload_n rfl dX7_signOf_65 ?_
                refine g_lload_n rfl dX7_signOf_66 ?_
                refine g_lmul dX7_signOf_67 ?_
                refine g_iload rfl dX7_signOf_68 ?_
                refine g_i2l (by first | omega | (simp [st2]; done) | (simp [st2]; omega)) dX7_signOf_70 ?_
                refine g_lload_n rfl dX7_signOf_71 ?_
                refine g_lmul dX7_signOf_72 ?_
                refine g_lload_n rfl dX7_signOf_73 ?_
                refine g_lmul dX7_signOf_74 ?_
                refine g_lle (t := 84) dX7_signOf_75 dX7_signOf_76 (by decide) (by first | omega | (simp [st2]; done) | (simp [st2]; omega)) (by first | omega | (simp [st2]; done) | (simp [st2]; omega)) (fun b75 => ?_) (fun b75 => ?_)
                · refine g_iload rfl dX7_signOf_84 ?_
                  refine g_ireturn rfl dX7_signOf_86 ?_
                  refine kE hk ?_
                  repeat' split
                  all_goals omega
                · refine g_iload rfl dX7_signOf_79 ?_
                  refine g_goto (t := 86) dX7_signOf_81 (by decide) ?_
                  refine g_ireturn rfl dX7_signOf_86 ?_
                  refine kE hk ?_
                  repeat' split
                  all_goals omega
              · refine g_iload rfl dX7_signOf_62 ?_
                refine g_ireturn rfl dX7_signOf_64 ?_
                refine kE hk ?_
                repeat' split
                all_goals omega
        · refine g_iload rfl dX7_signOf_34 ?_
          refine g_ireturn rfl dX7_signOf_36 ?_
          refine kE hk ?_
          repeat' split
          all_goals omega
    · refine g_iconst dX7_signOf_16 ?_
      refine g_goto (t := 21) dX7_signOf_17 (by decide) ?_
      refine g_istore (by decide) dX7_signOf_21 ?_
      refine g_iload rfl dX7_signOf_23 ?_
      refine g_if_eq (t := 34) dX7_signOf_25 (by decide) (by first | omega | (simp [st2]; done) | (simp [st2]; omega)) (fun b25 => ?_) (fun b25 => ?_)
      · refine g_iload rfl dX7_signOf_34 ?_
        refine g_ireturn rfl dX7_signOf_36 ?_
        refine kE hk ?_
        repeat' split
        all_goals omega
      · refine g_lload_n rfl dX7_signOf_28 ?_
        refine g_lconst rfl dX7_signOf_29 ?_
        refine g_lne (t := 37) dX7_signOf_30 dX7_signOf_31 (by decide) (by first | omega | (simp [st2]; done) | (simp [st2]; omega)) (by first | omega | (simp [st2]; done) | (simp [st2]; omega)) (fun b30 => ?_) (fun b30 => ?_)
        · refine g_lload_n rfl dX7_signOf_37 ?_
          refine g_lconst rfl dX7_signOf_38 ?_
          refine g_lle (t := 47) dX7_signOf_39 dX7_signOf_40 (by decide) (by first | omega | (simp [st2]; done) | (simp [st2]; omega)) (by first | omega | (simp [st2]; done) | (simp [st2]; omega)) (fun b39 => ?_) (fun b39 => ?_)
          · refine g_iconst dX7_signOf_47 ?_
            refine g_istore (by decide) dX7_signOf_48 ?_
            refine g_iload rfl dX7_signOf_50 ?_
            refine g_if_eq (t := 62) dX7_signOf_52 (by decide) (by first | omega | (simp [st2]; done) | (simp [st2]; omega)) (fun b52 => ?_) (fun b52 => ?_)
            · refine g_iload rfl dX7_signOf_62 ?_
              refine g_ireturn rfl dX7_signOf_64 ?_
              refine kE hk ?_
              repeat' split
              all_goals omega
            · refine g_iload rfl dX7_signOf_55 ?_
              refine g_iload rfl dX7_signOf_57 ?_
              refine g_icmp_ne (t := 65) dX7_signOf_59 (by decide) (by first | omega | (simp [st2]; done) | (simp [st2]; omega)) (by first | omega | (simp [st2]; done) | (simp [st2]; omega)) (fun b59 => ?_) (fun b59 => ?_)
              · refine g_lload_n rfl dX7_signOf_65 ?_
                refine g_lload_n rfl dX7_signOf_66 ?_
                refine g_lmul dX7_signOf_67 ?_
                refine g_iload rfl dX7_signOf_68 ?_
                refine g_i2l (by first | omega | (simp [st2]; done) | (simp [st2]; omega)) dX7_signOf_70 ?_
                refine g_lload_n rfl dX7_signOf_71 ?_
                refine g_lmul dX7_signOf_72 ?_
                refine g_lload_n rfl dX7_signOf_73 ?_
                refine g_lmul dX7_signOf_74 ?_
                refine g_lle (t := 84) dX7_signOf_75 dX7_signOf_76 (by decide) (by first | omega | (simp [st2]; done) | (simp [st2]; omega)) (by first | omega | (simp [st2]; done) | (simp [st2]; omega)) (fun b75 => ?_) (fun b75 => ?_)
                · refine g_iload rfl dX7_signOf_84 ?_
                  refine g_ireturn rfl dX7_signOf_86 ?_
                  refine kE hk ?_
                  repeat' split
                  all_goals omega
                · refine g_iload rfl dX7_signOf_79 ?_
                  refine g_goto (t := 86) dX7_signOf_81 (by decide) ?_
                  refine g_ireturn rfl dX7_signOf_86 ?_
                  refine kE hk ?_
                  repeat' split
                  all_goals omega
              · refine g_iload rfl dX7_signOf_62 ?_
                refine g_ireturn rfl dX7_signOf_64 ?_
                refine kE hk ?_
                repeat' split
                all_goals omega
          · refine g_iconst dX7_signOf_43 ?_
            refine g_goto (t := 48) dX7_signOf_44 (by decide) ?_
            refine g_istore (by decide) dX7_signOf_48 ?_
            refine g_iload rfl dX7_signOf_50 ?_
            refine g_if_eq (t := 62) dX7_signOf_52 (by decide) (by first | omega | (simp [st2]; done) | (simp [st2]; omega)) (fun b52 => ?_) (fun b52 => ?_)
            · refine g_iload rfl dX7_signOf_62 ?_
              refine g_ireturn rfl dX7_signOf_64 ?_
              refine kE hk ?_
              repeat' split
              all_goals omega
            · refine g_iload rfl dX7_signOf_55 ?_
              refine g_iload rfl dX7_signOf_57 ?_
              refine g_icmp_ne (t := 65) dX7_signOf_59 (by decide) (by first | omega | (simp [st2]; done) | (simp [st2]; omega)) (by first | omega | (simp [st2]; done) | (simp [st2]; omega)) (fun b59 => ?_) (fun b59 => ?_)
              · refine g_lload_n rfl dX7_signOf_65 ?_
                refine g_lload_n rfl dX7_signOf_66 ?_
                refine g_lmul dX7_signOf_67 ?_
                refine g_iload rfl dX7_signOf_68 ?_
                refine g_i2l (by first | omega | (simp [st2]; done) | (simp [st2]; omega)) dX7_signOf_70 ?_
                refine g_lload_n rfl dX7_signOf_71 ?_
                refine g_lmul dX7_signOf_72 ?_
                refine g_lload_n rfl dX7_signOf_73 ?_
                refine g_lmul dX7_signOf_74 ?_
                refine g_lle (t := 84) dX7_signOf_75 dX7_signOf_76 (by decide) (by first | omega | (simp [st2]; done) | (simp [st2]; omega)) (by first | omega | (simp [st2]; done) | (simp [st2]; omega)) (fun b75 => ?_) (fun b75 => ?_)
                · refine g_iload rfl dX7_signOf_84 ?_
                  refine g_ireturn rfl dX7_signOf_86 ?_
                  refine kE hk ?_
                  repeat' split
                  all_goals omega
                · refine g_iload rfl dX7_signOf_79 ?_
                  refine g_goto (t := 86) dX7_signOf_81 (by decide) ?_
                  refine g_ireturn rfl dX7_signOf_86 ?_
                  refine kE hk ?_
                  repeat' split
                  all_goals omega
              · refine g_iload rfl dX7_signOf_62 ?_
                refine g_ireturn rfl dX7_signOf_64 ?_
                refine kE hk ?_
                repeat' split
                all_goals omega
        · refine g_iload rfl dX7_signOf_34 ?_
          refine g_ireturn rfl dX7_signOf_36 ?_
          refine kE hk ?_
          repeat' split
          all_goals omega
  · refine g_iconst dX7_signOf_6 ?_
    refine g_goto (t := 21) dX7_signOf_7 (by decide) ?_
    refine g_istore (by decide) dX7_signOf_21 ?_
    refine g_iload rfl dX7_signOf_23 ?_
    refine g_if_eq (t := 34) dX7_signOf_25 (by decide) (by first | omega | (simp [st2]; done) | (simp [st2]; omega)) (fun b25 => ?_) (fun b25 => ?_)
    · refine g_iload rfl dX7_signOf_34 ?_
      refine g_ireturn rfl dX7_signOf_36 ?_
      refine kE hk ?_
      repeat' split
      all_goals omega
    · refine g_lload_n rfl dX7_signOf_28 ?_
      refine g_lconst rfl dX7_signOf_29 ?_
      refine g_lne (t := 37) dX7_signOf_30 dX7_signOf_31 (by decide) (by first | omega | (simp [st2]; done) | (simp [st2]; omega)) (by first | omega | (simp [st2]; done) | (simp [st2]; omega)) (fun b30 => ?_) (fun b30 => ?_)
      · refine g_lload_n rfl dX7_signOf_37 ?_
        refine g_lconst rfl dX7_signOf_38 ?_
        refine g_lle (t := 47) dX7_signOf_39 dX7_signOf_40 (by decide) (by first | omega | (simp [st2]; done) | (simp [st2]; omega)) (by first | omega | (simp [st2]; done) | (simp [st2]; omega)) (fun b39 => ?_) (fun b39 => ?_)
        · refine g_iconst dX7_signOf_47 ?_
          refine g_istore (by decide) dX7_signOf_48 ?_
          refine g_iload rfl dX7_signOf_50 ?_
          refine g_if_eq (t := 62) dX7_signOf_52 (by decide) (by first | omega | (simp [st2]; done) | (simp [st2]; omega)) (fun b52 => ?_) (fun b52 => ?_)
          · refine g_iload rfl dX7_signOf_62 ?_
            refine g_ireturn rfl dX7_signOf_64 ?_
            refine kE hk ?_
            repeat' split
            all_goals omega
          · refine g_iload rfl dX7_signOf_55 ?_
            refine g_iload rfl dX7_signOf_57 ?_
            refine g_icmp_ne (t := 65) dX7_signOf_59 (by decide) (by first | omega | (simp [st2]; done) | (simp [st2]; omega)) (by first | omega | (simp [st2]; done) | (simp [st2]; omega)) (fun b59 => ?_) (fun b59 => ?_)
            · refine g_lload_n rfl dX7_signOf_65 ?_
              refine g_lload_n rfl dX7_signOf_66 ?_
              refine g_lmul dX7_signOf_67 ?_
              refine g_iload rfl dX7_signOf_68 ?_
              refine g_i2l (by first | omega | (simp [st2]; done) | (simp [st2]; omega)) dX7_signOf_70 ?_
              refine g_lload_n rfl dX7_signOf_71 ?_
              refine g_lmul dX7_signOf_72 ?_
              refine g_lload_n rfl dX7_signOf_73 ?_
              refine g_lmul dX7_signOf_74 ?_
              refine g_lle (t := 84) dX7_signOf_75 dX7_signOf_76 (by decide) (by first | omega | (simp [st2]; done) | (simp [st2]; omega)) (by first | omega | (simp [st2]; done) | (simp [st2]; omega)) (fun b75 => ?_) (fun b75 => ?_)
              · refine g_iload rfl dX7_signOf_84 ?_
                refine g_ireturn rfl dX7_signOf_86 ?_
                refine kE hk ?_
                repeat' split
                all_goals omega
              · refine g_iload rfl dX7_signOf_79 ?_
                refine g_goto (t := 86) dX7_signOf_81 (by decide) ?_
                refine g_ireturn rfl dX7_signOf_86 ?_
                refine kE hk ?_
                repeat' split
                all_goals omega
            · refine g_iload rfl dX7_signOf_62 ?_
              refine g_ireturn rfl dX7_signOf_64 ?_
              refine kE hk ?_
              repeat' split
              all_goals omega
        · refine g_iconst dX7_signOf_43 ?_
          refine g_goto (t := 48) dX7_signOf_44 (by decide) ?_
          refine g_istore (by decide) dX7_signOf_48 ?_
          refine g_iload rfl dX7_signOf_50 ?_
          refine g_if_eq (t := 62) dX7_signOf_52 (by decide) (by first | omega | (simp [st2]; done) | (simp [st2]; omega)) (fun b52 => ?_) (fun b52 => ?_)
          · refine g_iload rfl dX7_signOf_62 ?_
            refine g_ireturn rfl dX7_signOf_64 ?_
            refine kE hk ?_
            repeat' split
            all_goals omega
          · refine g_iload rfl dX7_signOf_55 ?_
            refine g_iload rfl dX7_signOf_57 ?_
            refine g_icmp_ne (t := 65) dX7_signOf_59 (by decide) (by first | omega | (simp [st2]; done) | (simp [st2]; omega)) (by first | omega | (simp [st2]; done) | (simp [st2]; omega)) (fun b59 => ?_) (fun b59 => ?_)
            · refine g_lload_n rfl dX7_signOf_65 ?_
              refine g_lload_n rfl dX7_signOf_66 ?_
              refine g_lmul dX7_signOf_67 ?_
              refine g_iload rfl dX7_signOf_68 ?_
              refine g_i2l (by first | omega | (simp [st2]; done) | (simp [st2]; omega)) dX7_signOf_70 ?_
              refine g_lload_n rfl dX7_signOf_71 ?_
              refine g_lmul dX7_signOf_72 ?_
              refine g_lload_n rfl dX7_signOf_73 ?_
              refine g_lmul dX7_signOf_74 ?_
              refine g_lle (t := 84) dX7_signOf_75 dX7_signOf_76 (by decide) (by first | omega | (simp [st2]; done) | (simp [st2]; omega)) (by first | omega | (simp [st2]; done) | (simp [st2]; omega)) (fun b75 => ?_) (fun b75 => ?_)
              · refine g_iload rfl dX7_signOf_84 ?_
                refine g_ireturn rfl dX7_signOf_86 ?_
                refine kE hk ?_
                repeat' split
                all_goals omega
              · refine g_iload rfl dX7_signOf_79 ?_
                refine g_goto (t := 86) dX7_signOf_81 (by decide) ?_
                refine g_ireturn rfl dX7_signOf_86 ?_
                refine kE hk ?_
                repeat' split
                all_goals omega
            · refine g_iload rfl dX7_signOf_62 ?_
              refine g_ireturn rfl dX7_signOf_64 ?_
              refine kE hk ?_
              repeat' split
              all_goals omega
      · refine g_iload rfl dX7_signOf_34 ?_
        refine g_ireturn rfl dX7_signOf_36 ?_
        refine kE hk ?_
        repeat' split
        all_goals omega
set_option maxRecDepth 100000 in
set_option maxHeartbeats 4000000 in
theorem ct_X8_signOf {l : Launch} {g : Geo} {X : Mm} {K : AV → Mm → Prop} {a b : Int} (hr : isRoot (X 44 0)) (ha : -1073741824 ≤ a ∧ a ≤ 1073741824) (hb : -1073741824 ≤ b ∧ b ≤ 1073741824) (hk : K (vI (sgn (X 44 0) a b)) X) : Ct l g mX8_signOf [vR 44, vJ a, vJ b] X K := by
  refine enter (by decide) (Nat.le_of_ble_eq_true rfl) (fun κ => ?_)
  have h1 := sq_bd (a := a) (B := 1073741824) (by omega) (by omega)
  have h2 := bb_pos hr hb
  have hr2 := hr
  unfold isRoot at hr2
  unfold sgn at hk
  refine g_lload_n rfl dX8_signOf_0 ?_
  refine g_lconst rfl dX8_signOf_1 ?_
  refine g_leq (t := 13) dX8_signOf_2 dX8_signOf_3 (by decide) (by first | omega | (simp [st2]; done) | (simp [st2]; omega)) (by first | omega | (simp [st2]; done) | (simp [st2]; omega)) (fun b2 => ?_) (fun b2 => ?_)
  · refine g_lload_n rfl dX8_signOf_13 ?_
    refine g_lconst rfl dX8_signOf_14 ?_
    refine g_lle (t := 23) dX8_signOf_15 dX8_signOf_16 (by decide) (by first | omega | (simp [st2]; done) | (simp [st2]; omega)) (by first | omega | (simp [st2]; done) | (simp [st2]; omega)) (fun b15 => ?_) (fun b15 => ?_)
    · refine g_lload_n rfl dX8_signOf_23 ?_
      refine g_lconst rfl dX8_signOf_24 ?_
      refine g_lge (t := 33) dX8_signOf_25 dX8_signOf_26 (by decide) (by first | omega | (simp [st2]; done) | (simp [st2]; omega)) (by first | omega | (simp [st2]; done) | (simp [st2]; omega)) (fun b25 => ?_) (fun b25 => ?_)
      · refine g_iconst dX8_signOf_33 ?_
        refine g_ireturn rfl dX8_signOf_34 ?_
        refine kE hk ?_
        repeat' split
        all_goals omega
      · refine g_iconst dX8_signOf_29 ?_
        refine g_goto (t := 34) dX8_signOf_30 (by decide) ?_
        refine g_ireturn rfl dX8_signOf_34 ?_
        refine kE hk ?_
        repeat' split
        all_goals omega
    · refine g_iconst dX8_signOf_19 ?_
      refine g_goto (t := 34) dX8_signOf_20 (by decide) ?_
      refine g_ireturn rfl dX8_signOf_34 ?_
      refine kE hk ?_
      repeat' split
      all_goals omega
  · refine g_aload_n rfl dX8_signOf_6 ?_
    refine gf_X8_87 rfl (by first | rfl | assumption) dX8_signOf_7 ?_
    refine g_if_ne (t := 35) dX8_signOf_10 (by decide) (by first | omega | (simp [st2]; done) | (simp [st2]; omega)) (fun b10 => ?_) (fun b10 => ?_)
    · refine g_lload_n rfl dX8_signOf_35 ?_
      refine g_lconst rfl dX8_signOf_36 ?_
      refine g_llt (t := 49) dX8_signOf_37 dX8_signOf_38 (by decide) (by first | omega | (simp [st2]; done) | (simp [st2]; omega)) (by first | omega | (simp [st2]; done) | (simp [st2]; omega)) (fun b37 => ?_) (fun b37 => ?_)
      · refine g_lload_n rfl dX8_signOf_49 ?_
        refine g_lconst rfl dX8_signOf_50 ?_
        refine g_lgt (t := 63) dX8_signOf_51 dX8_signOf_52 (by decide) (by first | omega | (simp [st2]; done) | (simp [st2]; omega)) (by first | omega | (simp [st2]; done) | (simp [st2]; omega)) (fun b51 => ?_) (fun b51 => ?_)
        · refine g_lload_n rfl dX8_signOf_63 ?_
          refine g_lload_n rfl dX8_signOf_64 ?_
          refine g_lmul dX8_signOf_65 ?_
          refine g_lstore (by decide) dX8_signOf_66 ?_
          refine g_aload_n rfl dX8_signOf_68 ?_
          refine gf_X8_87 rfl (by first | rfl | assumption) dX8_signOf_69 ?_
          refine g_i2l (by first | omega | (simp [st2]; done) | (simp [st2]; omega)) dX8_signOf_72 ?_
          refine g_lload_n rfl dX8_signOf_73 ?_
          refine g_lmul dX8_signOf_74 ?_
          refine g_lload_n rfl dX8_signOf_75 ?_
          refine g_lmul dX8_signOf_76 ?_
          refine g_lstore (by decide) dX8_signOf_77 ?_
          refine g_lload_n rfl dX8_signOf_79 ?_
          refine g_lconst rfl dX8_signOf_80 ?_
          refine g_lle (t := 111) dX8_signOf_81 dX8_signOf_82 (by decide) (by first | omega | (simp [st2]; done) | (simp [st2]; omega)) (by first | omega | (simp [st2]; done) | (simp [st2]; omega)) (fun b81 => ?_) (fun b81 => ?_)
          · refine g_lload rfl dX8_signOf_111 ?_
            refine g_lload rfl dX8_signOf_113 ?_
            refine g_lle (t := 123) dX8_signOf_115 dX8_signOf_116 (by decide) (by first | omega | (simp [st2]; done) | (simp [st2]; omega)) (by first | omega | (simp [st2]; done) | (simp [st2]; omega)) (fun b115 => ?_) (fun b115 => ?_)
            · refine g_lload rfl dX8_signOf_123 ?_
              refine g_lload rfl dX8_signOf_125 ?_
              refine g_lge (t := 135) dX8_signOf_127 dX8_signOf_128 (by decide) (by first | omega | (simp [st2]; done) | (simp [st2]; omega)) (by first | omega | (simp [st2]; done) | (simp [st2]; omega)) (fun b127 => ?_) (fun b127 => ?_)
              · refine g_iconst dX8_signOf_135 ?_
                refine g_ireturn rfl dX8_signOf_136 ?_
                refine kE hk ?_
                repeat' split
                all_goals omega
              · refine g_iconst dX8_signOf_131 ?_
                refine g_goto (t := 136) dX8_signOf_132 (by decide) ?_
                refine g_ireturn rfl dX8_signOf_136 ?_
                refine kE hk ?_
                repeat' split
                all_goals omega
            · refine g_iconst dX8_signOf_119 ?_
              refine g_goto (t := 136) dX8_signOf_120 (by decide) ?_
              refine g_ireturn rfl dX8_signOf_136 ?_
              refine kE hk ?_
              repeat' split
              all_goals omega
          · refine g_lload rfl dX8_signOf_85 ?_
            refine g_lload rfl dX8_signOf_87 ?_
            refine g_lle (t := 97) dX8_signOf_89 dX8_signOf_90 (by decide) (by first | omega | (simp [st2]; done) | (simp [st2]; omega)) (by first | omega | (simp [st2]; done) | (simp [st2]; omega)) (fun b89 => ?_) (fun b89 => ?_)
            · refine g_lload rfl dX8_signOf_97 ?_
              refine g_lload rfl dX8_signOf_99 ?_
              refine g_lge (t := 109) dX8_signOf_101 dX8_signOf_102 (by decide) (by first | omega | (simp [st2]; done) | (simp [st2]; omega)) (by first | omega | (simp [st2]; done) | (simp [st2]; omega)) (fun b101 => ?_) (fun b101 => ?_)
              · refine g_iconst dX8_signOf_109 ?_
                refine g_ireturn rfl dX8_signOf_110 ?_
                refine kE hk ?_
                repeat' split
                all_goals omega
              · refine g_iconst dX8_signOf_105 ?_
                refine g_goto (t := 110) dX8_signOf_106 (by decide) ?_
                refine g_ireturn rfl dX8_signOf_110 ?_
                refine kE hk ?_
                repeat' split
                all_goals omega
            · refine g_iconst dX8_signOf_93 ?_
              refine g_goto (t := 110) dX8_signOf_94 (by decide) ?_
              refine g_ireturn rfl dX8_signOf_110 ?_
              refine kE hk ?_
              repeat' split
              all_goals omega
        · refine g_lload_n rfl dX8_signOf_55 ?_
          refine g_lconst rfl dX8_signOf_56 ?_
          refine g_lge (t := 63) dX8_signOf_57 dX8_signOf_58 (by decide) (by first | omega | (simp [st2]; done) | (simp [st2]; omega)) (by first | omega | (simp [st2]; done) | (simp [st2]; omega)) (fun b57 => ?_) (fun b57 => ?_)
          · refine g_lload_n rfl dX8_signOf_63 ?_
            refine g_lload_n rfl dX8_signOf_64 ?_
            refine g_lmul dX8_signOf_65 ?_
            refine g_lstore (by decide) dX8_signOf_66 ?_
            refine g_aload_n rfl dX8_signOf_68 ?_
            refine gf_X8_87 rfl (by first | rfl | assumption) dX8_signOf_69 ?_
            refine g_i2l (by first | omega | (simp [st2]; done) | (simp [st2]; omega)) dX8_signOf_72 ?_
            refine g_lload_n rfl dX8_signOf_73 ?_
            refine g_lmul dX8_signOf_74 ?_
            refine g_lload_n rfl dX8_signOf_75 ?_
            refine g_lmul dX8_signOf_76 ?_
            refine g_lstore (by decide) dX8_signOf_77 ?_
            refine g_lload_n rfl dX8_signOf_79 ?_
            refine g_lconst rfl dX8_signOf_80 ?_
            refine g_lle (t := 111) dX8_signOf_81 dX8_signOf_82 (by decide) (by first | omega | (simp [st2]; done) | (simp [st2]; omega)) (by first | omega | (simp [st2]; done) | (simp [st2]; omega)) (fun b81 => ?_) (fun b81 => ?_)
            · refine g_lload rfl dX8_signOf_111 ?_
              refine g_lload rfl dX8_signOf_113 ?_
              refine g_lle (t := 123) dX8_signOf_115 dX8_signOf_116 (by decide) (by first | omega | (simp [st2]; done) | (simp [st2]; omega)) (by first | omega | (simp [st2]; done) | (simp [st2]; omega)) (fun b115 => ?_) (fun b115 => ?_)
              · refine g_lload rfl dX8_signOf_123 ?_
                refine g_lload rfl dX8_signOf_125 ?_
                refine g_lge (t := 135) dX8_signOf_127 dX8_signOf_128 (by decide) (by first | omega | (simp [st2]; done) | (simp [st2]; omega)) (by first | omega | (simp [st2]; done) | (simp [st2]; omega)) (fun b127 => ?_) (fun b127 => ?_)
                · refine g_iconst dX8_signOf_135 ?_
                  refine g_ireturn rfl dX8_signOf_136 ?_
                  refine kE hk ?_
                  repeat' split
                  all_goals omega
                · refine g_iconst dX8_signOf_131 ?_
                  refine g_goto (t := 136) dX8_signOf_132 (by decide) ?_
                  refine g_ireturn rfl dX8_signOf_136 ?_
                  refine kE hk ?_
                  repeat' split
                  all_goals omega
              · refine g_iconst dX8_signOf_119 ?_
                refine g_goto (t := 136) dX8_signOf_120 (by decide) ?_
                refine g_ireturn rfl dX8_signOf_136 ?_
                refine kE hk ?_
                repeat' split
                all_goals omega
            · refine g_lload rfl dX8_signOf_85 ?_
              refine g_lload rfl dX8_signOf_87 ?_
              refine g_lle (t := 97) dX8_signOf_89 dX8_signOf_90 (by decide) (by first | omega | (simp [st2]; done) | (simp [st2]; omega)) (by first | omega | (simp [st2]; done) | (simp [st2]; omega)) (fun b89 => ?_) (fun b89 => ?_)
              · refine g_lload rfl dX8_signOf_97 ?_
                refine g_lload rfl dX8_signOf_99 ?_
                refine g_lge (t := 109) dX8_signOf_101 dX8_signOf_102 (by decide) (by first | omega | (simp [st2]; done) | (simp [st2]; omega)) (by first | omega | (simp [st2]; done) | (simp [st2]; omega)) (fun b101 => ?_) (fun b101 => ?_)
                · refine g_iconst dX8_signOf_109 ?_
                  refine g_ireturn rfl dX8_signOf_110 ?_
                  refine kE hk ?_
                  repeat' split
                  all_goals omega
                · refine g_iconst dX8_signOf_105 ?_
                  refine g_goto (t := 110) dX8_signOf_106 (by decide) ?_
                  refine g_ireturn rfl dX8_signOf_110 ?_
                  refine kE hk ?_
                  repeat' split
                  all_goals omega
              · refine g_iconst dX8_signOf_93 ?_
                refine g_goto (t := 110) dX8_signOf_94 (by decide) ?_
                refine g_ireturn rfl dX8_signOf_110 ?_
                refine kE hk ?_
                repeat' split
                all_goals omega
          · refine g_iconst dX8_signOf_61 ?_
            refine g_ireturn rfl dX8_signOf_62 ?_
            refine kE hk ?_
            repeat' split
            all_goals omega
      · refine g_lload_n rfl dX8_signOf_41 ?_
        refine g_lconst rfl dX8_signOf_42 ?_
        refine g_lle (t := 49) dX8_signOf_43 dX8_signOf_44 (by decide) (by first | omega | (simp [st2]; done) | (simp [st2]; omega)) (by first | omega | (simp [st2]; done) | (simp [st2]; omega)) (fun b43 => ?_) (fun b43 => ?_)
        · refine g_lload_n rfl dX8_signOf_49 ?_
          refine g_lconst rfl dX8_signOf_50 ?_
          refine g_lgt (t := 63) dX8_signOf_51 dX8_signOf_52 (by decide) (by first | omega | (simp [st2]; done) | (simp [st2]; omega)) (by first | omega | (simp [st2]; done) | (simp [st2]; omega)) (fun b51 => ?_) (fun b51 => ?_)
          · refine g_lload_n rfl dX8_signOf_63 ?_
            refine g_lload_n rfl dX8_signOf_64 ?_
            refine g_lmul dX8_signOf_65 ?_
            refine g_lstore (by decide) dX8_signOf_66 ?_
            refine g_aload_n rfl dX8_signOf_68 ?_
            refine gf_X8_87 rfl (by first | rfl | assumption) dX8_signOf_69 ?_
            refine g_i2l (by first | omega | (simp [st2]; done) | (simp [st2]; omega)) dX8_signOf_72 ?_
            refine g_lload_n rfl dX8_signOf_73 ?_
            refine g_lmul dX8_signOf_74 ?_
            refine g_lload_n rfl dX8_signOf_75 ?_
            refine g_lmul dX8_signOf_76 ?_
            refine g_lstore (by decide) dX8_signOf_77 ?_
            refine g_lload_n rfl dX8_signOf_79 ?_
            refine g_lconst rfl dX8_signOf_80 ?_
            refine g_lle (t := 111) dX8_signOf_81 dX8_signOf_82 (by decide) (by first | omega | (simp [st2]; done) | (simp [st2]; omega)) (by first | omega | (simp [st2]; done) | (simp [st2]; omega)) (fun b81 => ?_) (fun b81 => ?_)
            · refine g_lload rfl dX8_signOf_111 ?_
              refine g_lload rfl dX8_signOf_113 ?_
              refine g_lle (t := 123) dX8_signOf_115 dX8_signOf_116 (by decide) (by first | omega | (simp [st2]; done) | (simp [st2]; omega)) (by first | omega | (simp [st2]; done) | (simp [st2]; omega)) (fun b115 => ?_) (fun b115 => ?_)
              · refine g_lload rfl dX8_signOf_123 ?_
                refine g_lload rfl dX8_signOf_125 ?_
                refine g_lge (t := 135) dX8_signOf_127 dX8_signOf_128 (by decide) (by first | omega | (simp [st2]; done) | (simp [st2]; omega)) (by first | omega | (simp [st2]; done) | (simp [st2]; omega)) (fun b127 => ?_) (fun b127 => ?_)
                · refine g_iconst dX8_signOf_135 ?_
                  refine g_ireturn rfl dX8_signOf_136 ?_
                  refine kE hk ?_
                  repeat' split
                  all_goals omega
                · refine g_iconst dX8_signOf_131 ?_
                  refine g_goto (t := 136) dX8_signOf_132 (by decide) ?_
                  refine g_ireturn rfl dX8_signOf_136 ?_
                  refine kE hk ?_
                  repeat' split
                  all_goals omega
              · refine g_iconst dX8_signOf_119 ?_
                refine g_goto (t := 136) dX8_signOf_120 (by decide) ?_
                refine g_ireturn rfl dX8_signOf_136 ?_
                refine kE hk ?_
                repeat' split
                all_goals omega
            · refine g_lload rfl dX8_signOf_85 ?_
              refine g_lload rfl dX8_signOf_87 ?_
              refine g_lle (t := 97) dX8_signOf_89 dX8_signOf_90 (by decide) (by first | omega | (simp [st2]; done) | (simp [st2]; omega)) (by first | omega | (simp [st2]; done) | (simp [st2]; omega)) (fun b89 => ?_) (fun b89 => ?_)
              · refine g_lload rfl dX8_signOf_97 ?_
                refine g_lload rfl dX8_signOf_99 ?_
                refine g_lge (t := 109) dX8_signOf_101 dX8_signOf_102 (by decide) (by first | omega | (simp [st2]; done) | (simp [st2]; omega)) (by first | omega | (simp [st2]; done) | (simp [st2]; omega)) (fun b101 => ?_) (fun b101 => ?_)
                · refine g_iconst dX8_signOf_109 ?_
                  refine g_ireturn rfl dX8_signOf_110 ?_
                  refine kE hk ?_
                  repeat' split
                  all_goals omega
                · refine g_iconst dX8_signOf_105 ?_
                  refine g_goto (t := 110) dX8_signOf_106 (by decide) ?_
                  refine g_ireturn rfl dX8_signOf_110 ?_
                  refine kE hk ?_
                  repeat' split
                  all_goals omega
              · refine g_iconst dX8_signOf_93 ?_
                refine g_goto (t := 110) dX8_signOf_94 (by decide) ?_
                refine g_ireturn rfl dX8_signOf_110 ?_
                refine kE hk ?_
                repeat' split
                all_goals omega
          · refine g_lload_n rfl dX8_signOf_55 ?_
            refine g_lconst rfl dX8_signOf_56 ?_
            refine g_lge (t := 63) dX8_signOf_57 dX8_signOf_58 (by decide) (by first | omega | (simp [st2]; done) | (simp [st2]; omega)) (by first | omega | (simp [st2]; done) | (simp [st2]; omega)) (fun b57 => ?_) (fun b57 => ?_)
            · refine g_lload_n rfl dX8_signOf_63 ?_
              refine g_lload_n rfl dX8_signOf_64 ?_
              refine g_lmul dX8_signOf_65 ?_
              refine g_lstore (by decide) dX8_signOf_66 ?_
              refine g_aload_n rfl dX8_signOf_68 ?_
              refine gf_X8_87 rfl (by first | rfl | assumption) dX8_signOf_69 ?_
              refine g_i2l (by first | omega | (simp [st2]; done) | (simp [st2]; omega)) dX8_signOf_72 ?_
              refine g_lload_n rfl dX8_signOf_73 ?_
              refine g_lmul dX8_signOf_74 ?_
              refine g_lload_n rfl dX8_signOf_75 ?_
              refine g_lmul dX8_signOf_76 ?_
              refine g_lstore (by decide) dX8_signOf_77 ?_
              refine g_lload_n rfl dX8_signOf_79 ?_
              refine g_lconst rfl dX8_signOf_80 ?_
              refine g_lle (t := 111) dX8_signOf_81 dX8_signOf_82 (by decide) (by first | omega | (simp [st2]; done) | (simp [st2]; omega)) (by first | omega | (simp [st2]; done) | (simp [st2]; omega)) (fun b81 => ?_) (fun b81 => ?_)
              · refine g_lload rfl dX8_signOf_111 ?_
                refine g_lload rfl dX8_signOf_113 ?_
                refine g_lle (t := 123) dX8_signOf_115 dX8_signOf_116 (by decide) (by first | omega | (simp [st2]; done) | (simp [st2]; omega)) (by first | omega | (simp [st2]; done) | (simp [st2]; omega)) (fun b115 => ?_) (fun b115 => ?_)
                · refine g_lload rfl dX8_signOf_123 ?_
                  refine g_lload rfl dX8_signOf_125 ?_
                  refine g_lge (t := 135) dX8_signOf_127 dX8_signOf_128 (by decide) (by first | omega | (simp [st2]; done) | (simp [st2]; omega)) (by first | omega | (simp [st2]; done) | (simp [st2]; omega)) (fun b127 => ?_) (fun b127 => ?_)
                  · refine g_iconst dX8_signOf_135 ?_
                    refine g_ireturn rfl dX8_signOf_136 ?_
                    refine kE hk ?_
                    repeat' split
                    all_goals omega
                  · refine g_iconst dX8_signOf_131 ?_
                    refine g_goto (t := 136) dX8_signOf_132 (by decide) ?_
                    refine g_ireturn rfl dX8_signOf_136 ?_
                    refine kE hk ?_
                    repeat' split
                    all_goals omega
                · refine g_iconst dX8_signOf_119 ?_
                  refine g_goto (t := 136) dX8_signOf_120 (by decide) ?_
                  refine g_ireturn rfl dX8_signOf_136 ?_
                  refine kE hk ?_
                  repeat' split
                  all_goals omega
              · refine g_lload rfl dX8_signOf_85 ?_
                refine g_lload rfl dX8_signOf_87 ?_
                refine g_lle (t := 97) dX8_signOf_89 dX8_signOf_90 (by decide) (by first | omega | (simp [st2]; done) | (simp [st2]; omega)) (by first | omega | (simp [st2]; done) | (simp [st2]; omega)) (fun b89 => ?_) (fun b89 => ?_)
                · refine g_lload rfl dX8_signOf_97 ?_
                  refine g_lload rfl dX8_signOf_99 ?_
                  refine g_lge (t := 109) dX8_signOf_101 dX8_signOf_102 (by decide) (by first | omega | (simp [st2]; done) | (simp [st2]; omega)) (by first | omega | (simp [st2]; done) | (simp [st2]; omega)) (fun b101 => ?_) (fun b101 => ?_)
                  · refine g_iconst dX8_signOf_109 ?_
                    refine g_ireturn rfl dX8_signOf_110 ?_
                    refine kE hk ?_
                    repeat' split
                    all_goals omega
                  · refine g_iconst dX8_signOf_105 ?_
                    refine g_goto (t := 110) dX8_signOf_106 (by decide) ?_
                    refine g_ireturn rfl dX8_signOf_110 ?_
                    refine kE hk ?_
                    repeat' split
                    all_goals omega
                · refine g_iconst dX8_signOf_93 ?_
                  refine g_goto (t := 110) dX8_signOf_94 (by decide) ?_
                  refine g_ireturn rfl dX8_signOf_110 ?_
                  refine kE hk ?_
                  repeat' split
                  all_goals omega
            · refine g_iconst dX8_signOf_61 ?_
              refine g_ireturn rfl dX8_signOf_62 ?_
              refine kE hk ?_
              repeat' split
              all_goals omega
        · refine g_iconst dX8_signOf_47 ?_
          refine g_ireturn rfl dX8_signOf_48 ?_
          refine kE hk ?_
          repeat' split
          all_goals omega
    · refine g_lload_n rfl dX8_signOf_13 ?_
      refine g_lconst rfl dX8_signOf_14 ?_
      refine g_lle (t := 23) dX8_signOf_15 dX8_signOf_16 (by decide) (by first | omega | (simp [st2]; done) | (simp [st2]; omega)) (by first | omega | (simp [st2]; done) | (simp [st2]; omega)) (fun b15 => ?_) (fun b15 => ?_)
      · refine g_lload_n rfl dX8_signOf_23 ?_
        refine g_lconst rfl dX8_signOf_24 ?_
        refine g_lge (t := 33) dX8_signOf_25 dX8_signOf_26 (by decide) (by first | omega | (simp [st2]; done) | (simp [st2]; omega)) (by first | omega | (simp [st2]; done) | (simp [st2]; omega)) (fun b25 => ?_) (fun b25 => ?_)
        · refine g_iconst dX8_signOf_33 ?_
          refine g_ireturn rfl dX8_signOf_34 ?_
          refine kE hk ?_
          repeat' split
          all_goals omega
        · refine g_iconst dX8_signOf_29 ?_
          refine g_goto (t := 34) dX8_signOf_30 (by decide) ?_
          refine g_ireturn rfl dX8_signOf_34 ?_
          refine kE hk ?_
          repeat' split
          all_goals omega
      · refine g_iconst dX8_signOf_19 ?_
        refine g_goto (t := 34) dX8_signOf_20 (by decide) ?_
        refine g_ireturn rfl dX8_signOf_34 ?_
        refine kE hk ?_
        repeat' split
        all_goals omega
theorem ct_X7_isWithin {l : Launch} {g : Geo} {X : Mm} {K : AV → Mm → Prop} {a b : Int} (ha : -4611686018427387904 ≤ a ∧ a ≤ 4611686018427387904) (hb : 0 ≤ b ∧ b < 2147483648) (hk : K (vI (if -b ≤ a ∧ a ≤ b then 1 else 0)) X) : Ct l g mX7_isWithin [vJ a, vI b] X K := by
  refine enter (by decide) (Nat.le_of_ble_eq_true rfl) (fun κ => ?_)
  refine g_lload_n rfl dX7_isWithin_0 ?_
  refine g_iload_n rfl dX7_isWithin_1 ?_
  refine g_ineg dX7_isWithin_2 ?_
  refine g_i2l (by first | omega | (simp [st2]; done) | (simp [st2]; omega)) dX7_isWithin_3 ?_
  refine g_llt (t := 19) dX7_isWithin_4 dX7_isWithin_5 (by decide) (by first | omega | (simp [st2]; done) | (simp [st2]; omega)) (by first | omega | (simp [st2]; done) | (simp [st2]; omega)) (fun b4 => ?_) (fun b4 => ?_)
  · refine g_iconst dX7_isWithin_19 ?_
    refine g_zreturn rfl (by omega) dX7_isWithin_20 ?_
    refine kE hk ?_
    split <;> omega
  · refine g_lload_n rfl dX7_isWithin_8 ?_
    refine g_iload_n rfl dX7_isWithin_9 ?_
    refine g_i2l (by first | omega | (simp [st2]; done) | (simp [st2]; omega)) dX7_isWithin_10 ?_
    refine g_lgt (t := 19) dX7_isWithin_11 dX7_isWithin_12 (by decide) (by first | omega | (simp [st2]; done) | (simp [st2]; omega)) (by first | omega | (simp [st2]; done) | (simp [st2]; omega)) (fun b11 => ?_) (fun b11 => ?_)
    · refine g_iconst dX7_isWithin_19 ?_
      refine g_zreturn rfl (by omega) dX7_isWithin_20 ?_
      refine kE hk ?_
      split <;> omega
    · refine g_iconst dX7_isWithin_15 ?_
      refine g_goto (t := 20) dX7_isWithin_16 (by decide) ?_
      refine g_zreturn rfl (by omega) dX7_isWithin_20 ?_
      refine kE hk ?_
      split <;> omega
theorem ct_X8_isIn {l : Launch} {g : Geo} {X : Mm} {K : AV → Mm → Prop} {a b : Int} (ha : -4611686018427387904 ≤ a ∧ a ≤ 4611686018427387904) (hb : 0 ≤ b ∧ b < 2147483648) (hk : K (vI (if -b ≤ a ∧ a ≤ b then 1 else 0)) X) : Ct l g mX8_isIn [vJ a, vJ b] X K := by
  refine enter (by decide) (Nat.le_of_ble_eq_true rfl) (fun κ => ?_)
  refine g_lload_n rfl dX8_isIn_0 ?_
  refine g_lload_n rfl dX8_isIn_1 ?_
  refine g_lneg dX8_isIn_2 ?_
  refine g_llt (t := 17) dX8_isIn_3 dX8_isIn_4 (by decide) (by first | omega | (simp [st2]; done) | (simp [st2]; omega)) (by first | omega | (simp [st2]; done) | (simp [st2]; omega)) (fun b3 => ?_) (fun b3 => ?_)
  · refine g_iconst dX8_isIn_17 ?_
    refine g_zreturn rfl (by omega) dX8_isIn_18 ?_
    refine kE hk ?_
    split <;> omega
  · refine g_lload_n rfl dX8_isIn_7 ?_
    refine g_lload_n rfl dX8_isIn_8 ?_
    refine g_lgt (t := 17) dX8_isIn_9 dX8_isIn_10 (by decide) (by first | omega | (simp [st2]; done) | (simp [st2]; omega)) (by first | omega | (simp [st2]; done) | (simp [st2]; omega)) (fun b9 => ?_) (fun b9 => ?_)
    · refine g_iconst dX8_isIn_17 ?_
      refine g_zreturn rfl (by omega) dX8_isIn_18 ?_
      refine kE hk ?_
      split <;> omega
    · refine g_iconst dX8_isIn_13 ?_
      refine g_goto (t := 18) dX8_isIn_14 (by decide) ?_
      refine g_zreturn rfl (by omega) dX8_isIn_18 ?_
      refine kE hk ?_
      split <;> omega
theorem ct_X8_isPoint {l : Launch} {g : Geo} {X : Mm} {K : AV → Mm → Prop} {a b : Int} (ha : -4611686018427387904 ≤ a ∧ a ≤ 4611686018427387904) (hb : -4611686018427387904 ≤ b ∧ b ≤ 4611686018427387904) (hk : K (vI (if (-536870912 ≤ a ∧ a ≤ 536870912) ∧ (-536870912 ≤ b ∧ b ≤ 536870912) then 1 else 0)) X) : Ct l g mX8_isPoint [vJ a, vJ b] X K := by
  refine enter (by decide) (Nat.le_of_ble_eq_true rfl) (fun κ => ?_)
  refine g_lload_n rfl dX8_isPoint_0 ?_
  refine g_ldc2 (n := (536870912)) kc_RX8_149 dX8_isPoint_1 ?_
  refine g_cs2 (M2 := mX8_isIn) dX8_isPoint_4 ml_RX8_112 kX8_isIn rfl (by decide) (by unfold Rm; decide) (Nat.le_of_ble_eq_true rfl) (ct_X8_isIn (by omega) (by omega) ?_)
  refine g_if_eq (t := 24) dX8_isPoint_7 (by decide) (by first | omega | (simp [st2]; done) | (simp [st2]; omega)) (fun b7 => ?_) (fun b7 => ?_)
  · refine g_iconst dX8_isPoint_24 ?_
    refine g_zreturn rfl (by omega) dX8_isPoint_25 ?_
    refine kE hk ?_
    split <;> omega
  · refine g_lload_n rfl dX8_isPoint_10 ?_
    refine g_ldc2 (n := (536870912)) kc_RX8_149 dX8_isPoint_11 ?_
    refine g_cs2 (M2 := mX8_isIn) dX8_isPoint_14 ml_RX8_112 kX8_isIn rfl (by decide) (by unfold Rm; decide) (Nat.le_of_ble_eq_true rfl) (ct_X8_isIn (by omega) (by omega) ?_)
    refine g_if_eq (t := 24) dX8_isPoint_17 (by decide) (by first | omega | (simp [st2]; done) | (simp [st2]; omega)) (fun b17 => ?_) (fun b17 => ?_)
    · refine g_iconst dX8_isPoint_24 ?_
      refine g_zreturn rfl (by omega) dX8_isPoint_25 ?_
      refine kE hk ?_
      split <;> omega
    · refine g_iconst dX8_isPoint_20 ?_
      refine g_goto (t := 25) dX8_isPoint_21 (by decide) ?_
      refine g_zreturn rfl (by omega) dX8_isPoint_25 ?_
      refine kE hk ?_
      split <;> omega
theorem ct_X7_canBe {l : Launch} {g : Geo} {X : Mm} {K : AV → Mm → Prop} {a b m : Int} (h0 : isRoot (X 0 0)) (ha : -2147483648 ≤ a ∧ a < 2147483648) (hb : -2147483648 ≤ b ∧ b < 2147483648) (hm : 0 ≤ m ∧ m < 2147483648) (hk : K (vI (if (-m ≤ a ∧ a ≤ m) ∧ (-m ≤ b ∧ b ≤ m) ∧ (X 0 0 ≠ 0 ∨ b = 0) then 1 else 0)) X) : Ct l g mX7_canBe [vR 0, vI a, vI b, vI m] X K := by
  refine enter (by decide) (Nat.le_of_ble_eq_true rfl) (fun κ => ?_)
  unfold isRoot at h0
  refine g_iload_n rfl dX7_canBe_0 ?_
  refine g_i2l (by first | omega | (simp [st2]; done) | (simp [st2]; omega)) dX7_canBe_1 ?_
  refine g_iload_n rfl dX7_canBe_2 ?_
  refine g_cs2 (M2 := mX7_isWithin) dX7_canBe_3 ml_RX7_225 kX7_isWithin rfl (by decide) (by unfold Rm; decide) (Nat.le_of_ble_eq_true rfl) (ct_X7_isWithin (by omega) (by omega) ?_)
  refine g_if_eq (t := 33) dX7_canBe_6 (by decide) (by first | omega | (simp [st2]; done) | (simp [st2]; omega)) (fun b6 => ?_) (fun b6 => ?_)
  · refine g_iconst dX7_canBe_33 ?_
    refine g_zreturn rfl (by omega) dX7_canBe_34 ?_
    refine kE hk ?_
    split <;> omega
  · refine g_iload_n rfl dX7_canBe_9 ?_
    refine g_i2l (by first | omega | (simp [st2]; done) | (simp [st2]; omega)) dX7_canBe_10 ?_
    refine g_iload_n rfl dX7_canBe_11 ?_
    refine g_cs2 (M2 := mX7_isWithin) dX7_canBe_12 ml_RX7_225 kX7_isWithin rfl (by decide) (by unfold Rm; decide) (Nat.le_of_ble_eq_true rfl) (ct_X7_isWithin (by omega) (by omega) ?_)
    refine g_if_eq (t := 33) dX7_canBe_15 (by decide) (by first | omega | (simp [st2]; done) | (simp [st2]; omega)) (fun b15 => ?_) (fun b15 => ?_)
    · refine g_iconst dX7_canBe_33 ?_
      refine g_zreturn rfl (by omega) dX7_canBe_34 ?_
      refine kE hk ?_
      split <;> omega
    · refine g_aload_n rfl dX7_canBe_18 ?_
      refine gf_X7_7 rfl (by first | rfl | assumption) dX7_canBe_19 ?_
      refine g_if_ne (t := 29) dX7_canBe_22 (by decide) (by first | omega | (simp [st2]; done) | (simp [st2]; omega)) (fun b22 => ?_) (fun b22 => ?_)
      · refine g_iconst dX7_canBe_29 ?_
        refine g_goto (t := 34) dX7_canBe_30 (by decide) ?_
        refine g_zreturn rfl (by omega) dX7_canBe_34 ?_
        refine kE hk ?_
        split <;> omega
      · refine g_iload_n rfl dX7_canBe_25 ?_
        refine g_if_ne (t := 33) dX7_canBe_26 (by decide) (by first | omega | (simp [st2]; done) | (simp [st2]; omega)) (fun b26 => ?_) (fun b26 => ?_)
        · refine g_iconst dX7_canBe_33 ?_
          refine g_zreturn rfl (by omega) dX7_canBe_34 ?_
          refine kE hk ?_
          split <;> omega
        · refine g_iconst dX7_canBe_29 ?_
          refine g_goto (t := 34) dX7_canBe_30 (by decide) ?_
          refine g_zreturn rfl (by omega) dX7_canBe_34 ?_
          refine kE hk ?_
          split <;> omega
end
section
/-! THE VALUE of a + b root: a whole number, linear in a and b, whose sign is that of a + b root for all a and b that come (bounded by 2 to the 31) -/
def Pr (r : Int) : Int := if r = 2 then 1669608681642596123180 else if r = 3 then 2044844670072641933001 else if r = 5 then 2639883117590780709625 else if r = 7 then 3123551828344960826483 else 0
def val (r a b : Int) : Int := a * 1180591620717411303424 + b * Pr r
theorem val_add (r a b c d : Int) : val r (a + c) (b + d) = val r a b + val r c d := by
  unfold val
  rw [Int.add_mul, Int.add_mul]
  omega
theorem val_sub (r a b c d : Int) : val r (a - c) (b - d) = val r a b - val r c d := by
  unfold val
  rw [Int.sub_mul, Int.sub_mul]
  omega
theorem val_0 (r : Int) : val r 0 0 = 0 := by simp [val]
theorem Pr_sq {r : Int} (hr : isRoot r) : 0 ≤ Pr r ∧ Pr r < 3541774862152233910272 ∧ Pr r * Pr r ≤ r * (1180591620717411303424 * 1180591620717411303424) ∧ r * (1180591620717411303424 * 1180591620717411303424) < (Pr r + 1) * (Pr r + 1) := by
  unfold isRoot at hr
  rcases hr with e | e | e | e | e <;> subst e <;> decide
theorem lt_of_sq {a b : Int} (hb : 0 ≤ b) (h : a * a < b * b) : a < b := by
  rcases Int.lt_or_le a b with q | q
  · exact q
  · exfalso
    have h1 : b * b ≤ a * a := Int.mul_le_mul q q hb (by omega)
    omega
/-- with a > 0 and q > 0 -/
theorem val_gt {r a q : Int} (hr : isRoot r) (ha : 0 < a) (hq : 0 < q) (h : r * q * q < a * a) : q * Pr r < a * 1180591620717411303424 := by
  obtain ⟨p0, p1, p2, p3⟩ := Pr_sq hr
  apply lt_of_sq (by omega)
  have e1 : q * Pr r * (q * Pr r) = q * q * (Pr r * Pr r) := by simp only [Int.mul_assoc, Int.mul_left_comm]
  have e2 : a * 1180591620717411303424 * (a * 1180591620717411303424) = a * a * (1180591620717411303424 * 1180591620717411303424) := by simp only [Int.mul_assoc, Int.mul_left_comm]
  have h1 : q * q * (Pr r * Pr r) ≤ q * q * (r * (1180591620717411303424 * 1180591620717411303424)) := Int.mul_le_mul_of_nonneg_left p2 (Int.mul_nonneg (by omega) (by omega))
  have e3 : q * q * (r * (1180591620717411303424 * 1180591620717411303424)) = r * q * q * (1180591620717411303424 * 1180591620717411303424) := by simp only [Int.mul_assoc, Int.mul_left_comm]
  rw [e1, e2]
  rw [e3] at h1
  generalize r * q * q = u at *
  generalize a * a = w at *
  omega
theorem val_lt {r a q : Int} (hr : isRoot r) (ha : 0 ≤ a) (hq : 0 < q) (hq2 : q ≤ 2147483648) (h : a * a < r * q * q) : a * 1180591620717411303424 < q * Pr r := by
  obtain ⟨p0, p1, p2, p3⟩ := Pr_sq hr
  apply lt_of_sq (Int.mul_nonneg (by omega) p0)
  have e1 : q * Pr r * (q * Pr r) = q * q * (Pr r * Pr r) := by simp only [Int.mul_assoc, Int.mul_left_comm]
  have e2 : a * 1180591620717411303424 * (a * 1180591620717411303424) = a * a * (1180591620717411303424 * 1180591620717411303424) := by simp only [Int.mul_assoc, Int.mul_left_comm]
  have hqq : 0 ≤ q * q ∧ q * q ≤ 4611686018427387904 := sq_bd (B := 2147483648) (by omega) (by omega)
  have h1 : q * q * (r * (1180591620717411303424 * 1180591620717411303424)) ≤ q * q * ((Pr r + 1) * (Pr r + 1)) := Int.mul_le_mul_of_nonneg_left (by omega) hqq.1
  have e3 : q * q * (r * (1180591620717411303424 * 1180591620717411303424)) = r * q * q * (1180591620717411303424 * 1180591620717411303424) := by simp only [Int.mul_assoc, Int.mul_left_comm]
  have e4 : (Pr r + 1) * (Pr r + 1) = Pr r * Pr r + (2 * Pr r + 1) := by
    rw [Int.add_mul, Int.mul_add]; omega
  have h2 : q * q * (2 * Pr r + 1) ≤ 4611686018427387904 * (2 * Pr r + 1) := Int.mul_le_mul_of_nonneg_right hqq.2 (by omega)
  rw [e4, Int.mul_add] at h1
  rw [e1, e2]
  rw [e3] at h1
  generalize r * q * q = u at *
  generalize a * a = w at *
  generalize q * q * (Pr r * Pr r) = z at *
  generalize q * q * (2 * Pr r + 1) = y at *
  omega
def isg (x : Int) : Int := if 0 < x then 1 else if x < 0 then -1 else 0
theorem neg_sq (r b : Int) : r * -b * -b = r * b * b := by
  rw [Int.mul_assoc, Int.neg_mul_neg, ← Int.mul_assoc]
/-- the sign is the value's sign -/
theorem sgn_val {r a b : Int} (hr : isRoot r) (hrb : r = 0 → b = 0) (ha : -2147483648 ≤ a ∧ a ≤ 2147483648) (hb : -2147483648 ≤ b ∧ b ≤ 2147483648) : sgn r a b = isg (val r a b) := by
  obtain ⟨p0, p1, p2, p3⟩ := Pr_sq hr
  unfold sgn isg val
  by_cases c0 : r = 0 ∨ b = 0
  · rw [if_pos c0]
    have hb0 : b = 0 := c0.elim hrb id
    subst hb0
    rw [Int.zero_mul, Int.add_zero]
    repeat' split
    all_goals omega
  · rw [if_neg c0]
    have hP : 0 < Pr r := by
      unfold isRoot at hr
      rcases hr with e | e | e | e | e
      · exact absurd (Or.inl e) c0
      all_goals (subst e; decide)
    have hne := root_ne (a := a) (b := b) hr (fun e => c0 (Or.inl e)) (fun e => c0 (Or.inr e))
    rcases Int.lt_or_le 0 b with hb1 | hb1
    · have hbp : 0 < b * Pr r := Int.mul_pos hb1 hP
      rcases Int.lt_or_le a 0 with ha1 | ha1
      · rw [if_neg (by omega), if_neg (by omega), if_neg (by omega)]
        by_cases q : a * a < r * b * b
        · have := val_lt (a := -a) (q := b) hr (by omega) hb1 (by omega) (by rw [Int.neg_mul_neg]; exact q)
          rw [if_pos q, if_pos (by omega)]
        · have q2 : r * b * b < a * a := by omega
          have := val_gt (a := -a) (q := b) hr (by omega) hb1 (by rw [Int.neg_mul_neg]; exact q2)
          rw [if_neg q, if_pos q2, if_neg (by omega), if_pos (by omega)]
      · rw [if_pos ⟨ha1, hb1⟩, if_pos (by omega)]
    · have hb2 : b < 0 := by omega
      have hbn : b * Pr r < 0 := by
        have := Int.mul_pos (show 0 < -b by omega) hP
        rw [Int.neg_mul] at this
        omega
      rcases Int.lt_or_le 0 a with ha1 | ha1
      · rw [if_neg (by omega), if_neg (by omega), if_pos ha1]
        by_cases q : r * b * b < a * a
        · have := val_gt (a := a) (q := -b) hr ha1 (by omega) (by rw [neg_sq]; exact q)
          rw [Int.neg_mul] at this
          rw [if_pos q, if_pos (by omega)]
        · have q2 : a * a < r * b * b := by omega
          have := val_lt (a := a) (q := -b) hr (by omega) (by omega) (by omega) (by rw [neg_sq]; exact q2)
          rw [Int.neg_mul] at this
          rw [if_neg q, if_pos q2, if_neg (by omega), if_pos (by omega)]
      · rw [if_neg (by omega), if_pos ⟨ha1, hb2⟩, if_neg (by omega), if_pos (by omega)]
theorem sgn_neg {r a b : Int} (hr : isRoot r) (hrb : r = 0 → b = 0) (ha : -2147483648 ≤ a ∧ a ≤ 2147483648) (hb : -2147483648 ≤ b ∧ b ≤ 2147483648) : (sgn r a b < 0 ↔ val r a b < 0) ∧ (0 < sgn r a b ↔ 0 < val r a b) ∧ (sgn r a b = 0 ↔ val r a b = 0) ∧ -1 ≤ sgn r a b ∧ sgn r a b ≤ 1 := by
  rw [sgn_val hr hrb ha hb]
  unfold isg
  repeat' split
  all_goals omega
theorem val_inj0 {r a b : Int} (hr : isRoot r) (hrb : r = 0 → b = 0) (ha : -2147483648 ≤ a ∧ a ≤ 2147483648) (hb : -2147483648 ≤ b ∧ b ≤ 2147483648) (h : val r a b = 0) : a = 0 ∧ b = 0 := by
  have h1 := (sgn_neg hr hrb ha hb).2.2.1.mpr h
  unfold sgn at h1
  by_cases c0 : r = 0 ∨ b = 0
  · rw [if_pos c0] at h1
    have hb0 : b = 0 := c0.elim hrb id
    refine ⟨?_, hb0⟩
    repeat' split at h1
    all_goals omega
  · have hne := root_ne (a := a) (b := b) hr (fun e => c0 (Or.inl e)) (fun e => c0 (Or.inr e))
    rw [if_neg c0] at h1
    repeat' split at h1
    all_goals omega
theorem val_inj {r a b c d : Int} (hr : isRoot r) (hrb : r = 0 → b = 0) (hrd : r = 0 → d = 0) (ha : -1073741824 ≤ a ∧ a ≤ 1073741824) (hb : -1073741824 ≤ b ∧ b ≤ 1073741824) (hc : -1073741824 ≤ c ∧ c ≤ 1073741824) (hd : -1073741824 ≤ d ∧ d ≤ 1073741824) (h : val r a b = val r c d) : a = c ∧ b = d := by
  have h1 := val_inj0 (a := a - c) (b := b - d) hr (fun e => by rw [hrb e, hrd e]; rfl) (by omega) (by omega) (by rw [val_sub]; omega)
  omega
end
section
/-! plain facts to paste, each family by itself; over the kit's nI, lN and upd -/
/-! ===== drawers: more things than places ===== -/
theorem fb_holes : ∀ (m n : Nat) (f : Nat → Nat), (∀ i, i < n → f i < m) → (∀ i j, i < j → j < n → f i ≠ f j) → n ≤ m := by
  intro m
  induction m with
  | zero =>
    intro n f h1 _
    rcases Nat.eq_zero_or_pos n with h | h
    · omega
    · exact absurd (h1 0 h) (Nat.not_lt_zero _)
  | succ m ih =>
    intro n f h1 h2
    by_cases hx : ∃ i, i < n ∧ f i = m
    · obtain ⟨a, ha, hfa⟩ := hx
      have hg := ih (n - 1) (fun i => if i < a then f i else f (i + 1)) (by
        intro i hi
        by_cases q : i < a
        · simp only [if_pos q]
          have b1 := h1 i (by omega)
          have b2 := h2 i a q ha
          omega
        · simp only [if_neg q]
          have b1 := h1 (i + 1) (by omega)
          have b2 := h2 a (i + 1) (by omega) (by omega)
          omega) (by
        intro i j hij hj
        by_cases q : i < a
        · by_cases r : j < a
          · simp only [if_pos q, if_pos r]
            exact h2 i j hij (by omega)
          · simp only [if_pos q, if_neg r]
            exact h2 i (j + 1) (by omega) (by omega)
        · have r : ¬ j < a := by omega
          simp only [if_neg q, if_neg r]
          exact h2 (i + 1) (j + 1) (by omega) (by omega))
      omega
    · have hg := ih n f (fun i hi => by
        have b1 := h1 i hi
        have b2 : f i ≠ m := fun e => hx ⟨i, hi, e⟩
        omega) h2
      omega
/-- two of them in one place -/
theorem fb_twice {m n : Nat} {f : Nat → Nat} (h : ∀ i, i < n → f i < m) (hm : m < n) : ∃ i j, i < j ∧ j < n ∧ f i = f j := by
  refine Classical.byContradiction fun hx => ?_
  have := fb_holes m n f h (fun i j hij hj e => hx ⟨i, j, hij, hj, e⟩)
  omega
/-- as many as places, none twice: each place is taken -/
theorem fb_onto {n : Nat} {f : Nat → Nat} (h : ∀ i, i < n → f i < n) (h2 : ∀ i j, i < j → j < n → f i ≠ f j) {y : Nat} (hy : y < n) : ∃ i, i < n ∧ f i = y := by
  refine Classical.byContradiction fun hx => ?_
  have hne : ∀ i, i < n → f i ≠ y := fun i hi e => hx ⟨i, hi, e⟩
  have := fb_holes (n - 1) n (fun i => if f i < y then f i else f i - 1) (by
    intro i hi
    have b1 := h i hi
    have b2 := hne i hi
    by_cases q : f i < y
    · simp only [if_pos q]; omega
    · simp only [if_neg q]; omega) (by
    intro i j hij hj
    have b1 := hne i (by omega)
    have b2 := hne j hj
    have b3 := h2 i j hij hj
    by_cases q : f i < y
    · by_cases r : f j < y
      · simp only [if_pos q, if_pos r]; exact b3
      · simp only [if_pos q, if_neg r]; omega
    · by_cases r : f j < y
      · simp only [if_neg q, if_pos r]; omega
      · simp only [if_neg q, if_neg r]; omega)
  omega
/-! ===== how many places have a property ===== -/
def fb_ct (p : Nat → Bool) : Nat → Nat
  | 0 => 0
  | n + 1 => fb_ct p n + (if p n then 1 else 0)
theorem fb_ct_succ (p : Nat → Bool) (n : Nat) : fb_ct p (n + 1) = fb_ct p n + (if p n then 1 else 0) := rfl
theorem fb_ct_le (p : Nat → Bool) : ∀ n, fb_ct p n ≤ n
  | 0 => Nat.le_refl _
  | n + 1 => by
    have h := fb_ct_le p n
    rw [fb_ct_succ]
    split <;> omega
theorem fb_ct_step (p : Nat → Bool) (m : Nat) : ∀ n, fb_ct p m ≤ fb_ct p (m + n)
  | 0 => Nat.le_refl _
  | n + 1 => by
    have h := fb_ct_step p m n
    show fb_ct p m ≤ fb_ct p (m + n + 1)
    rw [fb_ct_succ]
    omega
theorem fb_ct_mono (p : Nat → Bool) {m n : Nat} (h : m ≤ n) : fb_ct p m ≤ fb_ct p n := by
  have := fb_ct_step p m (n - m)
  rwa [Nat.add_sub_cancel' h] at this
theorem fb_ct_cong {p q : Nat → Bool} : ∀ {n : Nat}, (∀ k, k < n → p k = q k) → fb_ct p n = fb_ct q n
  | 0, _ => rfl
  | n + 1, h => by
    rw [fb_ct_succ, fb_ct_succ, fb_ct_cong (fun k hk => h k (by omega)), h n (by omega)]
/-- one place changed -/
theorem fb_ct_out (p : Nat → Bool) (b : Bool) {i n : Nat} (h : n ≤ i) : fb_ct (fun k => if k = i then b else p k) n = fb_ct p n :=
  fb_ct_cong fun k hk => if_neg (by omega)
theorem fb_ct_upd (p : Nat → Bool) (b : Bool) {i : Nat} : ∀ {n : Nat}, i < n → fb_ct (fun k => if k = i then b else p k) n + (if p i then 1 else 0) = fb_ct p n + (if b then 1 else 0)
  | 0, h => absurd h (Nat.not_lt_zero i)
  | n + 1, h => by
    rw [fb_ct_succ, fb_ct_succ]
    rcases Nat.lt_or_ge i n with q | q
    · have := fb_ct_upd p b q
      have e : (if n = i then b else p n) = p n := if_neg (by omega)
      rw [e]
      omega
    · have e : i = n := by omega
      subst e
      rw [fb_ct_out p b (Nat.le_refl _)]
      simp only [if_true]
      omega
theorem fb_ct_sub {p q : Nat → Bool} : ∀ {n : Nat}, (∀ k, k < n → p k = true → q k = true) → fb_ct p n ≤ fb_ct q n
  | 0, _ => Nat.le_refl _
  | n + 1, h => by
    have h1 := fb_ct_sub (n := n) (p := p) (q := q) (fun k hk => h k (by omega))
    have h2 := h n (by omega)
    rw [fb_ct_succ, fb_ct_succ]
    cases hp : p n <;> cases hq : q n <;> simp_all <;> omega
theorem fb_ct_or {p q : Nat → Bool} : ∀ {n : Nat}, (∀ k, k < n → ¬ (p k = true ∧ q k = true)) → fb_ct (fun k => p k || q k) n = fb_ct p n + fb_ct q n
  | 0, _ => rfl
  | n + 1, h => by
    have h1 := fb_ct_or (n := n) (p := p) (q := q) (fun k hk => h k (by omega))
    have h2 := h n (by omega)
    rw [fb_ct_succ, fb_ct_succ, fb_ct_succ, h1]
    cases hp : p n <;> cases hq : q n <;> simp_all <;> omega
theorem fb_ct_not (p : Nat → Bool) : ∀ n, fb_ct p n + fb_ct (fun k => !p k) n = n
  | 0 => rfl
  | n + 1 => by
    have h := fb_ct_not p n
    rw [fb_ct_succ, fb_ct_succ]
    cases p n <;> simp <;> omega
theorem fb_ct_split (p : Nat → Bool) (m : Nat) : ∀ n, fb_ct p (m + n) = fb_ct p m + fb_ct (fun k => p (m + k)) n
  | 0 => rfl
  | n + 1 => by
    have h := fb_ct_split p m n
    show fb_ct p (m + n + 1) = _
    rw [fb_ct_succ, fb_ct_succ, h, Nat.add_assoc]
theorem fb_ct_zero {p : Nat → Bool} : ∀ {n : Nat}, fb_ct p n = 0 ↔ ∀ k, k < n → p k = false
  | 0 => ⟨fun _ k hk => absurd hk (Nat.not_lt_zero k), fun _ => rfl⟩
  | n + 1 => by
    have h := fb_ct_zero (p := p) (n := n)
    rw [fb_ct_succ]
    constructor
    · intro e k hk
      have e1 : fb_ct p n = 0 := by omega
      rcases Nat.lt_or_ge k n with q | q
      · exact h.mp e1 k q
      · have ek : k = n := by omega
        subst ek
        cases hp : p k
        · rfl
        · simp [hp] at e
    · intro a
      rw [h.mpr (fun k hk => a k (by omega)), a n (by omega)]
      rfl
theorem fb_ct_pos {p : Nat → Bool} {n : Nat} : 0 < fb_ct p n ↔ ∃ k, k < n ∧ p k = true := by
  constructor
  · intro h
    refine Classical.byContradiction fun hx => ?_
    have := fb_ct_zero.mpr (fun k hk => by
      cases hp : p k
      · rfl
      · exact absurd ⟨k, hk, hp⟩ hx : ∀ k, k < n → p k = false)
    omega
  · rintro ⟨k, hk, hp⟩
    rcases Nat.eq_zero_or_pos (fb_ct p n) with e | e
    · have := fb_ct_zero.mp e k hk
      rw [this] at hp
      cases hp
    · exact e
theorem fb_ct_all {p : Nat → Bool} {n : Nat} : fb_ct p n = n ↔ ∀ k, k < n → p k = true := by
  have h := fb_ct_not p n
  constructor
  · intro e k hk
    have z : fb_ct (fun k => !p k) n = 0 := by omega
    have := fb_ct_zero.mp z k hk
    cases hp : p k
    · simp [hp] at this
    · rfl
  · intro a
    have z : fb_ct (fun k => !p k) n = 0 := fb_ct_zero.mpr (fun k hk => by simp [a k hk])
    omega
/-- the k-th place with the property -/
theorem fb_ct_kth {p : Nat → Bool} {k : Nat} : ∀ {n : Nat}, k < fb_ct p n → ∃ i, i < n ∧ p i = true ∧ fb_ct p i = k
  | 0, h => absurd h (Nat.not_lt_zero k)
  | n + 1, h => by
    rcases Nat.lt_or_ge k (fb_ct p n) with q | q
    · obtain ⟨i, h1, h2⟩ := fb_ct_kth q
      exact ⟨i, by omega, h2⟩
    · rw [fb_ct_succ] at h
      cases hp : p n
      · simp [hp] at h; omega
      · simp [hp] at h
        exact ⟨n, by omega, hp, by omega⟩
theorem fb_ct_kth_one {p : Nat → Bool} {i j : Nat} (hi : p i = true) (hj : p j = true) (e : fb_ct p i = fb_ct p j) : i = j := by
  have key : ∀ a b : Nat, a < b → p a = true → fb_ct p a < fb_ct p b := by
    intro a b hab ha
    have h := fb_ct_mono p (show a + 1 ≤ b from hab)
    rw [fb_ct_succ, ha] at h
    simp at h
    omega
  rcases Nat.lt_trichotomy i j with q | q | q
  · have := key i j q hi; omega
  · exact q
  · have := key j i q hj; omega
/-! ===== sums over a range: one place changed, parts, bounds ===== -/
def fb_sm (f : Nat → Nat) : Nat → Nat
  | 0 => 0
  | n + 1 => fb_sm f n + f n
theorem fb_sm_succ (f : Nat → Nat) (n : Nat) : fb_sm f (n + 1) = fb_sm f n + f n := rfl
theorem fb_sm_cong {f g : Nat → Nat} : ∀ {n : Nat}, (∀ k, k < n → f k = g k) → fb_sm f n = fb_sm g n
  | 0, _ => rfl
  | n + 1, h => by rw [fb_sm_succ, fb_sm_succ, fb_sm_cong (fun k hk => h k (by omega)), h n (by omega)]
theorem fb_sm_out (f : Nat → Nat) (v : Nat) {i n : Nat} (h : n ≤ i) : fb_sm (fun k => if k = i then v else f k) n = fb_sm f n :=
  fb_sm_cong fun k hk => if_neg (by omega)
theorem fb_sm_upd (f : Nat → Nat) (v : Nat) {i : Nat} : ∀ {n : Nat}, i < n → fb_sm (fun k => if k = i then v else f k) n + f i = fb_sm f n + v
  | 0, h => absurd h (Nat.not_lt_zero i)
  | n + 1, h => by
    rw [fb_sm_succ, fb_sm_succ]
    rcases Nat.lt_or_ge i n with q | q
    · have := fb_sm_upd f v q
      have e : (if n = i then v else f n) = f n := if_neg (by omega)
      rw [e]
      omega
    · have e : i = n := by omega
      subst e
      rw [fb_sm_out f v (Nat.le_refl _)]
      simp only [if_true]
      omega
theorem fb_sm_add (f g : Nat → Nat) : ∀ n, fb_sm (fun k => f k + g k) n = fb_sm f n + fb_sm g n
  | 0 => rfl
  | n + 1 => by
    have h := fb_sm_add f g n
    rw [fb_sm_succ, fb_sm_succ, fb_sm_succ, h]
    omega
theorem fb_sm_le {f g : Nat → Nat} : ∀ {n : Nat}, (∀ k, k < n → f k ≤ g k) → fb_sm f n ≤ fb_sm g n
  | 0, _ => Nat.le_refl _
  | n + 1, h => by
    have h1 := fb_sm_le (n := n) (f := f) (g := g) (fun k hk => h k (by omega))
    have h2 := h n (by omega)
    rw [fb_sm_succ, fb_sm_succ]
    omega
theorem fb_sm_const (c : Nat) : ∀ n, fb_sm (fun _ => c) n = n * c
  | 0 => by rw [Nat.zero_mul]; rfl
  | n + 1 => by rw [fb_sm_succ, fb_sm_const c n, Nat.succ_mul]
theorem fb_sm_bound {f : Nat → Nat} {c n : Nat} (h : ∀ k, k < n → f k ≤ c) : fb_sm f n ≤ n * c := by
  rw [← fb_sm_const c n]
  exact fb_sm_le h
theorem fb_sm_mono (f : Nat → Nat) (m : Nat) : ∀ n, fb_sm f m ≤ fb_sm f (m + n)
  | 0 => Nat.le_refl _
  | n + 1 => by
    have h := fb_sm_mono f m n
    show fb_sm f m ≤ fb_sm f (m + n + 1)
    rw [fb_sm_succ]
    omega
theorem fb_sm_part (f : Nat → Nat) {i n : Nat} (h : i < n) : fb_sm f i + f i ≤ fb_sm f n := by
  have := fb_sm_mono f (i + 1) (n - (i + 1))
  rw [fb_sm_succ, show i + 1 + (n - (i + 1)) = n by omega] at this
  exact this
theorem fb_sm_split (f : Nat → Nat) (m : Nat) : ∀ n, fb_sm f (m + n) = fb_sm f m + fb_sm (fun k => f (m + k)) n
  | 0 => rfl
  | n + 1 => by
    have h := fb_sm_split f m n
    show fb_sm f (m + n + 1) = _
    rw [fb_sm_succ, fb_sm_succ, h, Nat.add_assoc]
theorem fb_sm_zero {f : Nat → Nat} {n : Nat} (h : fb_sm f n = 0) : ∀ k, k < n → f k = 0 := fun k hk => by
  have := fb_sm_part f hk
  omega
/-- the same over whole numbers -/
def fb_si (f : Nat → Int) : Nat → Int
  | 0 => 0
  | n + 1 => fb_si f n + f n
theorem fb_si_succ (f : Nat → Int) (n : Nat) : fb_si f (n + 1) = fb_si f n + f n := rfl
theorem fb_si_cong {f g : Nat → Int} : ∀ {n : Nat}, (∀ k, k < n → f k = g k) → fb_si f n = fb_si g n
  | 0, _ => rfl
  | n + 1, h => by rw [fb_si_succ, fb_si_succ, fb_si_cong (fun k hk => h k (by omega)), h n (by omega)]
theorem fb_si_out (f : Nat → Int) (v : Int) {i n : Nat} (h : n ≤ i) : fb_si (fun k => if k = i then v else f k) n = fb_si f n :=
  fb_si_cong fun k hk => if_neg (by omega)
theorem fb_si_upd (f : Nat → Int) (v : Int) {i : Nat} : ∀ {n : Nat}, i < n → fb_si (fun k => if k = i then v else f k) n = fb_si f n - f i + v
  | 0, h => absurd h (Nat.not_lt_zero i)
  | n + 1, h => by
    rw [fb_si_succ, fb_si_succ]
    rcases Nat.lt_or_ge i n with q | q
    · have := fb_si_upd f v q
      have e : (if n = i then v else f n) = f n := if_neg (by omega)
      rw [e]
      omega
    · have e : i = n := by omega
      subst e
      rw [fb_si_out f v (Nat.le_refl _)]
      simp only [if_true]
      omega
theorem fb_si_add (f g : Nat → Int) : ∀ n, fb_si (fun k => f k + g k) n = fb_si f n + fb_si g n
  | 0 => rfl
  | n + 1 => by
    have h := fb_si_add f g n
    rw [fb_si_succ, fb_si_succ, fb_si_succ, h]
    omega
theorem fb_si_sub (f g : Nat → Int) : ∀ n, fb_si (fun k => f k - g k) n = fb_si f n - fb_si g n
  | 0 => rfl
  | n + 1 => by
    have h := fb_si_sub f g n
    rw [fb_si_succ, fb_si_succ, fb_si_succ, h]
    omega
theorem fb_si_mul (c : Int) (f : Nat → Int) : ∀ n, fb_si (fun k => c * f k) n = c * fb_si f n
  | 0 => (Int.mul_zero c).symm
  | n + 1 => by
    have h := fb_si_mul c f n
    rw [fb_si_succ, fb_si_succ, h, Int.mul_add]
theorem fb_si_split (f : Nat → Int) (m : Nat) : ∀ n, fb_si f (m + n) = fb_si f m + fb_si (fun k => f (m + k)) n
  | 0 => (Int.add_zero _).symm
  | n + 1 => by
    have h := fb_si_split f m n
    show fb_si f (m + n + 1) = _
    rw [fb_si_succ, fb_si_succ, h, Int.add_assoc]
theorem fb_si_nat (f : Nat → Nat) : ∀ n, fb_si (fun k => (f k : Int)) n = (fb_sm f n : Int)
  | 0 => rfl
  | n + 1 => by
    have h := fb_si_nat f n
    rw [fb_si_succ, fb_sm_succ, h]
    omega
theorem fb_si_bound {f : Nat → Int} {c : Int} (hc : 0 ≤ c) : ∀ {n : Nat}, (∀ k, k < n → -c ≤ f k ∧ f k ≤ c) → -(n * c) ≤ fb_si f n ∧ fb_si f n ≤ n * c
  | 0, _ => by simp [fb_si]
  | n + 1, h => by
    have h1 := fb_si_bound (n := n) (f := f) hc (fun k hk => h k (by omega))
    have h2 := h n (by omega)
    have e : ((n + 1 : Nat) : Int) * c = n * c + c := by rw [Int.natCast_add, Int.add_mul]; simp
    rw [fb_si_succ, e]
    omega
/-! ===== bits of a long that isn't negative ===== -/
theorem fb_andL (a b : Nat) : lN a &&& lN b = lN (a &&& b) := by
  apply Int64.toBitVec_inj.1
  show BitVec.ofNat 64 a &&& BitVec.ofNat 64 b = BitVec.ofNat 64 (a &&& b)
  apply BitVec.eq_of_getLsbD_eq
  intro i hi
  simp [hi]
theorem fb_orL (a b : Nat) : lN a ||| lN b = lN (a ||| b) := by
  apply Int64.toBitVec_inj.1
  show BitVec.ofNat 64 a ||| BitVec.ofNat 64 b = BitVec.ofNat 64 (a ||| b)
  apply BitVec.eq_of_getLsbD_eq
  intro i hi
  simp [hi]
theorem fb_xorL (a b : Nat) : lN a ^^^ lN b = lN (a ^^^ b) := by
  apply Int64.toBitVec_inj.1
  show BitVec.ofNat 64 a ^^^ BitVec.ofNat 64 b = BitVec.ofNat 64 (a ^^^ b)
  apply BitVec.eq_of_getLsbD_eq
  intro i hi
  simp [hi]
theorem fb_xorI (a b : Nat) : nI a ^^^ nI b = nI (a ^^^ b) := by
  apply Int32.toBitVec_inj.1
  show BitVec.ofNat 32 a ^^^ BitVec.ofNat 32 b = BitVec.ofNat 32 (a ^^^ b)
  apply BitVec.eq_of_getLsbD_eq
  intro i hi
  simp [hi]
theorem fb_maskL (n k : Nat) : lN n &&& lN (2 ^ k - 1) = lN (n % 2 ^ k) := by rw [fb_andL, Nat.and_two_pow_sub_one_eq_mod]
theorem fb_or_sumL {a k : Nat} (b : Nat) (h : a < 2 ^ k) : lN (2 ^ k * b) ||| lN a = lN (2 ^ k * b + a) := by rw [fb_orL, Nat.two_pow_add_eq_or_of_lt h]
theorem fb_lN_inj {a b : Nat} (ha : a < 2 ^ 63) (hb : b < 2 ^ 63) : lN a = lN b ↔ a = b := by
  constructor
  · intro h
    have h1 : (BitVec.ofNat 64 a).toNat = (BitVec.ofNat 64 b).toNat := congrArg (fun x : Int64 => x.toBitVec.toNat) h
    rw [BitVec.toNat_ofNat, BitVec.toNat_ofNat, Nat.mod_eq_of_lt (by omega), Nat.mod_eq_of_lt (by omega)] at h1
    exact h1
  · rintro rfl; rfl
theorem fb_bit_nat (n j : Nat) : n &&& 2 ^ j = 0 ↔ n.testBit j = false := by
  constructor
  · intro h
    have h1 : (n &&& 2 ^ j).testBit j = false := by rw [h]; simp
    rw [Nat.testBit_and] at h1
    simpa using h1
  · intro h
    apply Nat.eq_of_testBit_eq
    intro i
    rw [Nat.testBit_and]
    by_cases hi : j = i
    · subst hi; simp [h]
    · first | (simp [Nat.testBit_two_pow, hi]; done) | (simp [Nat.testBit_two_pow_of_ne hi]; done)
/-- one bit of a long -/
theorem fb_bitL {n j : Nat} (hj : j < 63) : lN n &&& lN (2 ^ j) = 0 ↔ n.testBit j = false := by
  have h2 : (2 : Nat) ^ j < 2 ^ 63 := Nat.pow_lt_pow_right (by decide) hj
  have hle : n &&& 2 ^ j ≤ 2 ^ j := Nat.and_le_right
  rw [fb_andL, ← fb_bit_nat, show (0 : Int64) = lN 0 from rfl]
  exact fb_lN_inj (by omega) (by decide)
/-- a bit set, a bit taken off -/
theorem fb_bit_set (n j i : Nat) : (n ||| 2 ^ j).testBit i = (n.testBit i || decide (i = j)) := by
  rw [Nat.testBit_or]
  by_cases h : j = i
  · subst h; simp
  · have h2 : ¬ i = j := fun e => h e.symm
    first | (simp [Nat.testBit_two_pow, h, h2]; done) | (simp [Nat.testBit_two_pow_of_ne h, h2]; done)
theorem fb_bit_flip (n j i : Nat) : (n ^^^ 2 ^ j).testBit i = (n.testBit i ^^ decide (i = j)) := by
  rw [Nat.testBit_xor]
  by_cases h : j = i
  · subst h; simp
  · have h2 : ¬ i = j := fun e => h e.symm
    first | (simp [Nat.testBit_two_pow, h, h2]; done) | (simp [Nat.testBit_two_pow_of_ne h, h2]; done)
/-! ===== a stretch of an array written over by a function ===== -/
def fb_put {α : Type} (f g : Nat → α) (a n : Nat) : Nat → α := fun k => if a ≤ k ∧ k < a + n then g (k - a) else f k
theorem fb_put_0 {α : Type} (f g : Nat → α) (a : Nat) : fb_put f g a 0 = f := funext fun k => if_neg (by omega)
theorem fb_put_in {α : Type} {f g : Nat → α} {a n k : Nat} (h1 : a ≤ k) (h2 : k < a + n) : fb_put f g a n k = g (k - a) := if_pos ⟨h1, h2⟩
theorem fb_put_out {α : Type} {f g : Nat → α} {a n k : Nat} (h : k < a ∨ a + n ≤ k) : fb_put f g a n k = f k := if_neg (by omega)
theorem fb_put_succ (f g : Nat → Int32) (a n : Nat) : upd (fb_put f g a n) (a + n) (g n) = fb_put f g a (n + 1) := by
  funext k
  by_cases h : k = a + n
  · subst h
    simp [upd, fb_put]
  · by_cases h1 : a ≤ k ∧ k < a + n
    · have h2 : a ≤ k ∧ k < a + (n + 1) := by omega
      simp only [upd, fb_put, if_neg h, if_pos h1, if_pos h2]
    · have h2 : ¬ (a ≤ k ∧ k < a + (n + 1)) := by omega
      simp only [upd, fb_put, if_neg h, if_neg h1, if_neg h2]
/-- .. from the far end down -/
theorem fb_put_down (f g : Nat → Int32) {a n m : Nat} (h : m < n) : upd (fb_put f (fun k => g (k + (m + 1))) (a + (m + 1)) (n - (m + 1))) (a + m) (g m) = fb_put f (fun k => g (k + m)) (a + m) (n - m) := by
  funext k
  by_cases h0 : k = a + m
  · subst h0
    simp only [upd, if_true]
    rw [fb_put_in (by omega) (by omega)]
    exact congrArg g (by omega)
  · simp only [upd, if_neg h0]
    by_cases h1 : a + (m + 1) ≤ k ∧ k < a + (m + 1) + (n - (m + 1))
    · rw [fb_put_in h1.1 h1.2, fb_put_in (by omega) (by omega)]
      exact congrArg g (by omega)
    · rw [fb_put_out (by omega), fb_put_out (by omega)]
theorem fb_put_cong {α : Type} {f f2 g g2 : Nat → α} {a n : Nat} (hf : ∀ k, (k < a ∨ a + n ≤ k) → f k = f2 k) (hg : ∀ k, k < n → g k = g2 k) : fb_put f g a n = fb_put f2 g2 a n := by
  funext k
  by_cases h : a ≤ k ∧ k < a + n
  · rw [fb_put_in h.1 h.2, fb_put_in h.1 h.2, hg _ (by omega)]
  · rw [fb_put_out (by omega), fb_put_out (by omega), hf _ (by omega)]
/-! ===== the least, the first, the best so far; that there is one alone ===== -/
theorem fb_first {p : Nat → Prop} [DecidablePred p] : ∀ {n : Nat}, (∃ i, i < n ∧ p i) → ∃ i, i < n ∧ p i ∧ ∀ j, j < i → ¬ p j
  | 0, h => by obtain ⟨i, hi, -⟩ := h; exact absurd hi (Nat.not_lt_zero i)
  | n + 1, h => by
    by_cases q : ∃ i, i < n ∧ p i
    · obtain ⟨i, h1, h2⟩ := fb_first q
      exact ⟨i, by omega, h2⟩
    · obtain ⟨i, h1, h2⟩ := h
      have e : i = n := by
        rcases Nat.lt_or_ge i n with r | r
        · exact absurd ⟨i, r, h2⟩ q
        · omega
      subst e
      exact ⟨i, by omega, h2, fun j hj hp => q ⟨j, hj, hp⟩⟩
theorem fb_first_one {p : Nat → Prop} {i j : Nat} (hi : p i) (hi2 : ∀ k, k < i → ¬ p k) (hj : p j) (hj2 : ∀ k, k < j → ¬ p k) : i = j := by
  rcases Nat.lt_trichotomy i j with q | q | q
  · exact absurd hi (hj2 i q)
  · exact q
  · exact absurd hj (hi2 j q)
theorem fb_last {p : Nat → Prop} [DecidablePred p] : ∀ {n : Nat}, (∃ i, i < n ∧ p i) → ∃ i, i < n ∧ p i ∧ ∀ j, i < j → j < n → ¬ p j
  | 0, h => by obtain ⟨i, hi, -⟩ := h; exact absurd hi (Nat.not_lt_zero i)
  | n + 1, h => by
    by_cases q : p n
    · exact ⟨n, by omega, q, fun j h1 h2 => by omega⟩
    · obtain ⟨i, h1, h2⟩ := h
      have hi : i < n := by
        rcases Nat.lt_or_ge i n with r | r
        · exact r
        · have e : i = n := by omega
          subst e
          exact absurd h2 q
      obtain ⟨i2, a1, a2, a3⟩ := fb_last (n := n) ⟨i, hi, h2⟩
      refine ⟨i2, by omega, a2, fun j b1 b2 => ?_⟩
      rcases Nat.lt_or_ge j n with r | r
      · exact a3 j b1 r
      · have e : j = n := by omega
        subst e
        exact q
/-- the first greatest -/
theorem fb_best (f : Nat → Int) : ∀ {n : Nat}, 0 < n → ∃ i, i < n ∧ (∀ j, j < n → f j ≤ f i) ∧ ∀ j, j < i → f j < f i
  | 0, h => absurd h (Nat.lt_irrefl 0)
  | 1, _ => ⟨0, by omega, fun j hj => by have e : j = 0 := by omega
                                         subst e; exact Int.le_refl _, fun j hj => absurd hj (Nat.not_lt_zero j)⟩
  | n + 2, _ => by
    obtain ⟨i, h1, h2, h3⟩ := fb_best f (n := n + 1) (by omega)
    by_cases q : f i < f (n + 1)
    · refine ⟨n + 1, by omega, fun j hj => ?_, fun j hj => ?_⟩
      · rcases Nat.lt_or_ge j (n + 1) with r | r
        · have := h2 j r; omega
        · have e : j = n + 1 := by omega
          subst e; exact Int.le_refl _
      · have := h2 j hj; omega
    · refine ⟨i, by omega, fun j hj => ?_, h3⟩
      rcases Nat.lt_or_ge j (n + 1) with r | r
      · exact h2 j r
      · have e : j = n + 1 := by omega
        subst e; omega
theorem fb_best_one {f : Nat → Int} {n i j : Nat} (hi : i < n) (hi2 : ∀ k, k < n → f k ≤ f i) (hi3 : ∀ k, k < i → f k < f i) (hj : j < n) (hj2 : ∀ k, k < n → f k ≤ f j) (hj3 : ∀ k, k < j → f k < f j) : i = j := by
  rcases Nat.lt_trichotomy i j with q | q | q
  · have a := hj3 i q
    have b := hi2 j hj
    omega
  · exact q
  · have a := hi3 j q
    have b := hj2 i hi
    omega
/-- the first least -/
theorem fb_low (f : Nat → Int) {n : Nat} (h : 0 < n) : ∃ i, i < n ∧ (∀ j, j < n → f i ≤ f j) ∧ ∀ j, j < i → f i < f j := by
  obtain ⟨i, h1, h2, h3⟩ := fb_best (fun k => -f k) h
  exact ⟨i, h1, fun j hj => by have := h2 j hj; omega, fun j hj => by have := h3 j hj; omega⟩
/-! ===== signed ints as whole numbers, within bounds ===== -/
theorem fb_rng (x : Int32) : -2147483648 ≤ x.toInt ∧ x.toInt < 2147483648 := by
  have h1 := Int32.le_toInt x
  have h2 := Int32.toInt_lt x
  omega
theorem fb_bmod {z : Int} (h1 : -2147483648 ≤ z) (h2 : z < 2147483648) : z.bmod (2 ^ 32) = z := by
  rw [Int.bmod_eq_of_le (by omega) (by omega)]
theorem fb_addI {x y : Int32} (h1 : -2147483648 ≤ x.toInt + y.toInt) (h2 : x.toInt + y.toInt < 2147483648) : (x + y).toInt = x.toInt + y.toInt := by
  rw [Int32.toInt_add, fb_bmod h1 h2]
theorem fb_subI {x y : Int32} (h1 : -2147483648 ≤ x.toInt - y.toInt) (h2 : x.toInt - y.toInt < 2147483648) : (x - y).toInt = x.toInt - y.toInt := by
  rw [Int32.toInt_sub, fb_bmod h1 h2]
theorem fb_mulI {x y : Int32} (h1 : -2147483648 ≤ x.toInt * y.toInt) (h2 : x.toInt * y.toInt < 2147483648) : (x * y).toInt = x.toInt * y.toInt := by
  rw [Int32.toInt_mul, fb_bmod h1 h2]
theorem fb_negI {x : Int32} (h : x.toInt ≠ -2147483648) : (-x).toInt = -x.toInt := by
  have := fb_rng x
  rw [Int32.toInt_neg, fb_bmod (by omega) (by omega)]
theorem fb_ofI {z : Int} (h1 : -2147483648 ≤ z) (h2 : z < 2147483648) : (Int32.ofInt z).toInt = z := by
  rw [Int32.toInt_ofInt, fb_bmod h1 h2]
theorem fb_asI (x : Int32) : Int32.ofInt x.toInt = x := Int32.ofInt_toInt x
theorem fb_rngL (x : Int64) : -9223372036854775808 ≤ x.toInt ∧ x.toInt < 9223372036854775808 := by
  have h1 := Int64.le_toInt x
  have h2 := Int64.toInt_lt x
  omega
theorem fb_bmodL {z : Int} (h1 : -9223372036854775808 ≤ z) (h2 : z < 9223372036854775808) : z.bmod (2 ^ 64) = z := by
  rw [Int.bmod_eq_of_le (by omega) (by omega)]
theorem fb_addL {x y : Int64} (h1 : -9223372036854775808 ≤ x.toInt + y.toInt) (h2 : x.toInt + y.toInt < 9223372036854775808) : (x + y).toInt = x.toInt + y.toInt := by
  rw [Int64.toInt_add, fb_bmodL h1 h2]
theorem fb_subL {x y : Int64} (h1 : -9223372036854775808 ≤ x.toInt - y.toInt) (h2 : x.toInt - y.toInt < 9223372036854775808) : (x - y).toInt = x.toInt - y.toInt := by
  rw [Int64.toInt_sub, fb_bmodL h1 h2]
theorem fb_mulL {x y : Int64} (h1 : -9223372036854775808 ≤ x.toInt * y.toInt) (h2 : x.toInt * y.toInt < 9223372036854775808) : (x * y).toInt = x.toInt * y.toInt := by
  rw [Int64.toInt_mul, fb_bmodL h1 h2]
/-! ===== cuts of what is narrow already ===== -/
theorem fb_byte {x : Int32} (h1 : -128 ≤ x.toInt) (h2 : x.toInt < 128) : x.toInt8.toInt32 = x := by
  apply Int32.toInt_inj.1
  rw [Int8.toInt_toInt32, Int32.toInt_toInt8, Int.bmod_eq_of_le (by omega) (by omega)]
theorem fb_short {x : Int32} (h1 : -32768 ≤ x.toInt) (h2 : x.toInt < 32768) : x.toInt16.toInt32 = x := by
  apply Int32.toInt_inj.1
  rw [Int16.toInt_toInt32, Int32.toInt_toInt16, Int.bmod_eq_of_le (by omega) (by omega)]
theorem fb_byte_rng (x : Int32) : -128 ≤ x.toInt8.toInt32.toInt ∧ x.toInt8.toInt32.toInt < 128 := by
  rw [Int8.toInt_toInt32]
  have h1 := Int8.le_toInt x.toInt8
  have h2 := Int8.toInt_lt x.toInt8
  omega
theorem fb_short_rng (x : Int32) : -32768 ≤ x.toInt16.toInt32.toInt ∧ x.toInt16.toInt32.toInt < 32768 := by
  rw [Int16.toInt_toInt32]
  have h1 := Int16.le_toInt x.toInt16
  have h2 := Int16.toInt_lt x.toInt16
  omega
theorem fb_byte_twice (x : Int32) : x.toInt8.toInt32.toInt8.toInt32 = x.toInt8.toInt32 := fb_byte (fb_byte_rng x).1 (fb_byte_rng x).2
theorem fb_short_twice (x : Int32) : x.toInt16.toInt32.toInt16.toInt32 = x.toInt16.toInt32 := fb_short (fb_short_rng x).1 (fb_short_rng x).2
theorem fb_char {n : Nat} (h : n < 65536) : (nI n).toUInt32.toUInt16.toUInt32.toInt32 = nI n := by
  apply Int32.toBitVec_inj.1
  apply BitVec.eq_of_toNat_eq
  have e1 : (nI n).toBitVec.toNat = n := by
    show (BitVec.ofNat 32 n).toNat = n
    rw [BitVec.toNat_ofNat, Nat.mod_eq_of_lt (by omega)]
  have e2 : ((nI n).toUInt32.toUInt16.toUInt32).toNat = n := by
    rw [UInt16.toNat_toUInt32, UInt32.toNat_toUInt16]
    show (nI n).toBitVec.toNat % 2 ^ 16 = n
    rw [e1, Nat.mod_eq_of_lt (by omega)]
  rw [e1]
  exact e2
end
section
set_option maxRecDepth 100000 in
set_option maxHeartbeats 4000000 in
theorem ct_X8_forgets {l : Launch} {g : Geo} {X : Mm} {K : AV → Mm → Prop} (hk : ∀ X2 : Mm, (∀ c j, X2 c j = if (c = 45 ∨ c = 46) ∧ j < 8 then 0 else if c = 44 ∧ (j = 3 ∨ j = 5 ∨ j = 11 ∨ j = 12 ∨ j = 13) then 0 else X c j) → K (vI 0) X2) : Ct l g mX8_forgets [vR 44] X K := by
  refine enter (by decide) (Nat.le_of_ble_eq_true rfl) (fun κ => ?_)
  have loop : ∀ k : Nat, k ≤ 8 → ∀ X2 : Mm, (∀ c j, X2 c j = if (c = 45 ∨ c = 46) ∧ j < k then 0 else X c j) → G l g mX8_forgets κ K 2 [(0, vR 44), (1, vI (k : Int))] [] X2 := by
    refine upTo 8 ?_
    intro k hk8 ih X2 hX2
    refine g_iload_n rfl dX8_forgets_2 ?_
    refine g_bipush (by decide) dX8_forgets_3 ?_
    refine g_icmp_ge (t := 28) dX8_forgets_5 (by decide) (by first | omega | (simp [st2]; done) | (simp [st2]; omega)) (by first | omega | (simp [st2]; done) | (simp [st2]; omega)) (fun b5 => ?_) (fun b5 => ?_)
    · refine g_aload_n rfl dX8_forgets_28 ?_
      refine g_iconst dX8_forgets_29 ?_
      refine pf_X8_91 rfl (by first | rfl | assumption) dX8_forgets_30 ?_
      refine g_aload_n rfl dX8_forgets_33 ?_
      refine g_iconst dX8_forgets_34 ?_
      refine pf_X8_94 rfl (by first | rfl | assumption) dX8_forgets_35 ?_
      refine g_aload_n rfl dX8_forgets_38 ?_
      refine g_iconst dX8_forgets_39 ?_
      refine pf_X8_97 (by omega) rfl (by first | rfl | assumption) dX8_forgets_40 ?_
      refine g_aload_n rfl dX8_forgets_43 ?_
      refine g_iconst dX8_forgets_44 ?_
      refine pf_X8_101 rfl (by first | rfl | assumption) dX8_forgets_45 ?_
      refine g_aload_n rfl dX8_forgets_48 ?_
      refine g_iconst dX8_forgets_49 ?_
      refine pf_X8_104 rfl (by first | rfl | assumption) dX8_forgets_50 ?_
      refine g_return rfl dX8_forgets_53 ?_
      refine hk _ ?_
      intro c j
      unfold st2
      grind
    · refine g_aload_n rfl dX8_forgets_8 ?_
      refine gf_X8_7 (c2 := 45) rfl rfl (by first | rfl | assumption) dX8_forgets_9 ?_
      refine g_iload_n rfl dX8_forgets_12 ?_
      refine g_iconst dX8_forgets_13 ?_
      refine g_iast (n := 8) (_) (by first | rfl | assumption) (by first | rfl | assumption) rfl (by first | omega | (simp [st2]; done) | (simp [st2]; omega)) (by first | omega | (simp [st2]; done) | (simp [st2]; omega)) dX8_forgets_14 ?_
      refine g_aload_n rfl dX8_forgets_15 ?_
      refine gf_X8_13 (c2 := 46) rfl rfl (by first | rfl | assumption) dX8_forgets_16 ?_
      refine g_iload_n rfl dX8_forgets_19 ?_
      refine g_iconst dX8_forgets_20 ?_
      refine g_iast (n := 8) (_) (by first | rfl | assumption) (by first | rfl | assumption) rfl (by first | omega | (simp [st2]; done) | (simp [st2]; omega)) (by first | omega | (simp [st2]; done) | (simp [st2]; omega)) dX8_forgets_21 ?_
      refine g_iinc rfl (by decide) dX8_forgets_22 ?_
      refine g_goto (t := 2) dX8_forgets_25 (by decide) ?_
      refine g_subl [(0, vR 44), (1, vI ((k + 1 : Nat) : Int))] rfl ?_
      exact ih (k + 1) (by omega) (by omega) _ (by intro c j; unfold st2; grind)
  refine g_iconst dX8_forgets_0 ?_
  refine g_istore_n (by decide) dX8_forgets_1 ?_
  refine g_subl [(0, vR 44), (1, vI ((0 : Nat) : Int))] rfl ?_
  exact loop 0 (by omega) X (by intro c j; simp)
theorem ct_X8_root {l : Launch} {g : Geo} {X : Mm} {K : AV → Mm → Prop} {r : Int} (hr : -2147483648 ≤ r ∧ r < 2147483648) (h0 : ¬ isRoot r → K (vI 0) X) (h1 : isRoot r → ∀ X2 : Mm, (∀ c j, X2 c j = if (c = 45 ∨ c = 46) ∧ j < 8 then 0 else if c = 44 ∧ j = 0 then r else if c = 44 ∧ (j = 3 ∨ j = 5 ∨ j = 11 ∨ j = 12 ∨ j = 13) then 0 else X c j) → K (vI 1) X2) : Ct l g mX8_root [vR 44, vI r] X K := by
  refine enter (by decide) (Nat.le_of_ble_eq_true rfl) (fun κ => ?_)
  unfold isRoot at h0 h1
  refine g_iload_n rfl dX8_root_0 ?_
  refine g_if_eq (t := 27) dX8_root_1 (by decide) (by first | omega | (simp [st2]; done) | (simp [st2]; omega)) (fun b1 => ?_) (fun b1 => ?_)
  · refine g_aload_n rfl dX8_root_27 ?_
    refine g_cv0v (M2 := mX8_forgets) (ci := 8) dX8_root_28 ml_RX8_107 kX8_forgets rfl (by first | rfl | assumption) (by decide) rfl (by unfold Rm; decide) (Nat.le_of_ble_eq_true rfl) (ct_X8_forgets (fun X2 hX2 => ?_))
    refine g_aload_n rfl dX8_root_31 ?_
    refine g_iload_n rfl dX8_root_32 ?_
    refine pf_X8_87 rfl (by first | rfl | assumption) dX8_root_33 ?_
    refine g_iconst dX8_root_36 ?_
    refine g_zreturn rfl (by omega) dX8_root_37 ?_
    refine h1 (by omega) _ ?_
    intro c j
    unfold st2
    grind
  · refine g_iload_n rfl dX8_root_4 ?_
    refine g_iconst dX8_root_5 ?_
    refine g_icmp_eq (t := 27) dX8_root_6 (by decide) (by first | omega | (simp [st2]; done) | (simp [st2]; omega)) (by first | omega | (simp [st2]; done) | (simp [st2]; omega)) (fun b6 => ?_) (fun b6 => ?_)
    · refine g_aload_n rfl dX8_root_27 ?_
      refine g_cv0v (M2 := mX8_forgets) (ci := 8) dX8_root_28 ml_RX8_107 kX8_forgets rfl (by first | rfl | assumption) (by decide) rfl (by unfold Rm; decide) (Nat.le_of_ble_eq_true rfl) (ct_X8_forgets (fun X2 hX2 => ?_))
      refine g_aload_n rfl dX8_root_31 ?_
      refine g_iload_n rfl dX8_root_32 ?_
      refine pf_X8_87 rfl (by first | rfl | assumption) dX8_root_33 ?_
      refine g_iconst dX8_root_36 ?_
      refine g_zreturn rfl (by omega) dX8_root_37 ?_
      refine h1 (by omega) _ ?_
      intro c j
      unfold st2
      grind
    · refine g_iload_n rfl dX8_root_9 ?_
      refine g_iconst dX8_root_10 ?_
      refine g_icmp_eq (t := 27) dX8_root_11 (by decide) (by first | omega | (simp [st2]; done) | (simp [st2]; omega)) (by first | omega | (simp [st2]; done) | (simp [st2]; omega)) (fun b11 => ?_) (fun b11 => ?_)
      · refine g_aload_n rfl dX8_root_27 ?_
        refine g_cv0v (M2 := mX8_forgets) (ci := 8) dX8_root_28 ml_RX8_107 kX8_forgets rfl (by first | rfl | assumption) (by decide) rfl (by unfold Rm; decide) (Nat.le_of_ble_eq_true rfl) (ct_X8_forgets (fun X2 hX2 => ?_))
        refine g_aload_n rfl dX8_root_31 ?_
        refine g_iload_n rfl dX8_root_32 ?_
        refine pf_X8_87 rfl (by first | rfl | assumption) dX8_root_33 ?_
        refine g_iconst dX8_root_36 ?_
        refine g_zreturn rfl (by omega) dX8_root_37 ?_
        refine h1 (by omega) _ ?_
        intro c j
        unfold st2
        grind
      · refine g_iload_n rfl dX8_root_14 ?_
        refine g_iconst dX8_root_15 ?_
        refine g_icmp_eq (t := 27) dX8_root_16 (by decide) (by first | omega | (simp [st2]; done) | (simp [st2]; omega)) (by first | omega | (simp [st2]; done) | (simp [st2]; omega)) (fun b16 => ?_) (fun b16 => ?_)
        · refine g_aload_n rfl dX8_root_27 ?_
          refine g_cv0v (M2 := mX8_forgets) (ci := 8) dX8_root_28 ml_RX8_107 kX8_forgets rfl (by first | rfl | assumption) (by decide) rfl (by unfold Rm; decide) (Nat.le_of_ble_eq_true rfl) (ct_X8_forgets (fun X2 hX2 => ?_))
          refine g_aload_n rfl dX8_root_31 ?_
          refine g_iload_n rfl dX8_root_32 ?_
          refine pf_X8_87 rfl (by first | rfl | assumption) dX8_root_33 ?_
          refine g_iconst dX8_root_36 ?_
          refine g_zreturn rfl (by omega) dX8_root_37 ?_
          refine h1 (by omega) _ ?_
          intro c j
          unfold st2
          grind
        · refine g_iload_n rfl dX8_root_19 ?_
          refine g_bipush (by decide) dX8_root_20 ?_
          refine g_icmp_eq (t := 27) dX8_root_22 (by decide) (by first | omega | (simp [st2]; done) | (simp [st2]; omega)) (by first | omega | (simp [st2]; done) | (simp [st2]; omega)) (fun b22 => ?_) (fun b22 => ?_)
          · refine g_aload_n rfl dX8_root_27 ?_
            refine g_cv0v (M2 := mX8_forgets) (ci := 8) dX8_root_28 ml_RX8_107 kX8_forgets rfl (by first | rfl | assumption) (by decide) rfl (by unfold Rm; decide) (Nat.le_of_ble_eq_true rfl) (ct_X8_forgets (fun X2 hX2 => ?_))
            refine g_aload_n rfl dX8_root_31 ?_
            refine g_iload_n rfl dX8_root_32 ?_
            refine pf_X8_87 rfl (by first | rfl | assumption) dX8_root_33 ?_
            refine g_iconst dX8_root_36 ?_
            refine g_zreturn rfl (by omega) dX8_root_37 ?_
            refine h1 (by omega) _ ?_
            intro c j
            unfold st2
            grind
          · refine g_iconst dX8_root_25 ?_
            refine g_zreturn rfl (by omega) dX8_root_26 ?_
            exact h0 (by omega)
end
section
def lenOk (r k a b : Int) : Prop := (0 ≤ k ∧ k < 8) ∧ (-16384 ≤ a ∧ a ≤ 16384) ∧ (-16384 ≤ b ∧ b ≤ 16384) ∧ (r ≠ 0 ∨ b = 0) ∧ 0 < val r a b
theorem ct_X8_length {l : Launch} {g : Geo} {X : Mm} {K : AV → Mm → Prop} {k a b : Int} (hr : isRoot (X 44 0)) (hk : -2147483648 ≤ k ∧ k < 2147483648) (ha : -2147483648 ≤ a ∧ a < 2147483648) (hb : -2147483648 ≤ b ∧ b < 2147483648) (h0 : ¬ lenOk (X 44 0) k a b → K (vI 0) X) (h1 : lenOk (X 44 0) k a b → K (vI 1) (st2 (st2 X 45 k.toNat a) 46 k.toNat b)) : Ct l g mX8_length [vR 44, vI k, vI a, vI b] X K := by
  refine enter (by decide) (Nat.le_of_ble_eq_true rfl) (fun κ => ?_)
  have hr2 := hr
  unfold isRoot at hr2
  unfold lenOk at h0 h1
  refine g_iload_n rfl dX8_length_0 ?_
  refine g_if_lt (t := 55) dX8_length_1 (by decide) (by first | omega | (simp [st2]; done) | (simp [st2]; omega)) (fun b1 => ?_) (fun b1 => ?_)
  · refine g_iconst dX8_length_55 ?_
    refine g_zreturn rfl (by omega) dX8_length_56 ?_
    exact h0 (by omega)
  · refine g_iload_n rfl dX8_length_4 ?_
    refine g_bipush (by decide) dX8_length_5 ?_
    refine g_icmp_ge (t := 55) dX8_length_7 (by decide) (by first | omega | (simp [st2]; done) | (simp [st2]; omega)) (by first | omega | (simp [st2]; done) | (simp [st2]; omega)) (fun b7 => ?_) (fun b7 => ?_)
    · refine g_iconst dX8_length_55 ?_
      refine g_zreturn rfl (by omega) dX8_length_56 ?_
      exact h0 (by omega)
    · refine g_iload_n rfl dX8_length_10 ?_
      refine g_i2l (by first | omega | (simp [st2]; done) | (simp [st2]; omega)) dX8_length_11 ?_
      refine g_ldc2 (n := (16384)) kc_RX8_110 dX8_length_12 ?_
      refine g_cs2 (M2 := mX8_isIn) dX8_length_15 ml_RX8_112 kX8_isIn rfl (by decide) (by unfold Rm; decide) (Nat.le_of_ble_eq_true rfl) (ct_X8_isIn (by omega) (by omega) ?_)
      refine g_if_eq (t := 55) dX8_length_18 (by decide) (by first | omega | (simp [st2]; done) | (simp [st2]; omega)) (fun b18 => ?_) (fun b18 => ?_)
      · refine g_iconst dX8_length_55 ?_
        refine g_zreturn rfl (by omega) dX8_length_56 ?_
        exact h0 (by omega)
      · refine g_iload_n rfl dX8_length_21 ?_
        refine g_i2l (by first | omega | (simp [st2]; done) | (simp [st2]; omega)) dX8_length_22 ?_
        refine g_ldc2 (n := (16384)) kc_RX8_110 dX8_length_23 ?_
        refine g_cs2 (M2 := mX8_isIn) dX8_length_26 ml_RX8_112 kX8_isIn rfl (by decide) (by unfold Rm; decide) (Nat.le_of_ble_eq_true rfl) (ct_X8_isIn (by omega) (by omega) ?_)
        refine g_if_eq (t := 55) dX8_length_29 (by decide) (by first | omega | (simp [st2]; done) | (simp [st2]; omega)) (fun b29 => ?_) (fun b29 => ?_)
        · refine g_iconst dX8_length_55 ?_
          refine g_zreturn rfl (by omega) dX8_length_56 ?_
          exact h0 (by omega)
        · refine g_aload_n rfl dX8_length_32 ?_
          refine gf_X8_87 rfl (by first | rfl | assumption) dX8_length_33 ?_
          refine g_if_ne (t := 43) dX8_length_36 (by decide) (by first | omega | (simp [st2]; done) | (simp [st2]; omega)) (fun b36 => ?_) (fun b36 => ?_)
          · refine g_aload_n rfl dX8_length_43 ?_
            refine g_iload_n rfl dX8_length_44 ?_
            refine g_i2l (by first | omega | (simp [st2]; done) | (simp [st2]; omega)) dX8_length_45 ?_
            refine g_iload_n rfl dX8_length_46 ?_
            refine g_i2l (by first | omega | (simp [st2]; done) | (simp [st2]; omega)) dX8_length_47 ?_
            refine g_cv2 (M2 := mX8_signOf) (ci := 8) dX8_length_48 ml_RX8_116 kX8_signOf (by decide) (by first | rfl | assumption) (by decide) rfl (by unfold Rm; decide) (Nat.le_of_ble_eq_true rfl) (ct_X8_signOf hr (by omega) (by omega) ?_)
            have sv := sgn_neg (r := X 44 0) (a := a) (b := b) hr (by omega) (by omega) (by omega)
            refine g_iconst dX8_length_51 ?_
            refine g_icmp_ge (t := 57) dX8_length_52 (by decide) (by first | omega | (simp [st2]; done) | (simp [st2]; omega)) (by first | omega | (simp [st2]; done) | (simp [st2]; omega)) (fun b52 => ?_) (fun b52 => ?_)
            · refine g_aload_n rfl dX8_length_57 ?_
              refine gf_X8_7 (c2 := 45) rfl rfl (by first | rfl | assumption) dX8_length_58 ?_
              refine g_iload_n rfl dX8_length_61 ?_
              refine g_iload_n rfl dX8_length_62 ?_
              refine g_iast (n := 8) (k.toNat) (by first | rfl | assumption) (by first | rfl | assumption) (by omega) (by first | omega | (simp [st2]; done) | (simp [st2]; omega)) (by first | omega | (simp [st2]; done) | (simp [st2]; omega)) dX8_length_63 ?_
              refine g_aload_n rfl dX8_length_64 ?_
              refine gf_X8_13 (c2 := 46) rfl rfl (by first | rfl | assumption) dX8_length_65 ?_
              refine g_iload_n rfl dX8_length_68 ?_
              refine g_iload_n rfl dX8_length_69 ?_
              refine g_iast (n := 8) (k.toNat) (by first | rfl | assumption) (by first | rfl | assumption) (by omega) (by first | omega | (simp [st2]; done) | (simp [st2]; omega)) (by first | omega | (simp [st2]; done) | (simp [st2]; omega)) dX8_length_70 ?_
              refine g_iconst dX8_length_71 ?_
              refine g_zreturn rfl (by omega) dX8_length_72 ?_
              exact h1 (by omega)
            · refine g_iconst dX8_length_55 ?_
              refine g_zreturn rfl (by omega) dX8_length_56 ?_
              exact h0 (by omega)
          · refine g_iload_n rfl dX8_length_39 ?_
            refine g_if_ne (t := 55) dX8_length_40 (by decide) (by first | omega | (simp [st2]; done) | (simp [st2]; omega)) (fun b40 => ?_) (fun b40 => ?_)
            · refine g_iconst dX8_length_55 ?_
              refine g_zreturn rfl (by omega) dX8_length_56 ?_
              exact h0 (by omega)
            · refine g_aload_n rfl dX8_length_43 ?_
              refine g_iload_n rfl dX8_length_44 ?_
              refine g_i2l (by first | omega | (simp [st2]; done) | (simp [st2]; omega)) dX8_length_45 ?_
              refine g_iload_n rfl dX8_length_46 ?_
              refine g_i2l (by first | omega | (simp [st2]; done) | (simp [st2]; omega)) dX8_length_47 ?_
              refine g_cv2 (M2 := mX8_signOf) (ci := 8) dX8_length_48 ml_RX8_116 kX8_signOf (by decide) (by first | rfl | assumption) (by decide) rfl (by unfold Rm; decide) (Nat.le_of_ble_eq_true rfl) (ct_X8_signOf hr (by omega) (by omega) ?_)
              have sv := sgn_neg (r := X 44 0) (a := a) (b := b) hr (by omega) (by omega) (by omega)
              refine g_iconst dX8_length_51 ?_
              refine g_icmp_ge (t := 57) dX8_length_52 (by decide) (by first | omega | (simp [st2]; done) | (simp [st2]; omega)) (by first | omega | (simp [st2]; done) | (simp [st2]; omega)) (fun b52 => ?_) (fun b52 => ?_)
              · refine g_aload_n rfl dX8_length_57 ?_
                refine gf_X8_7 (c2 := 45) rfl rfl (by first | rfl | assumption) dX8_length_58 ?_
                refine g_iload_n rfl dX8_length_61 ?_
                refine g_iload_n rfl dX8_length_62 ?_
                refine g_iast (n := 8) (k.toNat) (by first | rfl | assumption) (by first | rfl | assumption) (by omega) (by first | omega | (simp [st2]; done) | (simp [st2]; omega)) (by first | omega | (simp [st2]; done) | (simp [st2]; omega)) dX8_length_63 ?_
                refine g_aload_n rfl dX8_length_64 ?_
                refine gf_X8_13 (c2 := 46) rfl rfl (by first | rfl | assumption) dX8_length_65 ?_
                refine g_iload_n rfl dX8_length_68 ?_
                refine g_iload_n rfl dX8_length_69 ?_
                refine g_iast (n := 8) (k.toNat) (by first | rfl | assumption) (by first | rfl | assumption) (by omega) (by first | omega | (simp [st2]; done) | (simp [st2]; omega)) (by first | omega | (simp [st2]; done) | (simp [st2]; omega)) dX8_length_70 ?_
                refine g_iconst dX8_length_71 ?_
                refine g_zreturn rfl (by omega) dX8_length_72 ?_
                exact h1 (by omega)
              · refine g_iconst dX8_length_55 ?_
                refine g_zreturn rfl (by omega) dX8_length_56 ?_
                exact h0 (by omega)
theorem ct_X7_length {l : Launch} {g : Geo} {X : Mm} {K : AV → Mm → Prop} {k a b : Int} (hr : isRoot (X 0 0)) (hk : -2147483648 ≤ k ∧ k < 2147483648) (ha : -2147483648 ≤ a ∧ a < 2147483648) (hb : -2147483648 ≤ b ∧ b < 2147483648) (h0 : ¬ lenOk (X 0 0) k a b → K (vI 0) X) (h1 : lenOk (X 0 0) k a b → K (vI 1) (st2 (st2 X 2 k.toNat a) 3 k.toNat b)) : Ct l g mX7_length [vR 0, vI k, vI a, vI b] X K := by
  refine enter (by decide) (Nat.le_of_ble_eq_true rfl) (fun κ => ?_)
  have hr2 := hr
  unfold isRoot at hr2
  unfold lenOk at h0 h1
  refine g_iload_n rfl dX7_length_0 ?_
  refine g_if_lt (t := 36) dX7_length_1 (by decide) (by first | omega | (simp [st2]; done) | (simp [st2]; omega)) (fun b1 => ?_) (fun b1 => ?_)
  · refine g_iconst dX7_length_36 ?_
    refine g_zreturn rfl (by omega) dX7_length_37 ?_
    exact h0 (by omega)
  · refine g_iload_n rfl dX7_length_4 ?_
    refine g_bipush (by decide) dX7_length_5 ?_
    refine g_icmp_ge (t := 36) dX7_length_7 (by decide) (by first | omega | (simp [st2]; done) | (simp [st2]; omega)) (by first | omega | (simp [st2]; done) | (simp [st2]; omega)) (fun b7 => ?_) (fun b7 => ?_)
    · refine g_iconst dX7_length_36 ?_
      refine g_zreturn rfl (by omega) dX7_length_37 ?_
      exact h0 (by omega)
    · refine g_aload_n rfl dX7_length_10 ?_
      refine g_iload_n rfl dX7_length_11 ?_
      refine g_iload_n rfl dX7_length_12 ?_
      refine g_sipush (by decide) dX7_length_13 ?_
      refine g_cv3 (M2 := mX7_canBe) (ci := 7) dX7_length_16 ml_RX7_81 kX7_canBe (by decide) (by first | rfl | assumption) (by decide) rfl (by unfold Rm; decide) (Nat.le_of_ble_eq_true rfl) (ct_X7_canBe hr (by omega) (by omega) (by omega) ?_)
      refine g_if_eq (t := 36) dX7_length_19 (by decide) (by first | omega | (simp [st2]; done) | (simp [st2]; omega)) (fun b19 => ?_) (fun b19 => ?_)
      · refine g_iconst dX7_length_36 ?_
        refine g_zreturn rfl (by omega) dX7_length_37 ?_
        exact h0 (by omega)
      · refine g_iload_n rfl dX7_length_22 ?_
        refine g_i2l (by first | omega | (simp [st2]; done) | (simp [st2]; omega)) dX7_length_23 ?_
        refine g_iload_n rfl dX7_length_24 ?_
        refine g_i2l (by first | omega | (simp [st2]; done) | (simp [st2]; omega)) dX7_length_25 ?_
        refine g_aload_n rfl dX7_length_26 ?_
        refine gf_X7_7 rfl (by first | rfl | assumption) dX7_length_27 ?_
        refine g_cs3 (M2 := mX7_signOf) dX7_length_30 ml_RX7_85 kX7_signOf rfl (by decide) (by unfold Rm; decide) (Nat.le_of_ble_eq_true rfl) (ct_X7_signOf hr (by omega) (by omega) ?_)
        have sv := sgn_neg (r := X 0 0) (a := a) (b := b) hr (by omega) (by omega) (by omega)
        refine g_if_gt (t := 38) dX7_length_33 (by decide) (by first | omega | (simp [st2]; done) | (simp [st2]; omega)) (fun b33 => ?_) (fun b33 => ?_)
        · refine g_aload_n rfl dX7_length_38 ?_
          refine gf_X7_16 (c2 := 1) rfl rfl (by first | rfl | assumption) dX7_length_39 ?_
          refine gf_X7_89 (c2 := 2) rfl rfl (by first | rfl | assumption) dX7_length_42 ?_
          refine g_iload_n rfl dX7_length_45 ?_
          refine g_iload_n rfl dX7_length_46 ?_
          refine g_iast (n := 8) (k.toNat) (by first | rfl | assumption) (by first | rfl | assumption) (by omega) (by first | omega | (simp [st2]; done) | (simp [st2]; omega)) (by first | omega | (simp [st2]; done) | (simp [st2]; omega)) dX7_length_47 ?_
          refine g_aload_n rfl dX7_length_48 ?_
          refine gf_X7_16 (c2 := 1) rfl rfl (by first | rfl | assumption) dX7_length_49 ?_
          refine gf_X7_93 (c2 := 3) rfl rfl (by first | rfl | assumption) dX7_length_52 ?_
          refine g_iload_n rfl dX7_length_55 ?_
          refine g_iload_n rfl dX7_length_56 ?_
          refine g_iast (n := 8) (k.toNat) (by first | rfl | assumption) (by first | rfl | assumption) (by omega) (by first | omega | (simp [st2]; done) | (simp [st2]; omega)) (by first | omega | (simp [st2]; done) | (simp [st2]; omega)) dX7_length_57 ?_
          refine g_iconst dX7_length_58 ?_
          refine g_zreturn rfl (by omega) dX7_length_59 ?_
          exact h1 (by omega)
        · refine g_iconst dX7_length_36 ?_
          refine g_zreturn rfl (by omega) dX7_length_37 ?_
          exact h0 (by omega)
theorem ct_X4_clear {l : Launch} {g : Geo} {X : Mm} {K : AV → Mm → Prop} (hk : ∀ X2 : Mm, (∀ c j, X2 c j = if (c = 2 ∨ c = 3) ∧ j < 8 then 0 else if c = 1 ∧ j = 0 then 0 else X c j) → K (vI 0) X2) : Ct l g mX4_clear [vR 1] X K := by
  refine enter (by decide) (Nat.le_of_ble_eq_true rfl) (fun κ => ?_)
  have loop : ∀ k : Nat, k ≤ 8 → ∀ X2 : Mm, (∀ c j, X2 c j = if (c = 2 ∨ c = 3) ∧ j < k then 0 else if c = 1 ∧ j = 0 then 0 else X c j) → G l g mX4_clear κ K 7 [(0, vR 1), (1, vI (k : Int))] [] X2 := by
    refine upTo 8 ?_
    intro k hk8 ih X2 hX2
    refine g_iload_n rfl dX4_clear_7 ?_
    refine g_bipush (by decide) dX4_clear_8 ?_
    refine g_icmp_ge (t := 33) dX4_clear_10 (by decide) (by first | omega | (simp [st2]; done) | (simp [st2]; omega)) (by first | omega | (simp [st2]; done) | (simp [st2]; omega)) (fun b10 => ?_) (fun b10 => ?_)
    · refine g_return rfl dX4_clear_33 ?_
      refine hk _ ?_
      intro c j
      rw [hX2]
      grind
    · refine g_aload_n rfl dX4_clear_13 ?_
      refine gf_X4_9 (c2 := 2) rfl rfl (by first | rfl | assumption) dX4_clear_14 ?_
      refine g_iload_n rfl dX4_clear_17 ?_
      refine g_iconst dX4_clear_18 ?_
      refine g_iast (n := 8) (_) (by first | rfl | assumption) (by first | rfl | assumption) rfl (by first | omega | (simp [st2]; done) | (simp [st2]; omega)) (by first | omega | (simp [st2]; done) | (simp [st2]; omega)) dX4_clear_19 ?_
      refine g_aload_n rfl dX4_clear_20 ?_
      refine gf_X4_15 (c2 := 3) rfl rfl (by first | rfl | assumption) dX4_clear_21 ?_
      refine g_iload_n rfl dX4_clear_24 ?_
      refine g_iconst dX4_clear_25 ?_
      refine g_iast (n := 8) (_) (by first | rfl | assumption) (by first | rfl | assumption) rfl (by first | omega | (simp [st2]; done) | (simp [st2]; omega)) (by first | omega | (simp [st2]; done) | (simp [st2]; omega)) dX4_clear_26 ?_
      refine g_iinc rfl (by decide) dX4_clear_27 ?_
      refine g_goto (t := 7) dX4_clear_30 (by decide) ?_
      refine g_subl [(0, vR 1), (1, vI ((k + 1 : Nat) : Int))] rfl ?_
      exact ih (k + 1) (by omega) (by omega) _ (by intro c j; unfold st2; grind)
  refine g_aload_n rfl dX4_clear_0 ?_
  refine g_iconst dX4_clear_1 ?_
  refine pf_X4_21 rfl (by first | rfl | assumption) dX4_clear_2 ?_
  refine g_iconst dX4_clear_5 ?_
  refine g_istore_n (by decide) dX4_clear_6 ?_
  refine g_subl [(0, vR 1), (1, vI ((0 : Nat) : Int))] rfl ?_
  exact loop 0 (by omega) _ (by intro c j; unfold st2; grind)
theorem ct_X7_root {l : Launch} {g : Geo} {X : Mm} {K : AV → Mm → Prop} {r : Int} (hr : -2147483648 ≤ r ∧ r < 2147483648) (h0 : ¬ isRoot r → K (vI 0) X) (h1 : isRoot r → ∀ X2 : Mm, (∀ c j, X2 c j = if (c = 2 ∨ c = 3) ∧ j < 8 then 0 else if c = 0 ∧ j = 0 then r else if (c = 1 ∨ c = 5 ∨ c = 29) ∧ j = 0 then 0 else X c j) → K (vI 1) X2) : Ct l g mX7_root [vR 0, vI r] X K := by
  refine enter (by decide) (Nat.le_of_ble_eq_true rfl) (fun κ => ?_)
  unfold isRoot at h0 h1
  refine g_iload_n rfl dX7_root_0 ?_
  refine g_if_eq (t := 27) dX7_root_1 (by decide) (by first | omega | (simp [st2]; done) | (simp [st2]; omega)) (fun b1 => ?_) (fun b1 => ?_)
  · refine g_aload_n rfl dX7_root_27 ?_
    refine g_iload_n rfl dX7_root_28 ?_
    refine pf_X7_7 rfl (by first | rfl | assumption) dX7_root_29 ?_
    refine g_aload_n rfl dX7_root_32 ?_
    refine gf_X7_16 (c2 := 1) rfl rfl (by first | rfl | assumption) dX7_root_33 ?_
    refine g_cv0v (M2 := mX4_clear) (ci := 4) dX7_root_36 ml_RX7_71 kX4_clear rfl (by first | rfl | assumption) (by decide) rfl (by unfold Rm; decide) (Nat.le_of_ble_eq_true rfl) (ct_X4_clear (fun X2 hX2 => ?_))
    refine g_aload_n rfl dX7_root_39 ?_
    refine gf_X7_23 (c2 := 5) rfl rfl (by first | rfl | assumption) dX7_root_40 ?_
    refine g_iconst dX7_root_43 ?_
    refine pf_X7_74 rfl (by first | rfl | assumption) dX7_root_44 ?_
    refine g_aload_n rfl dX7_root_47 ?_
    refine gf_X7_43 (c2 := 29) rfl rfl (by first | rfl | assumption) dX7_root_48 ?_
    refine g_iconst dX7_root_51 ?_
    refine pf_X7_77 (by omega) rfl (by first | rfl | assumption) dX7_root_52 ?_
    refine g_iconst dX7_root_55 ?_
    refine g_zreturn rfl (by omega) dX7_root_56 ?_
    refine h1 (by omega) _ ?_
    intro c j
    unfold st2 at *
    grind
  · refine g_iload_n rfl dX7_root_4 ?_
    refine g_iconst dX7_root_5 ?_
    refine g_icmp_eq (t := 27) dX7_root_6 (by decide) (by first | omega | (simp [st2]; done) | (simp [st2]; omega)) (by first | omega | (simp [st2]; done) | (simp [st2]; omega)) (fun b6 => ?_) (fun b6 => ?_)
    · refine g_aload_n rfl dX7_root_27 ?_
      refine g_iload_n rfl dX7_root_28 ?_
      refine pf_X7_7 rfl (by first | rfl | assumption) dX7_root_29 ?_
      refine g_aload_n rfl dX7_root_32 ?_
      refine gf_X7_16 (c2 := 1) rfl rfl (by first | rfl | assumption) dX7_root_33 ?_
      refine g_cv0v (M2 := mX4_clear) (ci := 4) dX7_root_36 ml_RX7_71 kX4_clear rfl (by first | rfl | assumption) (by decide) rfl (by unfold Rm; decide) (Nat.le_of_ble_eq_true rfl) (ct_X4_clear (fun X2 hX2 => ?_))
      refine g_aload_n rfl dX7_root_39 ?_
      refine gf_X7_23 (c2 := 5) rfl rfl (by first | rfl | assumption) dX7_root_40 ?_
      refine g_iconst dX7_root_43 ?_
      refine pf_X7_74 rfl (by first | rfl | assumption) dX7_root_44 ?_
      refine g_aload_n rfl dX7_root_47 ?_
      refine gf_X7_43 (c2 := 29) rfl rfl (by first | rfl | assumption) dX7_root_48 ?_
      refine g_iconst dX7_root_51 ?_
      refine pf_X7_77 (by omega) rfl (by first | rfl | assumption) dX7_root_52 ?_
      refine g_iconst dX7_root_55 ?_
      refine g_zreturn rfl (by omega) dX7_root_56 ?_
      refine h1 (by omega) _ ?_
      intro c j
      unfold st2 at *
      grind
    · refine g_iload_n rfl dX7_root_9 ?_
      refine g_iconst dX7_root_10 ?_
      refine g_icmp_eq (t := 27) dX7_root_11 (by decide) (by first | omega | (simp [st2]; done) | (simp [st2]; omega)) (by first | omega | (simp [st2]; done) | (simp [st2]; omega)) (fun b11 => ?_) (fun b11 => ?_)
      · refine g_aload_n rfl dX7_root_27 ?_
        refine g_iload_n rfl dX7_root_28 ?_
        refine pf_X7_7 rfl (by first | rfl | assumption) dX7_root_29 ?_
        refine g_aload_n rfl dX7_root_32 ?_
        refine gf_X7_16 (c2 := 1) rfl rfl (by first | rfl | assumption) dX7_root_33 ?_
        refine g_cv0v (M2 := mX4_clear) (ci := 4) dX7_root_36 ml_RX7_71 kX4_clear rfl (by first | rfl | assumption) (by decide) rfl (by unfold Rm; decide) (Nat.le_of_ble_eq_true rfl) (ct_X4_clear (fun X2 hX2 => ?_))
        refine g_aload_n rfl dX7_root_39 ?_
        refine gf_X7_23 (c2 := 5) rfl rfl (by first | rfl | assumption) dX7_root_40 ?_
        refine g_iconst dX7_root_43 ?_
        refine pf_X7_74 rfl (by first | rfl | assumption) dX7_root_44 ?_
        refine g_aload_n rfl dX7_root_47 ?_
        refine gf_X7_43 (c2 := 29) rfl rfl (by first | rfl | assumption) dX7_root_48 ?_
        refine g_iconst dX7_root_51 ?_
        refine pf_X7_77 (by omega) rfl (by first | rfl | assumption) dX7_root_52 ?_
        refine g_iconst dX7_root_55 ?_
        refine g_zreturn rfl (by omega) dX7_root_56 ?_
        refine h1 (by omega) _ ?_
        intro c j
        unfold st2 at *
        grind
      · refine g_iload_n rfl dX7_root_14 ?_
        refine g_iconst dX7_root_15 ?_
        refine g_icmp_eq (t := 27) dX7_root_16 (by decide) (by first | omega | (simp [st2]; done) | (simp [st2]; omega)) (by first | omega | (simp [st2]; done) | (simp [st2]; omega)) (fun b16 => ?_) (fun b16 => ?_)
        · refine g_aload_n rfl dX7_root_27 ?_
          refine g_iload_n rfl dX7_root_28 ?_
          refine pf_X7_7 rfl (by first | rfl | assumption) dX7_root_29 ?_
          refine g_aload_n rfl dX7_root_32 ?_
          refine gf_X7_16 (c2 := 1) rfl rfl (by first | rfl | assumption) dX7_root_33 ?_
          refine g_cv0v (M2 := mX4_clear) (ci := 4) dX7_root_36 ml_RX7_71 kX4_clear rfl (by first | rfl | assumption) (by decide) rfl (by unfold Rm; decide) (Nat.le_of_ble_eq_true rfl) (ct_X4_clear (fun X2 hX2 => ?_))
          refine g_aload_n rfl dX7_root_39 ?_
          refine gf_X7_23 (c2 := 5) rfl rfl (by first | rfl | assumption) dX7_root_40 ?_
          refine g_iconst dX7_root_43 ?_
          refine pf_X7_74 rfl (by first | rfl | assumption) dX7_root_44 ?_
          refine g_aload_n rfl dX7_root_47 ?_
          refine gf_X7_43 (c2 := 29) rfl rfl (by first | rfl | assumption) dX7_root_48 ?_
          refine g_iconst dX7_root_51 ?_
          refine pf_X7_77 (by omega) rfl (by first | rfl | assumption) dX7_root_52 ?_
          refine g_iconst dX7_root_55 ?_
          refine g_zreturn rfl (by omega) dX7_root_56 ?_
          refine h1 (by omega) _ ?_
          intro c j
          unfold st2 at *
          grind
        · refine g_iload_n rfl dX7_root_19 ?_
          refine g_bipush (by decide) dX7_root_20 ?_
          refine g_icmp_eq (t := 27) dX7_root_22 (by decide) (by first | omega | (simp [st2]; done) | (simp [st2]; omega)) (by first | omega | (simp [st2]; done) | (simp [st2]; omega)) (fun b22 => ?_) (fun b22 => ?_)
          · refine g_aload_n rfl dX7_root_27 ?_
            refine g_iload_n rfl dX7_root_28 ?_
            refine pf_X7_7 rfl (by first | rfl | assumption) dX7_root_29 ?_
            refine g_aload_n rfl dX7_root_32 ?_
            refine gf_X7_16 (c2 := 1) rfl rfl (by first | rfl | assumption) dX7_root_33 ?_
            refine g_cv0v (M2 := mX4_clear) (ci := 4) dX7_root_36 ml_RX7_71 kX4_clear rfl (by first | rfl | assumption) (by decide) rfl (by unfold Rm; decide) (Nat.le_of_ble_eq_true rfl) (ct_X4_clear (fun X2 hX2 => ?_))
            refine g_aload_n rfl dX7_root_39 ?_
            refine gf_X7_23 (c2 := 5) rfl rfl (by first | rfl | assumption) dX7_root_40 ?_
            refine g_iconst dX7_root_43 ?_
            refine pf_X7_74 rfl (by first | rfl | assumption) dX7_root_44 ?_
            refine g_aload_n rfl dX7_root_47 ?_
            refine gf_X7_43 (c2 := 29) rfl rfl (by first | rfl | assumption) dX7_root_48 ?_
            refine g_iconst dX7_root_51 ?_
            refine pf_X7_77 (by omega) rfl (by first | rfl | assumption) dX7_root_52 ?_
            refine g_iconst dX7_root_55 ?_
            refine g_zreturn rfl (by omega) dX7_root_56 ?_
            refine h1 (by omega) _ ?_
            intro c j
            unfold st2 at *
            grind
          · refine g_iconst dX7_root_25 ?_
            refine g_zreturn rfl (by omega) dX7_root_26 ?_
            exact h0 (by omega)
/-! the order below, told by four bits each -/
def nib (o : Int) (j : Nat) : Nat := ((o / 2 ^ (4 * j)) % 16).toNat
theorem nib_lt (o : Int) (j : Nat) : nib o j < 16 := by
  unfold nib
  omega
theorem nib_cl {o : Int} {j : Nat} (hj : j < 8) : (o % 4294967296) / 2 ^ (4 * j) % 2 ^ 4 = (nib o j : Int) := by
  unfold nib
  rcases (show j = 0 ∨ j = 1 ∨ j = 2 ∨ j = 3 ∨ j = 4 ∨ j = 5 ∨ j = 6 ∨ j = 7 by omega) with e | e | e | e | e | e | e | e <;> subst e <;> simp only [Nat.reduceMul, Int.reducePow] <;> omega
theorem nib_ml {o : Int} {j : Nat} : o / 2 ^ (4 * j) % 2 ^ 4 = (nib o j : Int) := by
  unfold nib
  rw [Int.toNat_of_nonneg (by omega)]
  rfl
def sn (o : Int) : Nat → Nat
  | 0 => 0
  | j + 1 => sn o j ||| 2 ^ nib o j
theorem sn_bit (o : Int) (i : Nat) : ∀ m, (sn o m).testBit i = true ↔ ∃ j, j < m ∧ nib o j = i
  | 0 => by simp [sn]
  | m + 1 => by
    rw [sn, Nat.testBit_or, Nat.testBit_two_pow, Bool.or_eq_true, sn_bit o i m, decide_eq_true_eq]
    constructor
    · rintro (⟨j, h1, h2⟩ | h)
      · exact ⟨j, by omega, h2⟩
      · exact ⟨m, by omega, h⟩
    · rintro ⟨j, h1, h2⟩
      rcases Nat.lt_or_ge j m with q | q
      · exact Or.inl ⟨j, q, h2⟩
      · exact Or.inr (by rw [← h2, show j = m by omega])
theorem sn_lt (o : Int) : ∀ m, sn o m < 2 ^ 16
  | 0 => by simp [sn]
  | m + 1 => by
    rw [sn]
    exact Nat.or_lt_two_pow (sn_lt o m) (Nat.pow_lt_pow_right (by decide) (nib_lt o m))
/-- each of 0 .. n - 1 once -/
def Perm (f : Nat → Nat) (n : Nat) : Prop := (∀ j, j < n → f j < n) ∧ ∀ i j, i < n → j < n → f i = f j → i = j
theorem Perm.onto {f : Nat → Nat} {n k : Nat} (h : Perm f n) (hk : k < n) : ∃ j, j < n ∧ f j = k :=
  fb_onto h.1 (fun i j hij hj e => by have := h.2 i j (by omega) hj e; omega) hk
def ordOk (m o : Int) : Prop := (2 ≤ m ∧ m ≤ 8) ∧ (sn o m.toNat : Int) = 2 ^ m.toNat - 1
theorem sn_all {o : Int} {m : Nat} (h : (sn o m : Int) = 2 ^ m - 1) : ∀ i, (∃ j, j < m ∧ nib o j = i) ↔ i < m := by
  intro i
  have h1 : sn o m = 2 ^ m - 1 := by
    have h2 : ((2 ^ m - 1 : Nat) : Int) = 2 ^ m - 1 := by
      rw [Int.natCast_sub Nat.one_le_two_pow]; simp
    omega
  rw [← sn_bit, h1, Nat.testBit_two_pow_sub_one, decide_eq_true_eq]
theorem sn_perm {o : Int} {m : Nat} (h : (sn o m : Int) = 2 ^ m - 1) : Perm (nib o) m := by
  have h1 := sn_all h
  have h2 : ∀ i, ∃ j, i < m → (j < m ∧ nib o j = i) := by
    intro i
    rcases Nat.lt_or_ge i m with q | q
    · obtain ⟨j, hj⟩ := (h1 i).mpr q
      exact ⟨j, fun _ => hj⟩
    · exact ⟨0, fun z => absurd z (by omega)⟩
  let s : Nat → Nat := fun i => (h2 i).choose
  have hs : ∀ i, i < m → s i < m ∧ nib o (s i) = i := fun i hi => (h2 i).choose_spec hi
  have hon : ∀ {y : Nat}, y < m → ∃ i, i < m ∧ s i = y := fun hy => fb_onto (fun i hi => (hs i hi).1) (fun i j hij hj e => by
    have e1 := (hs i (by omega)).2
    have e2 := (hs j hj).2
    rw [e] at e1
    omega) hy
  refine ⟨fun j hj => (h1 _).mp ⟨j, hj, rfl⟩, fun i j hi hj e => ?_⟩
  obtain ⟨a, ha, ea⟩ := hon hi
  obtain ⟨b, hb, eb⟩ := hon hj
  have e1 := (hs a ha).2
  have e2 := (hs b hb).2
  rw [ea] at e1
  rw [eb] at e2
  have : a = b := by omega
  rw [← ea, ← eb, this]
theorem sn_no {o : Int} {m j : Nat} (hj : j < m) (h : m ≤ nib o j) : ¬ (sn o m : Int) = 2 ^ m - 1 := by
  intro q
  have := (sn_all q (nib o j)).mp ⟨j, hj, rfl⟩
  omega
end
section
theorem pw28 {n : Nat} (h : 2 ≤ n ∧ n ≤ 8) : (4 : Int) ≤ 2 ^ n ∧ (2 : Int) ^ n ≤ 256 := by
  rcases (show n = 2 ∨ n = 3 ∨ n = 4 ∨ n = 5 ∨ n = 6 ∨ n = 7 ∨ n = 8 by omega) with e | e | e | e | e | e | e <;> subst e <;> decide
theorem sn_rng (o : Int) (m : Nat) : -2147483648 ≤ (sn o m : Int) ∧ (sn o m : Int) < 2147483648 := by
  have := sn_lt o m
  omega
set_option maxRecDepth 100000 in
set_option maxHeartbeats 4000000 in
theorem ct_X8_below {l : Launch} {g : Geo} {X : Mm} {K : AV → Mm → Prop} {m o : Int} (hm : -2147483648 ≤ m ∧ m < 2147483648) (ho : -2147483648 ≤ o ∧ o < 2147483648) (h0 : ¬ ordOk m o → K (vI 0) X) (h1 : ordOk m o → ∀ X2 : Mm, (∀ c j, X2 c j = if c = 47 ∧ j < m.toNat then (nib o j : Int) else if c = 44 ∧ j = 3 then m else X c j) → K (vI 1) X2) : Ct l g mX8_below [vR 44, vI m, vI o] X K := by
  refine enter (by decide) (Nat.le_of_ble_eq_true rfl) (fun κ => ?_)
  unfold ordOk at h0 h1
  rcases (show (2 ≤ m ∧ m ≤ 8) ∨ ¬ (2 ≤ m ∧ m ≤ 8) by omega) with hr | hr
  · obtain ⟨n, hn⟩ : ∃ n : Nat, m = (n : Int) := ⟨m.toNat, by omega⟩
    subst hn
    rw [Int.toNat_natCast] at h0 h1
    have hp := pw28 (n := n) (by omega)
    have loop2 : ((sn o n : Int) = 2 ^ n - 1) → ∀ k : Nat, k ≤ n → ∀ X2 : Mm, (∀ c j, X2 c j = if c = 47 ∧ j < k then (nib o j : Int) else if c = 44 ∧ j = 3 then (n : Int) else X c j) → G l g mX8_below κ K 75 [(0, vR 44), (1, vI (n : Int)), (2, vI o), (4, vI (k : Int))] [] X2 := by
      intro hs
      refine upTo n ?_
      intro k hk8 ih X2 hX2
      refine g_iload rfl dX8_below_75 ?_
      refine g_iload_n rfl dX8_below_77 ?_
      refine g_icmp_ge (t := 103) dX8_below_78 (by decide) (by first | omega | (simp [st2]; done) | (simp [st2]; omega)) (by first | omega | (simp [st2]; done) | (simp [st2]; omega)) (fun b78 => ?_) (fun b78 => ?_)
      · refine g_iconst dX8_below_103 ?_
        refine g_zreturn rfl (by omega) dX8_below_104 ?_
        refine h1 ⟨hr, hs⟩ _ ?_
        intro c j
        rw [hX2]
        grind
      · refine g_aload_n rfl dX8_below_81 ?_
        refine gf_X8_16 (c2 := 47) rfl rfl (by first | rfl | assumption) dX8_below_82 ?_
        refine g_iload rfl dX8_below_85 ?_
        refine g_iload_n rfl dX8_below_87 ?_
        refine g_iconst dX8_below_88 ?_
        refine g_iload rfl dX8_below_89 ?_
        refine g_imul dX8_below_91 ?_
        refine g_ishr (4 * k) (by first | omega | (simp [st2]; done) | (simp [st2]; omega)) (by first | omega | (simp [st2]; done) | (simp [st2]; omega)) (by first | omega | (simp [st2]; done) | (simp [st2]; omega)) dX8_below_92 ?_
        refine g_bipush (by decide) dX8_below_93 ?_
        refine g_iand (4) (by decide) (by decide) dX8_below_95 ?_
        rw [nib_ml]
        refine g_iast (n := 8) (_) (by first | rfl | assumption) (by first | rfl | assumption) rfl (by first | omega | (simp [st2]; done) | (simp [st2]; omega)) (by first | omega | (simp [st2]; done) | (simp [st2]; omega)) dX8_below_96 ?_
        refine g_iinc rfl (by decide) dX8_below_97 ?_
        refine g_goto (t := 75) dX8_below_100 (by decide) ?_
        refine g_subl [(0, vR 44), (1, vI (n : Int)), (2, vI o), (4, vI ((k + 1 : Nat) : Int))] rfl ?_
        exact ih (k + 1) (by omega) (by omega) _ (by intro c j; unfold st2; grind)
    have loop : ∀ k : Nat, k ≤ n → (∀ i, i < k → nib o i < n) → G l g mX8_below κ K 18 [(0, vR 44), (1, vI (n : Int)), (2, vI o), (3, vI (sn o k : Int)), (4, vI (k : Int))] [] X := by
      refine upTo n ?_
      intro k hk8 ih hlt
      have hk16 := nib_lt o k
      have hsr := sn_rng o k
      refine g_iload rfl dX8_below_18 ?_
      refine g_iload_n rfl dX8_below_20 ?_
      refine g_icmp_ge (t := 56) dX8_below_21 (by decide) (by first | omega | (simp [st2]; done) | (simp [st2]; omega)) (by first | omega | (simp [st2]; done) | (simp [st2]; omega)) (fun b21 => ?_) (fun b21 => ?_)
      · obtain rfl : n = k := by omega
        refine g_iload_n rfl dX8_below_56 ?_
        refine g_iconst dX8_below_57 ?_
        refine g_iload_n rfl dX8_below_58 ?_
        refine g_ishl (n) (by first | omega | (simp [st2]; done) | (simp [st2]; omega)) (by first | omega | (simp [st2]; done) | (simp [st2]; omega)) dX8_below_59 ?_
        refine g_iconst dX8_below_60 ?_
        refine g_isub dX8_below_61 ?_
        refine g_icmp_eq (t := 67) dX8_below_62 (by decide) (by first | omega | (simp [st2]; done) | (simp [st2]; omega)) (by rw [Int.one_mul]; omega) (fun b62 => ?_) (fun b62 => ?_)
        · rw [Int.one_mul] at b62
          refine g_aload_n rfl dX8_below_67 ?_
          refine g_iload_n rfl dX8_below_68 ?_
          refine pf_X8_91 rfl (by first | rfl | assumption) dX8_below_69 ?_
          refine g_iconst dX8_below_72 ?_
          refine g_istore (by decide) dX8_below_73 ?_
          refine g_subl [(0, vR 44), (1, vI (n : Int)), (2, vI o), (4, vI ((0 : Nat) : Int))] rfl ?_
          exact loop2 b62 0 (by omega) _ (by intro c j; unfold st2; grind)
        · rw [Int.one_mul] at b62
          refine g_iconst dX8_below_65 ?_
          refine g_zreturn rfl (by omega) dX8_below_66 ?_
          exact h0 (fun q => b62 q.2)
      · refine g_iload_n rfl dX8_below_24 ?_
        refine g_iconst dX8_below_25 ?_
        refine g_iload rfl dX8_below_26 ?_
        refine g_imul dX8_below_28 ?_
        refine g_ishr (4 * k) (by first | omega | (simp [st2]; done) | (simp [st2]; omega)) (by first | omega | (simp [st2]; done) | (simp [st2]; omega)) (by first | omega | (simp [st2]; done) | (simp [st2]; omega)) dX8_below_29 ?_
        refine g_bipush (by decide) dX8_below_30 ?_
        refine g_iand (4) (by decide) (by decide) dX8_below_32 ?_
        rw [nib_ml]
        refine g_istore (by decide) dX8_below_33 ?_
        refine g_iload rfl dX8_below_35 ?_
        refine g_iload_n rfl dX8_below_37 ?_
        refine g_icmp_lt (t := 43) dX8_below_38 (by decide) (by first | omega | (simp [st2]; done) | (simp [st2]; omega)) (by first | omega | (simp [st2]; done) | (simp [st2]; omega)) (fun b38 => ?_) (fun b38 => ?_)
        · refine g_iload_n rfl dX8_below_43 ?_
          refine g_iconst dX8_below_44 ?_
          refine g_iload rfl dX8_below_45 ?_
          refine g_ishl (nib o k) (by first | omega | (simp [st2]; done) | (simp [st2]; omega)) (by first | omega | (simp [st2]; done) | (simp [st2]; omega)) dX8_below_47 ?_
          refine g_ior (sn o k) (2 ^ nib o k) rfl (by simp) dX8_below_48 ?_
          refine g_istore_n (by decide) dX8_below_49 ?_
          refine g_iinc rfl (by decide) dX8_below_50 ?_
          refine g_goto (t := 18) dX8_below_53 (by decide) ?_
          refine g_subl [(0, vR 44), (1, vI (n : Int)), (2, vI o), (3, vI ((sn o (k + 1) : Nat) : Int)), (4, vI ((k + 1 : Nat) : Int))] rfl ?_
          exact ih (k + 1) (by omega) (by omega) (by
            intro i hi
            rcases Nat.lt_or_ge i k with q | q
            · exact hlt i q
            · rw [show i = k by omega]; omega)
        · refine g_iconst dX8_below_41 ?_
          refine g_zreturn rfl (by omega) dX8_below_42 ?_
          exact h0 (fun q => sn_no (j := k) (by omega) (by omega) q.2)
    refine g_iload_n rfl dX8_below_0 ?_
    refine g_iconst dX8_below_1 ?_
    refine g_icmp_lt (t := 11) dX8_below_2 (by decide) (by first | omega | (simp [st2]; done) | (simp [st2]; omega)) (by first | omega | (simp [st2]; done) | (simp [st2]; omega)) (fun b2 => ?_) (fun b2 => ?_)
    · exfalso; omega
    · refine g_iload_n rfl dX8_below_5 ?_
      refine g_bipush (by decide) dX8_below_6 ?_
      refine g_icmp_le (t := 13) dX8_below_8 (by decide) (by first | omega | (simp [st2]; done) | (simp [st2]; omega)) (by first | omega | (simp [st2]; done) | (simp [st2]; omega)) (fun b8 => ?_) (fun b8 => ?_)
      · refine g_iconst dX8_below_13 ?_
        refine g_istore_n (by decide) dX8_below_14 ?_
        refine g_iconst dX8_below_15 ?_
        refine g_istore (by decide) dX8_below_16 ?_
        refine g_subl [(0, vR 44), (1, vI (n : Int)), (2, vI o), (3, vI (sn o 0 : Int)), (4, vI ((0 : Nat) : Int))] rfl ?_
        exact loop 0 (by omega) (fun i hi => absurd hi (by omega))
      · exfalso; omega
  · have hr2 := hr
    refine g_iload_n rfl dX8_below_0 ?_
    refine g_iconst dX8_below_1 ?_
    refine g_icmp_lt (t := 11) dX8_below_2 (by decide) (by first | omega | (simp [st2]; done) | (simp [st2]; omega)) (by first | omega | (simp [st2]; done) | (simp [st2]; omega)) (fun b2 => ?_) (fun b2 => ?_)
    · refine g_iconst dX8_below_11 ?_
      refine g_zreturn rfl (by omega) dX8_below_12 ?_
      exact h0 (fun q => hr q.1)
    · refine g_iload_n rfl dX8_below_5 ?_
      refine g_bipush (by decide) dX8_below_6 ?_
      refine g_icmp_le (t := 13) dX8_below_8 (by decide) (by first | omega | (simp [st2]; done) | (simp [st2]; omega)) (by first | omega | (simp [st2]; done) | (simp [st2]; omega)) (fun b8 => ?_) (fun b8 => ?_)
      · exfalso; omega
      · refine g_iconst dX8_below_11 ?_
        refine g_zreturn rfl (by omega) dX8_below_12 ?_
        exact h0 (fun q => hr q.1)
theorem ct_X4_nibble {l : Launch} {g : Geo} {X : Mm} {K : AV → Mm → Prop} {o : Int} {j : Nat} (hj : j < 8) (hk : K (vI (nib o j : Int)) X) : Ct l g mX4_nibble [vI o, vI (j : Int)] X K := by
  refine enter (by decide) (Nat.le_of_ble_eq_true rfl) (fun κ => ?_)
  refine g_iload_n rfl dX4_nibble_0 ?_
  refine g_iconst dX4_nibble_1 ?_
  refine g_iload_n rfl dX4_nibble_2 ?_
  refine g_imul dX4_nibble_3 ?_
  refine g_iushr (4 * j) (by first | omega | (simp [st2]; done) | (simp [st2]; omega)) (by first | omega | (simp [st2]; done) | (simp [st2]; omega)) dX4_nibble_4 ?_
  refine g_bipush (by decide) dX4_nibble_5 ?_
  refine g_iand (4) (by decide) (by decide) dX4_nibble_7 ?_
  refine g_ireturn rfl dX4_nibble_8 ?_
  rw [nib_cl hj]
  exact hk
set_option maxRecDepth 100000 in
set_option maxHeartbeats 4000000 in
theorem ct_X4_takeOrder {l : Launch} {g : Geo} {X : Mm} {K : AV → Mm → Prop} {m o : Int} (hm : -2147483648 ≤ m ∧ m < 2147483648) (ho : -2147483648 ≤ o ∧ o < 2147483648) (h0 : ¬ ordOk m o → K (vI 0) X) (h1 : ordOk m o → ∀ X2 : Mm, (∀ c j, X2 c j = if c = 4 ∧ j < m.toNat then (nib o j : Int) else if c = 1 ∧ j = 0 then m else X c j) → K (vI 1) X2) : Ct l g mX4_takeOrder [vR 1, vI m, vI o] X K := by
  refine enter (by decide) (Nat.le_of_ble_eq_true rfl) (fun κ => ?_)
  unfold ordOk at h0 h1
  rcases (show (2 ≤ m ∧ m ≤ 8) ∨ ¬ (2 ≤ m ∧ m ≤ 8) by omega) with hr | hr
  · obtain ⟨n, hn⟩ : ∃ n : Nat, m = (n : Int) := ⟨m.toNat, by omega⟩
    subst hn
    rw [Int.toNat_natCast] at h0 h1
    have hp := pw28 (n := n) (by omega)
    have loop2 : ((sn o n : Int) = 2 ^ n - 1) → ∀ k : Nat, k ≤ n → ∀ X2 : Mm, (∀ c j, X2 c j = if c = 4 ∧ j < k then (nib o j : Int) else X c j) → G l g mX4_takeOrder κ K 55 [(0, vR 1), (1, vI (n : Int)), (2, vI o), (4, vI (k : Int))] [] X2 := by
      intro hs
      refine upTo n ?_
      intro k hk8 ih X2 hX2
      refine g_iload rfl dX4_takeOrder_55 ?_
      refine g_iload_n rfl dX4_takeOrder_57 ?_
      refine g_icmp_ge (t := 80) dX4_takeOrder_58 (by decide) (by first | omega | (simp [st2]; done) | (simp [st2]; omega)) (by first | omega | (simp [st2]; done) | (simp [st2]; omega)) (fun b58 => ?_) (fun b58 => ?_)
      · refine g_aload_n rfl dX4_takeOrder_80 ?_
        refine g_iload_n rfl dX4_takeOrder_81 ?_
        refine pf_X4_21 rfl (by first | rfl | assumption) dX4_takeOrder_82 ?_
        refine g_iconst dX4_takeOrder_85 ?_
        refine g_zreturn rfl (by omega) dX4_takeOrder_86 ?_
        refine h1 ⟨hr, hs⟩ _ ?_
        intro c j
        unfold st2
        grind
      · refine g_aload_n rfl dX4_takeOrder_61 ?_
        refine gf_X4_18 (c2 := 4) rfl rfl (by first | rfl | assumption) dX4_takeOrder_62 ?_
        refine g_iload rfl dX4_takeOrder_65 ?_
        refine g_iload_n rfl dX4_takeOrder_67 ?_
        refine g_iload rfl dX4_takeOrder_68 ?_
        refine g_cs2 (M2 := mX4_nibble) dX4_takeOrder_70 ml_RX4_25 kX4_nibble rfl (by decide) (by unfold Rm; decide) (Nat.le_of_ble_eq_true rfl) (ct_X4_nibble (by omega) ?_)
        refine g_iast (n := 8) (_) (by first | rfl | assumption) (by first | rfl | assumption) rfl (by first | omega | (simp [st2]; done) | (simp [st2]; omega)) (by first | omega | (simp [st2]; done) | (simp [st2]; omega)) dX4_takeOrder_73 ?_
        refine g_iinc rfl (by decide) dX4_takeOrder_74 ?_
        refine g_goto (t := 55) dX4_takeOrder_77 (by decide) ?_
        refine g_subl [(0, vR 1), (1, vI (n : Int)), (2, vI o), (4, vI ((k + 1 : Nat) : Int))] rfl ?_
        exact ih (k + 1) (by omega) (by omega) _ (by intro c j; unfold st2; grind)
    have loop : ∀ k : Nat, k ≤ n → G l g mX4_takeOrder κ K 18 [(0, vR 1), (1, vI (n : Int)), (2, vI o), (3, vI (sn o k : Int)), (4, vI (k : Int))] [] X := by
      refine upTo n ?_
      intro k hk8 ih
      have hk16 := nib_lt o k
      have hsr := sn_rng o k
      refine g_iload rfl dX4_takeOrder_18 ?_
      refine g_iload_n rfl dX4_takeOrder_20 ?_
      refine g_icmp_ge (t := 41) dX4_takeOrder_21 (by decide) (by first | omega | (simp [st2]; done) | (simp [st2]; omega)) (by first | omega | (simp [st2]; done) | (simp [st2]; omega)) (fun b21 => ?_) (fun b21 => ?_)
      · obtain rfl : n = k := by omega
        refine g_iload_n rfl dX4_takeOrder_41 ?_
        refine g_iconst dX4_takeOrder_42 ?_
        refine g_iload_n rfl dX4_takeOrder_43 ?_
        refine g_ishl (n) (by first | omega | (simp [st2]; done) | (simp [st2]; omega)) (by first | omega | (simp [st2]; done) | (simp [st2]; omega)) dX4_takeOrder_44 ?_
        refine g_iconst dX4_takeOrder_45 ?_
        refine g_isub dX4_takeOrder_46 ?_
        refine g_icmp_eq (t := 52) dX4_takeOrder_47 (by decide) (by first | omega | (simp [st2]; done) | (simp [st2]; omega)) (by rw [Int.one_mul]; omega) (fun b47 => ?_) (fun b47 => ?_)
        · rw [Int.one_mul] at b47
          refine g_iconst dX4_takeOrder_52 ?_
          refine g_istore (by decide) dX4_takeOrder_53 ?_
          refine g_subl [(0, vR 1), (1, vI (n : Int)), (2, vI o), (4, vI ((0 : Nat) : Int))] rfl ?_
          exact loop2 b47 0 (by omega) _ (by intro c j; simp)
        · rw [Int.one_mul] at b47
          refine g_iconst dX4_takeOrder_50 ?_
          refine g_zreturn rfl (by omega) dX4_takeOrder_51 ?_
          exact h0 (fun q => b47 q.2)
      · refine g_iload_n rfl dX4_takeOrder_24 ?_
        refine g_iconst dX4_takeOrder_25 ?_
        refine g_iload_n rfl dX4_takeOrder_26 ?_
        refine g_iload rfl dX4_takeOrder_27 ?_
        refine g_cs2 (M2 := mX4_nibble) dX4_takeOrder_29 ml_RX4_25 kX4_nibble rfl (by decide) (by unfold Rm; decide) (Nat.le_of_ble_eq_true rfl) (ct_X4_nibble (by omega) ?_)
        refine g_ishl (nib o k) (by first | omega | (simp [st2]; done) | (simp [st2]; omega)) (by first | omega | (simp [st2]; done) | (simp [st2]; omega)) dX4_takeOrder_32 ?_
        refine g_ior (sn o k) (2 ^ nib o k) rfl (by simp) dX4_takeOrder_33 ?_
        refine g_istore_n (by decide) dX4_takeOrder_34 ?_
        refine g_iinc rfl (by decide) dX4_takeOrder_35 ?_
        refine g_goto (t := 18) dX4_takeOrder_38 (by decide) ?_
        refine g_subl [(0, vR 1), (1, vI (n : Int)), (2, vI o), (3, vI ((sn o (k + 1) : Nat) : Int)), (4, vI ((k + 1 : Nat) : Int))] rfl ?_
        exact ih (k + 1) (by omega) (by omega)
    refine g_iload_n rfl dX4_takeOrder_0 ?_
    refine g_iconst dX4_takeOrder_1 ?_
    refine g_icmp_lt (t := 11) dX4_takeOrder_2 (by decide) (by first | omega | (simp [st2]; done) | (simp [st2]; omega)) (by first | omega | (simp [st2]; done) | (simp [st2]; omega)) (fun b2 => ?_) (fun b2 => ?_)
    · exfalso; omega
    · refine g_iload_n rfl dX4_takeOrder_5 ?_
      refine g_bipush (by decide) dX4_takeOrder_6 ?_
      refine g_icmp_le (t := 13) dX4_takeOrder_8 (by decide) (by first | omega | (simp [st2]; done) | (simp [st2]; omega)) (by first | omega | (simp [st2]; done) | (simp [st2]; omega)) (fun b8 => ?_) (fun b8 => ?_)
      · refine g_iconst dX4_takeOrder_13 ?_
        refine g_istore_n (by decide) dX4_takeOrder_14 ?_
        refine g_iconst dX4_takeOrder_15 ?_
        refine g_istore (by decide) dX4_takeOrder_16 ?_
        refine g_subl [(0, vR 1), (1, vI (n : Int)), (2, vI o), (3, vI (sn o 0 : Int)), (4, vI ((0 : Nat) : Int))] rfl ?_
        exact loop 0 (by omega)
      · exfalso; omega
  · have hr2 := hr
    refine g_iload_n rfl dX4_takeOrder_0 ?_
    refine g_iconst dX4_takeOrder_1 ?_
    refine g_icmp_lt (t := 11) dX4_takeOrder_2 (by decide) (by first | omega | (simp [st2]; done) | (simp [st2]; omega)) (by first | omega | (simp [st2]; done) | (simp [st2]; omega)) (fun b2 => ?_) (fun b2 => ?_)
    · refine g_iconst dX4_takeOrder_11 ?_
      refine g_zreturn rfl (by omega) dX4_takeOrder_12 ?_
      exact h0 (fun q => hr q.1)
    · refine g_iload_n rfl dX4_takeOrder_5 ?_
      refine g_bipush (by decide) dX4_takeOrder_6 ?_
      refine g_icmp_le (t := 13) dX4_takeOrder_8 (by decide) (by first | omega | (simp [st2]; done) | (simp [st2]; omega)) (by first | omega | (simp [st2]; done) | (simp [st2]; omega)) (fun b8 => ?_) (fun b8 => ?_)
      · exfalso; omega
      · refine g_iconst dX4_takeOrder_11 ?_
        refine g_zreturn rfl (by omega) dX4_takeOrder_12 ?_
        exact h0 (fun q => hr q.1)
theorem ct_X7_below {l : Launch} {g : Geo} {X : Mm} {K : AV → Mm → Prop} {m o : Int} (hm : -2147483648 ≤ m ∧ m < 2147483648) (ho : -2147483648 ≤ o ∧ o < 2147483648) (h0 : ¬ ordOk m o → K (vI 0) X) (h1 : ordOk m o → ∀ X2 : Mm, (∀ c j, X2 c j = if c = 4 ∧ j < m.toNat then (nib o j : Int) else if c = 1 ∧ j = 0 then m else X c j) → K (vI 1) X2) : Ct l g mX7_below [vR 0, vI m, vI o] X K := by
  refine enter (by decide) (Nat.le_of_ble_eq_true rfl) (fun κ => ?_)
  refine g_aload_n rfl dX7_below_0 ?_
  refine gf_X7_16 (c2 := 1) rfl rfl (by first | rfl | assumption) dX7_below_1 ?_
  refine g_iload_n rfl dX7_below_4 ?_
  refine g_iload_n rfl dX7_below_5 ?_
  refine g_cv2 (M2 := mX4_takeOrder) (ci := 4) dX7_below_6 ml_RX7_96 kX4_takeOrder (by decide) (by first | rfl | assumption) (by decide) rfl (by unfold Rm; decide) (Nat.le_of_ble_eq_true rfl) (ct_X4_takeOrder hm ho (fun h => ?_) (fun h X2 hX2 => ?_))
  · refine g_zreturn rfl (by omega) dX7_below_9 ?_
    first | exact h0 h | exact h1 h _ hX2
  · refine g_zreturn rfl (by omega) dX7_below_9 ?_
    first | exact h0 h | exact h1 h _ hX2
end
section
def LayM (X : Mm) (m : Nat) (X2 : Mm) : Prop := (∀ c j, c ≠ 44 → c ≠ 48 → c ≠ 49 → c ≠ 50 → c ≠ 51 → c ≠ 52 → X2 c j = X c j) ∧ (∀ j, j ≠ 5 → j ≠ 11 → j ≠ 12 → j ≠ 13 → X2 44 j = X 44 j) ∧ X2 44 5 = (m : Int) ∧ X2 44 11 = 0 ∧ X2 44 12 = 0 ∧ X2 44 13 = 0 ∧ (∀ k, k < m → X2 48 k = X 45 k ∧ X2 49 k = X 46 k ∧ X2 50 k = (k : Int) ∧ X2 51 k = X 47 k) ∧ ∀ i j, i < m → j < m → X2 52 (8 * i + j) = if i = j then 1 else 0
def LayMi (X : Mm) (m k : Nat) (X2 : Mm) : Prop := (∀ c j, c ≠ 44 → c ≠ 48 → c ≠ 49 → c ≠ 50 → c ≠ 51 → c ≠ 52 → X2 c j = X c j) ∧ (∀ j, j ≠ 5 → X2 44 j = X 44 j) ∧ X2 44 5 = (m : Int) ∧ (∀ i, i < k → X2 48 i = X 45 i ∧ X2 49 i = X 46 i ∧ X2 50 i = (i : Int) ∧ X2 51 i = X 47 i) ∧ ∀ i j, i < k → j < m → X2 52 (8 * i + j) = if i = j then 1 else 0
def LayMj (X : Mm) (m k q : Nat) (X2 : Mm) : Prop := (∀ c j, c ≠ 44 → c ≠ 48 → c ≠ 49 → c ≠ 50 → c ≠ 51 → c ≠ 52 → X2 c j = X c j) ∧ (∀ j, j ≠ 5 → X2 44 j = X 44 j) ∧ X2 44 5 = (m : Int) ∧ (∀ i, i < k + 1 → X2 48 i = X 45 i ∧ X2 49 i = X 46 i ∧ X2 50 i = (i : Int) ∧ X2 51 i = X 47 i) ∧ (∀ i j, i < k → j < m → X2 52 (8 * i + j) = if i = j then 1 else 0) ∧ ∀ j, j < q → X2 52 (8 * k + j) = if k = j then 1 else 0
theorem layMj_0 {X X2 : Mm} {m k : Nat} (h : LayMi X m k X2) : LayMj X m k 0 (st2 (st2 (st2 (st2 X2 48 k (X2 45 k)) 49 k (X2 46 k)) 50 k (k : Int)) 51 k (X2 47 k)) := by
  obtain ⟨e1, e2, e3, e4, e5⟩ := h
  refine ⟨?_, ?_, ?_, ?_, ?_, ?_⟩
  · intro c j a1 a2 a3 a4 a5 a6
    simp only [st2, if_neg a2, if_neg a3, if_neg a4, if_neg a5]
    exact e1 c j a1 a2 a3 a4 a5 a6
  · intro j hj
    simp only [st2]
    exact e2 j hj
  · exact e3
  · intro i hi
    rcases Nat.lt_or_ge i k with z | z
    · have q : i ≠ k := by omega
      simp [st2, q]
      exact e4 i z
    · obtain rfl : i = k := by omega
      simp [st2]
      exact ⟨e1 45 i (by decide) (by decide) (by decide) (by decide) (by decide) (by decide), e1 46 i (by decide) (by decide) (by decide) (by decide) (by decide) (by decide), e1 47 i (by decide) (by decide) (by decide) (by decide) (by decide) (by decide)⟩
  · intro i j hi hj
    simp only [st2]
    exact e5 i j hi hj
  · intro j hj
    omega
theorem layMj_s {X X2 : Mm} {m k q : Nat} {v : Int} (h : LayMj X m k q X2) (hk : k < 8) (hm : m ≤ 8) (hq : q < m) (hv : v = if k = q then 1 else 0) : LayMj X m k (q + 1) (st2 X2 52 (8 * k + q) v) := by
  obtain ⟨e1, e2, e3, e4, e5, e6⟩ := h
  refine ⟨?_, ?_, ?_, ?_, ?_, ?_⟩
  · intro c j a1 a2 a3 a4 a5 a6
    simp only [st2, if_neg a6]
    exact e1 c j a1 a2 a3 a4 a5 a6
  · exact e2
  · exact e3
  · exact e4
  · intro i j hi hj
    have z : 8 * i + j ≠ 8 * k + q := by omega
    simp only [st2, if_true, if_neg z]
    exact e5 i j hi hj
  · intro j hj
    rcases Nat.lt_or_ge j q with z | z
    · have z2 : 8 * k + j ≠ 8 * k + q := by omega
      simp only [st2, if_true, if_neg z2]
      exact e6 j z
    · obtain rfl : j = q := by omega
      simp only [st2, if_true]
      exact hv
theorem layM_e {X X2 : Mm} {m : Nat} (h : LayMi X m m X2) : LayM X m (st2 (st2 (st2 X2 44 11 0) 44 12 0) 44 13 0) := by
  obtain ⟨e1, e2, e3, e4, e5⟩ := h
  refine ⟨?_, ?_, e3, rfl, rfl, rfl, e4, e5⟩
  · intro c j a1 a2 a3 a4 a5 a6
    simp only [st2, if_neg a1]
    exact e1 c j a1 a2 a3 a4 a5 a6
  · intro j b1 b2 b3 b4
    simp only [st2, if_true, if_neg b2, if_neg b3, if_neg b4]
    exact e2 j b1
set_option maxRecDepth 100000 in
set_option maxHeartbeats 4000000 in
theorem ct_X8_lay {l : Launch} {g : Geo} {X : Mm} {K : AV → Mm → Prop} {m : Nat} (hm : X 44 3 = (m : Int)) (hm8 : m ≤ 8) (hA : ∀ k, k < 8 → -16384 ≤ X 45 k ∧ X 45 k ≤ 16384) (hB : ∀ k, k < 8 → -16384 ≤ X 46 k ∧ X 46 k ≤ 16384) (h0 : m = 0 → K (vI (-1)) X) (h1 : 0 < m → (∃ k, k < m ∧ X 45 k = 0 ∧ X 46 k = 0) → K (vI (-2)) X) (h2 : 0 < m → (∀ k, k < m → ¬ (X 45 k = 0 ∧ X 46 k = 0)) → ∀ X2, LayM X m X2 → K (vI (m : Int)) X2) : Ct l g mX8_lay [vR 44] X K := by
  refine enter (by decide) (Nat.le_of_ble_eq_true rfl) (fun κ => ?_)
  have loop3 : ∀ k, k < m → (∀ X3, LayMi X m (k + 1) X3 → G l g mX8_lay κ K 146 [(0, vR 44), (1, vI (k : Int))] [] X3) → ∀ q, q ≤ m → ∀ X2, LayMj X m k q X2 → G l g mX8_lay κ K 111 [(0, vR 44), (1, vI (k : Int)), (2, vI (q : Int))] [] X2 := by
    intro k hkm go
    refine upTo m ?_
    intro q hq ih X2 hX2
    have h5 : X2 44 5 = (m : Int) := hX2.2.2.1
    refine g_iload_n rfl dX8_lay_111 ?_
    refine g_aload_n rfl dX8_lay_112 ?_
    refine gf_X8_94 rfl (by first | rfl | assumption) dX8_lay_113 ?_
    refine g_icmp_ge (t := 146) dX8_lay_116 (by decide) (by first | omega | (simp [st2]; done) | (simp [st2]; omega)) (by first | omega | (simp [st2]; done) | (simp [st2]; omega)) (fun b116 => ?_) (fun b116 => ?_)
    · refine g_subl [(0, vR 44), (1, vI (k : Int))] rfl ?_
      refine go _ ?_
      clear ih go
      obtain ⟨e1, e2, e3, e4, e5, e6⟩ := hX2
      refine ⟨e1, e2, e3, e4, ?_⟩
      intro i j hi hj
      rcases Nat.lt_or_ge i k with z | z
      · exact e5 i j z hj
      · rw [show i = k by omega]
        exact e6 j (by omega)
    · refine g_aload_n rfl dX8_lay_119 ?_
      refine gf_X8_32 (c2 := 52) rfl rfl (by first | rfl | assumption) dX8_lay_120 ?_
      refine g_bipush (by decide) dX8_lay_123 ?_
      refine g_iload_n rfl dX8_lay_125 ?_
      refine g_imul dX8_lay_126 ?_
      refine g_iload_n rfl dX8_lay_127 ?_
      refine g_iadd dX8_lay_128 ?_
      refine g_iload_n rfl dX8_lay_129 ?_
      refine g_iload_n rfl dX8_lay_130 ?_
      refine g_icmp_ne (t := 138) dX8_lay_131 (by decide) (by first | omega | (simp [st2]; done) | (simp [st2]; omega)) (by first | omega | (simp [st2]; done) | (simp [st2]; omega)) (fun b131 => ?_) (fun b131 => ?_)
      · refine g_lconst rfl dX8_lay_138 ?_
        refine g_last (n := 64) (8 * k + q) (by first | rfl | assumption) (by first | rfl | assumption) (by omega) (by first | omega | (simp [st2]; done) | (simp [st2]; omega)) (by first | omega | (simp [st2]; done) | (simp [st2]; omega)) dX8_lay_139 ?_
        refine g_iinc rfl (by decide) dX8_lay_140 ?_
        refine g_goto (t := 111) dX8_lay_143 (by decide) ?_
        refine g_subl [(0, vR 44), (1, vI (k : Int)), (2, vI ((q + 1 : Nat) : Int))] rfl ?_
        exact ih (q + 1) (by omega) (by omega) _ (layMj_s hX2 (by omega) hm8 (by omega) (by split <;> omega))
      · refine g_lconst rfl dX8_lay_134 ?_
        refine g_goto (t := 139) dX8_lay_135 (by decide) ?_
        refine g_last (n := 64) (8 * k + q) (by first | rfl | assumption) (by first | rfl | assumption) (by omega) (by first | omega | (simp [st2]; done) | (simp [st2]; omega)) (by first | omega | (simp [st2]; done) | (simp [st2]; omega)) dX8_lay_139 ?_
        refine g_iinc rfl (by decide) dX8_lay_140 ?_
        refine g_goto (t := 111) dX8_lay_143 (by decide) ?_
        refine g_subl [(0, vR 44), (1, vI (k : Int)), (2, vI ((q + 1 : Nat) : Int))] rfl ?_
        exact ih (q + 1) (by omega) (by omega) _ (layMj_s hX2 (by omega) hm8 (by omega) (by split <;> omega))
  have loop2 : 0 < m → (∀ k, k < m → ¬ (X 45 k = 0 ∧ X 46 k = 0)) → ∀ k, k ≤ m → ∀ X2, LayMi X m k X2 → G l g mX8_lay κ K 56 [(0, vR 44), (1, vI (k : Int))] [] X2 := by
    intro hpos hall
    refine upTo m ?_
    intro k hkm ih X2 hX2
    have h5 : X2 44 5 = (m : Int) := hX2.2.2.1
    refine g_iload_n rfl dX8_lay_56 ?_
    refine g_aload_n rfl dX8_lay_57 ?_
    refine gf_X8_94 rfl (by first | rfl | assumption) dX8_lay_58 ?_
    refine g_icmp_ge (t := 152) dX8_lay_61 (by decide) (by first | omega | (simp [st2]; done) | (simp [st2]; omega)) (by first | omega | (simp [st2]; done) | (simp [st2]; omega)) (fun b61 => ?_) (fun b61 => ?_)
    · refine g_aload_n rfl dX8_lay_152 ?_
      refine g_iconst dX8_lay_153 ?_
      refine pf_X8_101 rfl (by first | rfl | assumption) dX8_lay_154 ?_
      refine g_aload_n rfl dX8_lay_157 ?_
      refine g_iconst dX8_lay_158 ?_
      refine pf_X8_104 rfl (by first | rfl | assumption) dX8_lay_159 ?_
      refine g_aload_n rfl dX8_lay_162 ?_
      refine g_iconst dX8_lay_163 ?_
      refine pf_X8_97 (by omega) rfl (by first | rfl | assumption) dX8_lay_164 ?_
      refine g_aload_n rfl dX8_lay_167 ?_
      refine gf_X8_94 rfl (by first | rfl | assumption) dX8_lay_168 ?_
      refine g_ireturn rfl dX8_lay_171 ?_
      obtain rfl : m = k := by omega
      exact kE (h2 hpos hall _ (layM_e hX2)) h5.symm
    · have a1 := hA k (by omega)
      have a2 := hB k (by omega)
      have a3 := hX2.1 45 k (by decide) (by decide) (by decide) (by decide) (by decide) (by decide)
      have a4 := hX2.1 46 k (by decide) (by decide) (by decide) (by decide) (by decide) (by decide)
      refine g_aload_n rfl dX8_lay_64 ?_
      refine gf_X8_19 (c2 := 48) rfl rfl (by first | rfl | assumption) dX8_lay_65 ?_
      refine g_iload_n rfl dX8_lay_68 ?_
      refine g_aload_n rfl dX8_lay_69 ?_
      refine gf_X8_7 (c2 := 45) rfl rfl (by first | rfl | assumption) dX8_lay_70 ?_
      refine g_iload_n rfl dX8_lay_73 ?_
      refine g_iald (n := 8) (_) (by first | rfl | assumption) (by first | rfl | assumption) rfl (by first | omega | (simp [st2]; done) | (simp [st2]; omega)) (by first | omega | (simp [st2]; done) | (simp [st2]; omega)) dX8_lay_74 ?_
      refine g_i2l (by first | omega | (simp [st2]; done) | (simp [st2]; omega)) dX8_lay_75 ?_
      refine g_last (n := 8) (_) (by first | rfl | assumption) (by first | rfl | assumption) rfl (by first | omega | (simp [st2]; done) | (simp [st2]; omega)) (by first | omega | (simp [st2]; done) | (simp [st2]; omega)) dX8_lay_76 ?_
      refine g_aload_n rfl dX8_lay_77 ?_
      refine gf_X8_23 (c2 := 49) rfl rfl (by first | rfl | assumption) dX8_lay_78 ?_
      refine g_iload_n rfl dX8_lay_81 ?_
      refine g_aload_n rfl dX8_lay_82 ?_
      refine gf_X8_13 (c2 := 46) rfl rfl (by first | rfl | assumption) dX8_lay_83 ?_
      refine g_iload_n rfl dX8_lay_86 ?_
      refine g_iald (n := 8) (_) (by first | rfl | assumption) (by first | rfl | assumption) rfl (by first | omega | (simp [st2]; done) | (simp [st2]; omega)) (by first | omega | (simp [st2]; done) | (simp [st2]; omega)) dX8_lay_87 ?_
      refine g_i2l (by first | omega | (simp [st2]; done) | (simp [st2]; omega)) dX8_lay_88 ?_
      refine g_last (n := 8) (_) (by first | rfl | assumption) (by first | rfl | assumption) rfl (by first | omega | (simp [st2]; done) | (simp [st2]; omega)) (by first | omega | (simp [st2]; done) | (simp [st2]; omega)) dX8_lay_89 ?_
      refine g_aload_n rfl dX8_lay_90 ?_
      refine gf_X8_26 (c2 := 50) rfl rfl (by first | rfl | assumption) dX8_lay_91 ?_
      refine g_iload_n rfl dX8_lay_94 ?_
      refine g_iload_n rfl dX8_lay_95 ?_
      refine g_iast (n := 8) (_) (by first | rfl | assumption) (by first | rfl | assumption) rfl (by first | omega | (simp [st2]; done) | (simp [st2]; omega)) (by first | omega | (simp [st2]; done) | (simp [st2]; omega)) dX8_lay_96 ?_
      refine g_aload_n rfl dX8_lay_97 ?_
      refine gf_X8_29 (c2 := 51) rfl rfl (by first | rfl | assumption) dX8_lay_98 ?_
      refine g_iload_n rfl dX8_lay_101 ?_
      refine g_aload_n rfl dX8_lay_102 ?_
      refine gf_X8_16 (c2 := 47) rfl rfl (by first | rfl | assumption) dX8_lay_103 ?_
      refine g_iload_n rfl dX8_lay_106 ?_
      refine g_iald (n := 8) (_) (by first | rfl | assumption) (by first | rfl | assumption) rfl (by first | omega | (simp [st2]; done) | (simp [st2]; omega)) (by first | omega | (simp [st2]; done) | (simp [st2]; omega)) dX8_lay_107 ?_
      refine g_iast (n := 8) (_) (by first | rfl | assumption) (by first | rfl | assumption) rfl (by first | omega | (simp [st2]; done) | (simp [st2]; omega)) (by first | omega | (simp [st2]; done) | (simp [st2]; omega)) dX8_lay_108 ?_
      refine g_iconst dX8_lay_109 ?_
      refine g_istore_n (by decide) dX8_lay_110 ?_
      refine g_subl [(0, vR 44), (1, vI (k : Int)), (2, vI ((0 : Nat) : Int))] rfl ?_
      refine loop3 k (by omega) (fun X3 hX3 => ?_) 0 (by omega) _ (layMj_0 hX2)
      refine g_iinc rfl (by decide) dX8_lay_146 ?_
      refine g_goto (t := 56) dX8_lay_149 (by decide) ?_
      refine g_subl [(0, vR 44), (1, vI ((k + 1 : Nat) : Int))] rfl ?_
      exact ih (k + 1) (by omega) (by omega) _ hX3
  have loop1 : 0 < m → ∀ k, k ≤ m → (∀ i, i < k → ¬ (X 45 i = 0 ∧ X 46 i = 0)) → G l g mX8_lay κ K 11 [(0, vR 44), (1, vI (k : Int))] [] X := by
    intro hpos
    refine upTo m ?_
    intro k hkm ih hlt
    have a1 := fun q => hA k q
    have a2 := fun q => hB k q
    refine g_iload_n rfl dX8_lay_11 ?_
    refine g_aload_n rfl dX8_lay_12 ?_
    refine gf_X8_91 rfl (by first | rfl | assumption) dX8_lay_13 ?_
    refine g_icmp_ge (t := 46) dX8_lay_16 (by decide) (by first | omega | (simp [st2]; done) | (simp [st2]; omega)) (by first | omega | (simp [st2]; done) | (simp [st2]; omega)) (fun b16 => ?_) (fun b16 => ?_)
    · refine g_aload_n rfl dX8_lay_46 ?_
      refine g_aload_n rfl dX8_lay_47 ?_
      refine gf_X8_91 rfl (by first | rfl | assumption) dX8_lay_48 ?_
      refine pf_X8_94 rfl (by first | rfl | assumption) dX8_lay_51 ?_
      refine g_iconst dX8_lay_54 ?_
      refine g_istore_n (by decide) dX8_lay_55 ?_
      refine g_subl [(0, vR 44), (1, vI ((0 : Nat) : Int))] rfl ?_
      obtain rfl : m = k := by omega
      refine loop2 hpos hlt 0 (by omega) _ ⟨?_, ?_, hm, fun i hi => absurd hi (by omega), fun i j hi => absurd hi (by omega)⟩
      · intro c j a1 a2 a3 a4 a5 a6
        simp only [st2, if_neg a1]
      · intro j hj
        simp only [st2, if_true, if_neg hj]
    · have a3 := a1 (by omega)
      have a4 := a2 (by omega)
      refine g_aload_n rfl dX8_lay_19 ?_
      refine gf_X8_7 (c2 := 45) rfl rfl (by first | rfl | assumption) dX8_lay_20 ?_
      refine g_iload_n rfl dX8_lay_23 ?_
      refine g_iald (n := 8) (_) (by first | rfl | assumption) (by first | rfl | assumption) rfl (by first | omega | (simp [st2]; done) | (simp [st2]; omega)) (by first | omega | (simp [st2]; done) | (simp [st2]; omega)) dX8_lay_24 ?_
      refine g_if_ne (t := 40) dX8_lay_25 (by decide) (by first | omega | (simp [st2]; done) | (simp [st2]; omega)) (fun b25 => ?_) (fun b25 => ?_)
      · refine g_iinc rfl (by decide) dX8_lay_40 ?_
        refine g_goto (t := 11) dX8_lay_43 (by decide) ?_
        refine g_subl [(0, vR 44), (1, vI ((k + 1 : Nat) : Int))] rfl ?_
        refine ih (k + 1) (by omega) (by omega) ?_
        intro i hi
        rcases Nat.lt_or_ge i k with z | z
        · exact hlt i z
        · rw [show i = k by omega]; omega
      · refine g_aload_n rfl dX8_lay_28 ?_
        refine gf_X8_13 (c2 := 46) rfl rfl (by first | rfl | assumption) dX8_lay_29 ?_
        refine g_iload_n rfl dX8_lay_32 ?_
        refine g_iald (n := 8) (_) (by first | rfl | assumption) (by first | rfl | assumption) rfl (by first | omega | (simp [st2]; done) | (simp [st2]; omega)) (by first | omega | (simp [st2]; done) | (simp [st2]; omega)) dX8_lay_33 ?_
        refine g_if_ne (t := 40) dX8_lay_34 (by decide) (by first | omega | (simp [st2]; done) | (simp [st2]; omega)) (fun b34 => ?_) (fun b34 => ?_)
        · refine g_iinc rfl (by decide) dX8_lay_40 ?_
          refine g_goto (t := 11) dX8_lay_43 (by decide) ?_
          refine g_subl [(0, vR 44), (1, vI ((k + 1 : Nat) : Int))] rfl ?_
          refine ih (k + 1) (by omega) (by omega) ?_
          intro i hi
          rcases Nat.lt_or_ge i k with z | z
          · exact hlt i z
          · rw [show i = k by omega]; omega
        · refine g_bipush (by decide) dX8_lay_37 ?_
          refine g_ireturn rfl dX8_lay_39 ?_
          exact h1 hpos ⟨k, by omega, by omega, by omega⟩
  refine g_aload_n rfl dX8_lay_0 ?_
  refine gf_X8_91 rfl (by first | rfl | assumption) dX8_lay_1 ?_
  refine g_if_ne (t := 9) dX8_lay_4 (by decide) (by first | omega | (simp [st2]; done) | (simp [st2]; omega)) (fun b4 => ?_) (fun b4 => ?_)
  · refine g_iconst dX8_lay_9 ?_
    refine g_istore_n (by decide) dX8_lay_10 ?_
    refine g_subl [(0, vR 44), (1, vI ((0 : Nat) : Int))] rfl ?_
    exact loop1 (by omega) 0 (by omega) (fun i hi => absurd hi (by omega))
  · refine g_iconst dX8_lay_7 ?_
    refine g_ireturn rfl dX8_lay_8 ?_
    exact h0 (by omega)
end
section
/-! searches -/
def fst1 (p : Nat → Bool) : Nat → Nat → Nat
  | 0, i => i
  | d + 1, i => if p i then i else fst1 p d (i + 1)
/-- the least j from i on, below n, with p; n if there is none -/
def srch (p : Nat → Bool) (i n : Nat) : Nat := fst1 p (n - i) i
theorem srch_hit {p : Nat → Bool} {i n : Nat} (h : i < n) (hp : p i = true) : srch p i n = i := by
  unfold srch
  obtain ⟨d, hd⟩ : ∃ d, n - i = d + 1 := ⟨n - i - 1, by omega⟩
  rw [hd, fst1, if_pos hp]
theorem srch_miss {p : Nat → Bool} {i n : Nat} (h : i < n) (hp : ¬ p i = true) : srch p i n = srch p (i + 1) n := by
  unfold srch
  obtain ⟨d, hd⟩ : ∃ d, n - i = d + 1 := ⟨n - i - 1, by omega⟩
  rw [hd, fst1, if_neg hp, show n - (i + 1) = d by omega]
theorem srch_end {p : Nat → Bool} {i n : Nat} (h : n ≤ i) : srch p i n = i := by
  unfold srch
  rw [show n - i = 0 by omega, fst1]
theorem srch_spec (p : Nat → Bool) {n : Nat} : ∀ i, i ≤ n → i ≤ srch p i n ∧ srch p i n ≤ n ∧ (srch p i n < n → p (srch p i n) = true) ∧ ∀ k, i ≤ k → k < srch p i n → ¬ p k = true := by
  refine upTo n ?_
  intro i hi ih
  rcases Nat.lt_or_ge i n with q | q
  · by_cases hp : p i = true
    · rw [srch_hit q hp]
      exact ⟨Nat.le_refl _, by omega, fun _ => hp, fun k h1 h2 => by omega⟩
    · rw [srch_miss q hp]
      obtain ⟨h1, h2, h3, h4⟩ := ih (i + 1) (by omega) (by omega)
      refine ⟨by omega, h2, h3, fun k a b => ?_⟩
      rcases Nat.lt_or_ge i k with z | z
      · exact h4 k (by omega) b
      · rw [show k = i by omega]; exact hp
  · rw [srch_end q]
    exact ⟨Nat.le_refl _, hi, fun z => by omega, fun k h1 h2 => by omega⟩
theorem srch_eq {p : Nat → Bool} {i j n : Nat} (hi : i ≤ j) (hj : j < n) (hp : p j = true) (h : ∀ k, i ≤ k → k < j → ¬ p k = true) : srch p i n = j := by
  obtain ⟨h1, h2, h3, h4⟩ := srch_spec p (n := n) i (by omega)
  rcases Nat.lt_trichotomy (srch p i n) j with q | q | q
  · exact absurd (h3 (by omega)) (h _ h1 q)
  · exact q
  · exact absurd hp (h4 j hi q)
theorem srch_cong {p q : Nat → Bool} {i n : Nat} (h : ∀ k, i ≤ k → k < n → p k = q k) : srch p i n = srch q i n := by
  rcases Nat.lt_or_ge n i with z | z
  · rw [srch_end (by omega), srch_end (by omega)]
  · revert h
    revert i
    have key : ∀ i, i ≤ n → (∀ k, i ≤ k → k < n → p k = q k) → srch p i n = srch q i n := by
      refine upTo n ?_
      intro i hi ih h
      rcases Nat.lt_or_ge i n with z | z
      · by_cases hp : p i = true
        · rw [srch_hit z hp, srch_hit z (by rw [← h i (Nat.le_refl _) z]; exact hp)]
        · rw [srch_miss z hp, srch_miss z (by rw [← h i (Nat.le_refl _) z]; exact hp)]
          exact ih (i + 1) (by omega) (by omega) (fun k a b => h k (by omega) b)
      · rw [srch_end z, srch_end z]
    intro i hi h
    exact key i hi h
def posI (f : Nat → Nat) (k n : Nat) : Nat := srch (fun i => f i == k) 0 n
theorem posI_spec {f : Nat → Nat} {n k : Nat} (h : Perm f n) (hk : k < n) : posI f k n < n ∧ f (posI f k n) = k := by
  obtain ⟨j, hj, e⟩ := h.onto hk
  obtain ⟨h1, h2, h3, h4⟩ := srch_spec (fun i => f i == k) (n := n) 0 (by omega)
  have hlt : posI f k n < n := by
    rcases Nat.lt_or_ge (posI f k n) n with q | q
    · exact q
    · exact absurd (by simpa using e) (h4 j (by omega) (by unfold posI at q; omega))
  refine ⟨hlt, ?_⟩
  have := h3 hlt
  simpa [posI] using this
theorem posI_eq {f : Nat → Nat} {n j : Nat} (h : Perm f n) (hj : j < n) : posI f (f j) n = j := by
  obtain ⟨h1, h2⟩ := posI_spec h (h.1 j hj)
  exact h.2 _ _ h1 hj h2
/-! sums along an order -/
def ps (A : Nat → Int) (f : Nat → Nat) : Nat → Int
  | 0 => 0
  | j + 1 => ps A f j + A (f j)
theorem ps_si (A : Nat → Int) (f : Nat → Nat) : ∀ n, ps A f n = fb_si (fun j => A (f j)) n
  | 0 => rfl
  | n + 1 => by rw [ps, fb_si_succ, ps_si A f n]
theorem ps_cong {A B : Nat → Int} {f h : Nat → Nat} : ∀ {n : Nat}, (∀ k, k < n → A (f k) = B (h k)) → ps A f n = ps B h n
  | 0, _ => rfl
  | n + 1, e => by rw [ps, ps, ps_cong (fun k hk => e k (by omega)), e n (by omega)]
theorem ps_val (r : Int) (A B : Nat → Int) (f : Nat → Nat) : ∀ n, ps (fun k => val r (A k) (B k)) f n = val r (ps A f n) (ps B f n)
  | 0 => (val_0 r).symm
  | n + 1 => by
    simp only [ps]
    rw [ps_val r A B f n, val_add]
theorem ps_bd {A : Nat → Int} {f : Nat → Nat} {c : Int} : ∀ {n : Nat}, (∀ k, k < n → -c ≤ A (f k) ∧ A (f k) ≤ c) → -(n * c) ≤ ps A f n ∧ ps A f n ≤ n * c
  | 0, _ => by simp [ps]
  | n + 1, h => by
    have h1 := ps_bd (n := n) (fun k hk => h k (by omega))
    have h2 := h n (by omega)
    rw [ps, Int.natCast_add, Int.add_mul]
    omega
theorem ps_mono {L : Nat → Int} {f : Nat → Nat} {n : Nat} (h : ∀ k, k < n → 0 < L (f k)) : ∀ j, j ≤ n → ∀ i, i ≤ j → ps L f i + (j - i : Int) ≤ ps L f j
  | 0, _, i, hi => by
    rw [show i = 0 by omega]; simp
  | j + 1, hj, i, hi => by
    rcases Nat.lt_or_ge i (j + 1) with q | q
    · have h1 := ps_mono h j (by omega) i (by omega)
      have h2 := h j (by omega)
      rw [ps]
      omega
    · rw [show i = j + 1 by omega]; omega
theorem ps_perm {n : Nat} : ∀ {A : Nat → Int} {f : Nat → Nat}, Perm f n → ps A f n = ps A id n := by
  induction n with
  | zero => intros; rfl
  | succ n ih =>
    intro A f h
    obtain ⟨p, hp, e⟩ := h.onto (k := n) (by omega)
    rw [ps_si, ps]
    by_cases q : p = n
    · subst q
      rw [fb_si_succ, ← ps_si, ih (f := f) ⟨fun j hj => ?_, fun i j hi hj => h.2 i j (by omega) (by omega)⟩, e]
      · rfl
      · have h1 := h.1 j (by omega)
        have h2 : f j ≠ p := fun z => by have := h.2 j p (by omega) (by omega) (by omega); omega
        omega
    · have hp2 : p < n := by omega
      have hP : Perm (fun j => if j = p then f n else f j) n := by
        have hfn : f n ≠ n := fun z => q (h.2 p n (by omega) (by omega) (by omega))
        refine ⟨fun j hj => ?_, fun i j hi hj => ?_⟩
        · dsimp only
          split
          · have := h.1 n (by omega); omega
          · have h1 := h.1 j (by omega)
            have h2 : f j ≠ n := fun z => by have := h.2 j p (by omega) (by omega) (by omega); omega
            omega
        · dsimp only
          split <;> split <;> intro z
          · omega
          · have := h.2 n j (by omega) (by omega) z; omega
          · have := h.2 i n (by omega) (by omega) z; omega
          · exact h.2 i j (by omega) (by omega) z
      have h1 := ih (A := A) hP
      rw [ps_si] at h1
      have h2 : (fun j => A (if j = p then f n else f j)) = (fun k => if k = p then A (f n) else (fun j => A (f j)) k) := by
        funext j
        dsimp only
        split <;> rfl
      rw [h2, fb_si_upd _ _ hp2] at h1
      rw [fb_si_succ, ← h1, e]
      show _ = _ + A n
      omega
/-! THE MOVER, as numbers -/
abbrev Mv : Type := Nat × Int × (Nat → Int) × (Nat → Int) × (Nat → Nat) × (Nat → Nat) × (Nat → Nat → Int)
def vn (v : Mv) : Nat := v.1
def vr (v : Mv) : Int := v.2.1
def vA (v : Mv) : Nat → Int := v.2.2.1
def vB (v : Mv) : Nat → Int := v.2.2.2.1
def va (v : Mv) : Nat → Nat := v.2.2.2.2.1
def vu (v : Mv) : Nat → Nat := v.2.2.2.2.2.1
def vT (v : Mv) : Nat → Nat → Int := v.2.2.2.2.2.2
def vL (v : Mv) : Nat → Int := fun k => val (vr v) (vA v k) (vB v k)
def Vd (v : Mv) : Prop := 2 ≤ vn v ∧ vn v ≤ 8 ∧ isRoot (vr v) ∧ (∀ k, k < vn v → (-16384 ≤ vA v k ∧ vA v k ≤ 16384) ∧ (-16384 ≤ vB v k ∧ vB v k ≤ 16384) ∧ (vr v = 0 → vB v k = 0) ∧ 0 < vL v k) ∧ Perm (va v) (vn v) ∧ Perm (vu v) (vn v) ∧ ∀ i j, i < vn v → j < vn v → 0 ≤ vT v i j ∧ vT v i j ≤ 1099511627776
/-- where a value is, along an order -/
def sidx (v : Mv) (f : Nat → Nat) (x : Int) : Nat := srch (fun j => decide (x < ps (vL v) f (j + 1))) 0 (vn v)
theorem sidx_spec {v : Mv} {f : Nat → Nat} {x : Int} (h0 : 0 ≤ x) (h1 : x < ps (vL v) f (vn v)) : sidx v f x < vn v ∧ ps (vL v) f (sidx v f x) ≤ x ∧ x < ps (vL v) f (sidx v f x + 1) := by
  obtain ⟨a1, a2, a3, a4⟩ := srch_spec (fun j => decide (x < ps (vL v) f (j + 1))) (n := vn v) 0 (by omega)
  have hn : 0 < vn v := by
    rcases Nat.eq_zero_or_pos (vn v) with q | q
    · rw [q] at h1; simp [ps] at h1; omega
    · exact q
  have hlt : sidx v f x < vn v := by
    rcases Nat.lt_or_ge (sidx v f x) (vn v) with q | q
    · exact q
    · exact absurd (by
        rw [show vn v - 1 + 1 = vn v by omega]
        simpa using h1) (a4 (vn v - 1) (by omega) (by unfold sidx at q; omega))
  refine ⟨hlt, ?_, by have := a3 hlt; simpa [sidx] using this⟩
  rcases Nat.eq_zero_or_pos (sidx v f x) with q | q
  · rw [q]; simpa [ps] using h0
  · have := a4 (sidx v f x - 1) (by omega) (by unfold sidx at q ⊢; omega)
    rw [show sidx v f x - 1 + 1 = sidx v f x by omega] at this
    simpa using this
theorem Vd.pos {v : Mv} (h : Vd v) {f : Nat → Nat} (hf : Perm f (vn v)) : ∀ k, k < vn v → 0 < vL v (f k) := fun k hk => (h.2.2.2.1 _ (hf.1 k hk)).2.2.2
theorem Vd.mono {v : Mv} (h : Vd v) {f : Nat → Nat} (hf : Perm f (vn v)) {i j : Nat} (hij : i ≤ j) (hj : j ≤ vn v) : ps (vL v) f i + (j - i : Int) ≤ ps (vL v) f j := ps_mono (h.pos hf) j hj i hij
theorem sidx_eq {v : Mv} (h : Vd v) {f : Nat → Nat} (hf : Perm f (vn v)) {x : Int} {j : Nat} (hj : j < vn v) (h1 : ps (vL v) f j ≤ x) (h2 : x < ps (vL v) f (j + 1)) : sidx v f x = j := by
  refine srch_eq (by omega) hj (by simpa using h2) (fun k a b => ?_)
  have := h.mono hf (i := k + 1) (j := j) (by omega) (by omega)
  simp
  omega
theorem Vd.psA {v : Mv} (h : Vd v) {f : Nat → Nat} (hf : Perm f (vn v)) {j : Nat} (hj : j ≤ vn v) : (-131072 ≤ ps (vA v) f j ∧ ps (vA v) f j ≤ 131072) ∧ (-131072 ≤ ps (vB v) f j ∧ ps (vB v) f j ≤ 131072) ∧ (vr v = 0 → ps (vB v) f j = 0) := by
  have h1 := ps_bd (A := vA v) (f := f) (c := 16384) (n := j) (fun k hk => (h.2.2.2.1 _ (hf.1 k (by omega))).1)
  have h2 := ps_bd (A := vB v) (f := f) (c := 16384) (n := j) (fun k hk => (h.2.2.2.1 _ (hf.1 k (by omega))).2.1)
  have h8 := h.2.1
  refine ⟨by omega, by omega, fun e => ?_⟩
  have h3 := ps_bd (A := vB v) (f := f) (c := 0) (n := j) (fun k hk => by
    have := (h.2.2.2.1 _ (hf.1 k (by omega))).2.2.1 e
    omega)
  omega
theorem vL_ps (v : Mv) (f : Nat → Nat) (j : Nat) : ps (vL v) f j = val (vr v) (ps (vA v) f j) (ps (vB v) f j) := ps_val _ _ _ _ _
def tot (v : Mv) : Int := ps (vL v) id (vn v)
theorem Vd.tot {v : Mv} (h : Vd v) {f : Nat → Nat} (hf : Perm f (vn v)) : ps (vL v) f (vn v) = tot v := ps_perm hf
theorem Perm.id (n : Nat) : Perm (fun k => k) n := ⟨fun _ h => h, fun _ _ _ _ h => h⟩
/-- on the line -/
def onL (v : Mv) (a b : Int) : Prop := 0 ≤ val (vr v) a b ∧ val (vr v) a b < tot v
/-- a MOVE from the order f to the order h: the first part's change -/
def shA (v : Mv) (A : Nat → Int) (f h : Nat → Nat) (x : Int) : Int := ps A h (posI h (f (sidx v f x)) (vn v)) - ps A f (sidx v f x)
theorem go_on {v : Mv} (hv : Vd v) {f h : Nat → Nat} (hf : Perm f (vn v)) (hh : Perm h (vn v)) {a b : Int} (ho : onL v a b) : onL v (a + shA v (vA v) f h (val (vr v) a b)) (b + shA v (vB v) f h (val (vr v) a b)) := by
  obtain ⟨h0, h1⟩ := ho
  rw [← hv.tot hf] at h1
  obtain ⟨s1, s2, s3⟩ := sidx_spec h0 h1
  obtain ⟨p1, p2⟩ := posI_spec hh (hf.1 _ s1)
  unfold onL
  rw [val_add]
  unfold shA
  rw [val_sub, ← vL_ps, ← vL_ps]
  have m1 := hv.mono hh (i := 0) (j := posI h (f (sidx v f (val (vr v) a b))) (vn v)) (by omega) (by omega)
  have m2 := hv.mono hh (i := posI h (f (sidx v f (val (vr v) a b))) (vn v) + 1) (j := vn v) (by omega) (by omega)
  rw [hv.tot hh] at m2
  simp only [ps] at s3 m1 m2
  rw [p2] at m2
  omega
end
