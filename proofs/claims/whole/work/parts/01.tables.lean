-- ===== PART A: goes FIRST, ahead of the names: the tables' words, and 'selects' of the private methods out of them =====
/-- a private method of a class that the tables say can be made, by its rows of tables_1 -/
def lw_okq (q : MethodName × Nat) : Prop := (q.1.cls ≠ "java/lang/invoke/MethodHandle" ∧ q.1.cls ≠ "java/lang/invoke/VarHandle") ∧ Cond.instantiable q.1.cls q.2 ∈ tables_1 ∧ Cond.privateMethod q.1 ∈ tables_1 ∧ Cond.instanceMethod q.1 ∈ tables_1
theorem lw_p0 : lw_okq (⟨"SpanBench", "canBe", "(III)Z"⟩, 11) := ⟨⟨by decide +kernel, by decide +kernel⟩, List.mem_of_getElem? (i := 13) (by decide +kernel), List.mem_of_getElem? (i := 270) (by decide +kernel), List.mem_of_getElem? (i := 271) (by decide +kernel)⟩
theorem lw_p1 : lw_okq (⟨"SpanBench", "drawWays", "()V"⟩, 11) := ⟨⟨by decide +kernel, by decide +kernel⟩, List.mem_of_getElem? (i := 13) (by decide +kernel), List.mem_of_getElem? (i := 303) (by decide +kernel), List.mem_of_getElem? (i := 304) (by decide +kernel)⟩
theorem lw_p2 : lw_okq (⟨"SpanBench$Way", "isLeftOf", "(JJI)Z"⟩, 7) := ⟨⟨by decide +kernel, by decide +kernel⟩, List.mem_of_getElem? (i := 101) (by decide +kernel), List.mem_of_getElem? (i := 337) (by decide +kernel), List.mem_of_getElem? (i := 338) (by decide +kernel)⟩
theorem lw_p3 : lw_okq (⟨"SpanBench$Mover", "isSpentBy", "(II)Z"⟩, 9) := ⟨⟨by decide +kernel, by decide +kernel⟩, List.mem_of_getElem? (i := 48) (by decide +kernel), List.mem_of_getElem? (i := 387) (by decide +kernel), List.mem_of_getElem? (i := 388) (by decide +kernel)⟩
theorem lw_p4 : lw_okq (⟨"SpanBench$Mover", "shorten", "(II)V"⟩, 9) := ⟨⟨by decide +kernel, by decide +kernel⟩, List.mem_of_getElem? (i := 48) (by decide +kernel), List.mem_of_getElem? (i := 393) (by decide +kernel), List.mem_of_getElem? (i := 394) (by decide +kernel)⟩
theorem lw_p5 : lw_okq (⟨"SpanBench$Mover", "bringLastBehind", "(I[I)V"⟩, 9) := ⟨⟨by decide +kernel, by decide +kernel⟩, List.mem_of_getElem? (i := 48) (by decide +kernel), List.mem_of_getElem? (i := 397) (by decide +kernel), List.mem_of_getElem? (i := 398) (by decide +kernel)⟩
theorem lw_p6 : lw_okq (⟨"SpanBench", "followMover", "()V"⟩, 11) := ⟨⟨by decide +kernel, by decide +kernel⟩, List.mem_of_getElem? (i := 13) (by decide +kernel), List.mem_of_getElem? (i := 401) (by decide +kernel), List.mem_of_getElem? (i := 402) (by decide +kernel)⟩
theorem lw_p7 : lw_okq (⟨"SpanBench$Mover", "productA", "(ILSpanBench$Mover;)J"⟩, 9) := ⟨⟨by decide +kernel, by decide +kernel⟩, List.mem_of_getElem? (i := 48) (by decide +kernel), List.mem_of_getElem? (i := 433) (by decide +kernel), List.mem_of_getElem? (i := 434) (by decide +kernel)⟩
theorem lw_p8 : lw_okq (⟨"SpanBench$Mover", "productB", "(ILSpanBench$Mover;)J"⟩, 9) := ⟨⟨by decide +kernel, by decide +kernel⟩, List.mem_of_getElem? (i := 48) (by decide +kernel), List.mem_of_getElem? (i := 437) (by decide +kernel), List.mem_of_getElem? (i := 438) (by decide +kernel)⟩
theorem lw_p9 : lw_okq (⟨"SpanBench$Heaps", "drawPieces", "(LSpanBench$Way;)V"⟩, 6) := ⟨⟨by decide +kernel, by decide +kernel⟩, List.mem_of_getElem? (i := 156) (by decide +kernel), List.mem_of_getElem? (i := 450) (by decide +kernel), List.mem_of_getElem? (i := 451) (by decide +kernel)⟩
theorem lw_p10 : lw_okq (⟨"SpanBench$Heaps", "measure", "(II)V"⟩, 6) := ⟨⟨by decide +kernel, by decide +kernel⟩, List.mem_of_getElem? (i := 156) (by decide +kernel), List.mem_of_getElem? (i := 454) (by decide +kernel), List.mem_of_getElem? (i := 455) (by decide +kernel)⟩
theorem lw_p11 : lw_okq (⟨"SpanBench$Heaps", "takeOut", "()V"⟩, 6) := ⟨⟨by decide +kernel, by decide +kernel⟩, List.mem_of_getElem? (i := 156) (by decide +kernel), List.mem_of_getElem? (i := 461) (by decide +kernel), List.mem_of_getElem? (i := 462) (by decide +kernel)⟩
theorem lw_p12 : lw_okq (⟨"SpanBench", "beginningsBehind", "(II)I"⟩, 11) := ⟨⟨by decide +kernel, by decide +kernel⟩, List.mem_of_getElem? (i := 13) (by decide +kernel), List.mem_of_getElem? (i := 473) (by decide +kernel), List.mem_of_getElem? (i := 474) (by decide +kernel)⟩
theorem lw_p13 : lw_okq (⟨"SpanBench$Kin", "nameByPlaceAbove", "(LSpanBench$Mover;)V"⟩, 6) := ⟨⟨by decide +kernel, by decide +kernel⟩, List.mem_of_getElem? (i := 185) (by decide +kernel), List.mem_of_getElem? (i := 489) (by decide +kernel), List.mem_of_getElem? (i := 490) (by decide +kernel)⟩
theorem lw_p14 : lw_okq (⟨"SpanBench$Kin", "takeNext", "()V"⟩, 6) := ⟨⟨by decide +kernel, by decide +kernel⟩, List.mem_of_getElem? (i := 185) (by decide +kernel), List.mem_of_getElem? (i := 493) (by decide +kernel), List.mem_of_getElem? (i := 494) (by decide +kernel)⟩
theorem lw_p15 : lw_okq (⟨"SpanBench$Kin", "rankOfNext", "()I"⟩, 6) := ⟨⟨by decide +kernel, by decide +kernel⟩, List.mem_of_getElem? (i := 185) (by decide +kernel), List.mem_of_getElem? (i := 497) (by decide +kernel), List.mem_of_getElem? (i := 498) (by decide +kernel)⟩
def lw_privs_1 : List (MethodName × Nat) := [(⟨"SpanBench", "canBe", "(III)Z"⟩, 11), (⟨"SpanBench", "drawWays", "()V"⟩, 11), (⟨"SpanBench$Way", "isLeftOf", "(JJI)Z"⟩, 7), (⟨"SpanBench$Mover", "isSpentBy", "(II)Z"⟩, 9), (⟨"SpanBench$Mover", "shorten", "(II)V"⟩, 9), (⟨"SpanBench$Mover", "bringLastBehind", "(I[I)V"⟩, 9), (⟨"SpanBench", "followMover", "()V"⟩, 11), (⟨"SpanBench$Mover", "productA", "(ILSpanBench$Mover;)J"⟩, 9), (⟨"SpanBench$Mover", "productB", "(ILSpanBench$Mover;)J"⟩, 9), (⟨"SpanBench$Heaps", "drawPieces", "(LSpanBench$Way;)V"⟩, 6), (⟨"SpanBench$Heaps", "measure", "(II)V"⟩, 6), (⟨"SpanBench$Heaps", "takeOut", "()V"⟩, 6), (⟨"SpanBench", "beginningsBehind", "(II)I"⟩, 11), (⟨"SpanBench$Kin", "nameByPlaceAbove", "(LSpanBench$Mover;)V"⟩, 6), (⟨"SpanBench$Kin", "takeNext", "()V"⟩, 6), (⟨"SpanBench$Kin", "rankOfNext", "()I"⟩, 6)]
theorem lw_r1 : ∀ q ∈ lw_privs_1, lw_okq q := List.forall_mem_cons.mpr ⟨lw_p0, List.forall_mem_cons.mpr ⟨lw_p1, List.forall_mem_cons.mpr ⟨lw_p2, List.forall_mem_cons.mpr ⟨lw_p3, List.forall_mem_cons.mpr ⟨lw_p4, List.forall_mem_cons.mpr ⟨lw_p5, List.forall_mem_cons.mpr ⟨lw_p6, List.forall_mem_cons.mpr ⟨lw_p7, List.forall_mem_cons.mpr ⟨lw_p8, List.forall_mem_cons.mpr ⟨lw_p9, List.forall_mem_cons.mpr ⟨lw_p10, List.forall_mem_cons.mpr ⟨lw_p11, List.forall_mem_cons.mpr ⟨lw_p12, List.forall_mem_cons.mpr ⟨lw_p13, List.forall_mem_cons.mpr ⟨lw_p14, List.forall_mem_cons.mpr ⟨lw_p15, fun _ h => absurd h List.not_mem_nil⟩⟩⟩⟩⟩⟩⟩⟩⟩⟩⟩⟩⟩⟩⟩⟩
theorem lw_p16 : lw_okq (⟨"SpanBench$Kin", "packNext", "()I"⟩, 6) := ⟨⟨by decide +kernel, by decide +kernel⟩, List.mem_of_getElem? (i := 185) (by decide +kernel), List.mem_of_getElem? (i := 501) (by decide +kernel), List.mem_of_getElem? (i := 502) (by decide +kernel)⟩
theorem lw_p17 : lw_okq (⟨"SpanBench$Kin", "unpack", "(I)V"⟩, 6) := ⟨⟨by decide +kernel, by decide +kernel⟩, List.mem_of_getElem? (i := 185) (by decide +kernel), List.mem_of_getElem? (i := 505) (by decide +kernel), List.mem_of_getElem? (i := 506) (by decide +kernel)⟩
theorem lw_p18 : lw_okq (⟨"SpanBench$Kin", "letUWin", "()V"⟩, 6) := ⟨⟨by decide +kernel, by decide +kernel⟩, List.mem_of_getElem? (i := 185) (by decide +kernel), List.mem_of_getElem? (i := 509) (by decide +kernel), List.mem_of_getElem? (i := 510) (by decide +kernel)⟩
theorem lw_p19 : lw_okq (⟨"SpanBench$Kin", "letVWin", "()V"⟩, 6) := ⟨⟨by decide +kernel, by decide +kernel⟩, List.mem_of_getElem? (i := 185) (by decide +kernel), List.mem_of_getElem? (i := 513) (by decide +kernel), List.mem_of_getElem? (i := 514) (by decide +kernel)⟩
theorem lw_p20 : lw_okq (⟨"SpanBench$Figure", "cornerBelow", "(I)I"⟩, 2) := ⟨⟨by decide +kernel, by decide +kernel⟩, List.mem_of_getElem? (i := 211) (by decide +kernel), List.mem_of_getElem? (i := 525) (by decide +kernel), List.mem_of_getElem? (i := 526) (by decide +kernel)⟩
theorem lw_p21 : lw_okq (⟨"SpanBench$Figure", "join", "(II)V"⟩, 2) := ⟨⟨by decide +kernel, by decide +kernel⟩, List.mem_of_getElem? (i := 211) (by decide +kernel), List.mem_of_getElem? (i := 529) (by decide +kernel), List.mem_of_getElem? (i := 530) (by decide +kernel)⟩
theorem lw_p22 : lw_okq (⟨"SpanBench$Figure", "turnsAt", "(I)I"⟩, 2) := ⟨⟨by decide +kernel, by decide +kernel⟩, List.mem_of_getElem? (i := 211) (by decide +kernel), List.mem_of_getElem? (i := 541) (by decide +kernel), List.mem_of_getElem? (i := 542) (by decide +kernel)⟩
theorem lw_p23 : lw_okq (⟨"SpanBenchModel", "forgets", "()V"⟩, 39) := ⟨⟨by decide +kernel, by decide +kernel⟩, List.mem_of_getElem? (i := 552) (by decide +kernel), List.mem_of_getElem? (i := 680) (by decide +kernel), List.mem_of_getElem? (i := 681) (by decide +kernel)⟩
theorem lw_p24 : lw_okq (⟨"SpanBenchModel", "signOf", "(JJ)I"⟩, 39) := ⟨⟨by decide +kernel, by decide +kernel⟩, List.mem_of_getElem? (i := 552) (by decide +kernel), List.mem_of_getElem? (i := 692) (by decide +kernel), List.mem_of_getElem? (i := 693) (by decide +kernel)⟩
theorem lw_p25 : lw_okq (⟨"SpanBenchModel", "parted", "()I"⟩, 39) := ⟨⟨by decide +kernel, by decide +kernel⟩, List.mem_of_getElem? (i := 552) (by decide +kernel), List.mem_of_getElem? (i := 708) (by decide +kernel), List.mem_of_getElem? (i := 709) (by decide +kernel)⟩
theorem lw_p26 : lw_okq (⟨"SpanBenchModel", "total", "(I)J"⟩, 39) := ⟨⟨by decide +kernel, by decide +kernel⟩, List.mem_of_getElem? (i := 552) (by decide +kernel), List.mem_of_getElem? (i := 716) (by decide +kernel), List.mem_of_getElem? (i := 717) (by decide +kernel)⟩
theorem lw_p27 : lw_okq (⟨"SpanBenchModel", "isOnLine", "(JJ)Z"⟩, 39) := ⟨⟨by decide +kernel, by decide +kernel⟩, List.mem_of_getElem? (i := 552) (by decide +kernel), List.mem_of_getElem? (i := 732) (by decide +kernel), List.mem_of_getElem? (i := 733) (by decide +kernel)⟩
theorem lw_p28 : lw_okq (⟨"SpanBenchModel", "spanAt", "([IJJ)I"⟩, 39) := ⟨⟨by decide +kernel, by decide +kernel⟩, List.mem_of_getElem? (i := 552) (by decide +kernel), List.mem_of_getElem? (i := 736) (by decide +kernel), List.mem_of_getElem? (i := 737) (by decide +kernel)⟩
theorem lw_p29 : lw_okq (⟨"SpanBenchModel", "goes", "(JJZ)V"⟩, 39) := ⟨⟨by decide +kernel, by decide +kernel⟩, List.mem_of_getElem? (i := 552) (by decide +kernel), List.mem_of_getElem? (i := 744) (by decide +kernel), List.mem_of_getElem? (i := 745) (by decide +kernel)⟩
theorem lw_p30 : lw_okq (⟨"SpanBenchModel", "begins", "([II)V"⟩, 39) := ⟨⟨by decide +kernel, by decide +kernel⟩, List.mem_of_getElem? (i := 552) (by decide +kernel), List.mem_of_getElem? (i := 748) (by decide +kernel), List.mem_of_getElem? (i := 749) (by decide +kernel)⟩
theorem lw_p31 : lw_okq (⟨"SpanBenchModel", "brings", "([III)V"⟩, 39) := ⟨⟨by decide +kernel, by decide +kernel⟩, List.mem_of_getElem? (i := 552) (by decide +kernel), List.mem_of_getElem? (i := 770) (by decide +kernel), List.mem_of_getElem? (i := 771) (by decide +kernel)⟩
def lw_privs_2 : List (MethodName × Nat) := [(⟨"SpanBench$Kin", "packNext", "()I"⟩, 6), (⟨"SpanBench$Kin", "unpack", "(I)V"⟩, 6), (⟨"SpanBench$Kin", "letUWin", "()V"⟩, 6), (⟨"SpanBench$Kin", "letVWin", "()V"⟩, 6), (⟨"SpanBench$Figure", "cornerBelow", "(I)I"⟩, 2), (⟨"SpanBench$Figure", "join", "(II)V"⟩, 2), (⟨"SpanBench$Figure", "turnsAt", "(I)I"⟩, 2), (⟨"SpanBenchModel", "forgets", "()V"⟩, 39), (⟨"SpanBenchModel", "signOf", "(JJ)I"⟩, 39), (⟨"SpanBenchModel", "parted", "()I"⟩, 39), (⟨"SpanBenchModel", "total", "(I)J"⟩, 39), (⟨"SpanBenchModel", "isOnLine", "(JJ)Z"⟩, 39), (⟨"SpanBenchModel", "spanAt", "([IJJ)I"⟩, 39), (⟨"SpanBenchModel", "goes", "(JJZ)V"⟩, 39), (⟨"SpanBenchModel", "begins", "([II)V"⟩, 39), (⟨"SpanBenchModel", "brings", "([III)V"⟩, 39)]
theorem lw_r2 : ∀ q ∈ lw_privs_2, lw_okq q := List.forall_mem_cons.mpr ⟨lw_p16, List.forall_mem_cons.mpr ⟨lw_p17, List.forall_mem_cons.mpr ⟨lw_p18, List.forall_mem_cons.mpr ⟨lw_p19, List.forall_mem_cons.mpr ⟨lw_p20, List.forall_mem_cons.mpr ⟨lw_p21, List.forall_mem_cons.mpr ⟨lw_p22, List.forall_mem_cons.mpr ⟨lw_p23, List.forall_mem_cons.mpr ⟨lw_p24, List.forall_mem_cons.mpr ⟨lw_p25, List.forall_mem_cons.mpr ⟨lw_p26, List.forall_mem_cons.mpr ⟨lw_p27, List.forall_mem_cons.mpr ⟨lw_p28, List.forall_mem_cons.mpr ⟨lw_p29, List.forall_mem_cons.mpr ⟨lw_p30, List.forall_mem_cons.mpr ⟨lw_p31, fun _ h => absurd h List.not_mem_nil⟩⟩⟩⟩⟩⟩⟩⟩⟩⟩⟩⟩⟩⟩⟩⟩
theorem lw_p32 : lw_okq (⟨"SpanBenchModel", "isLoop", "()Z"⟩, 39) := ⟨⟨by decide +kernel, by decide +kernel⟩, List.mem_of_getElem? (i := 552) (by decide +kernel), List.mem_of_getElem? (i := 788) (by decide +kernel), List.mem_of_getElem? (i := 789) (by decide +kernel)⟩
theorem lw_p33 : lw_okq (⟨"SpanBenchModel", "isShare", "(I)Z"⟩, 39) := ⟨⟨by decide +kernel, by decide +kernel⟩, List.mem_of_getElem? (i := 552) (by decide +kernel), List.mem_of_getElem? (i := 792) (by decide +kernel), List.mem_of_getElem? (i := 793) (by decide +kernel)⟩
theorem lw_p34 : lw_okq (⟨"SpanBenchModel", "pieces", "()I"⟩, 39) := ⟨⟨by decide +kernel, by decide +kernel⟩, List.mem_of_getElem? (i := 552) (by decide +kernel), List.mem_of_getElem? (i := 801) (by decide +kernel), List.mem_of_getElem? (i := 802) (by decide +kernel)⟩
theorem lw_p35 : lw_okq (⟨"SpanBenchModel", "isJoined", "(II)Z"⟩, 39) := ⟨⟨by decide +kernel, by decide +kernel⟩, List.mem_of_getElem? (i := 552) (by decide +kernel), List.mem_of_getElem? (i := 805) (by decide +kernel), List.mem_of_getElem? (i := 806) (by decide +kernel)⟩
theorem lw_p36 : lw_okq (⟨"SpanBenchModel", "numbered", "()I"⟩, 39) := ⟨⟨by decide +kernel, by decide +kernel⟩, List.mem_of_getElem? (i := 552) (by decide +kernel), List.mem_of_getElem? (i := 821) (by decide +kernel), List.mem_of_getElem? (i := 822) (by decide +kernel)⟩
theorem lw_p37 : lw_okq (⟨"SpanBenchModel", "notes", "(I)V"⟩, 39) := ⟨⟨by decide +kernel, by decide +kernel⟩, List.mem_of_getElem? (i := 552) (by decide +kernel), List.mem_of_getElem? (i := 825) (by decide +kernel), List.mem_of_getElem? (i := 826) (by decide +kernel)⟩
theorem lw_p38 : lw_okq (⟨"SpanBenchModel", "takes", "(I)V"⟩, 39) := ⟨⟨by decide +kernel, by decide +kernel⟩, List.mem_of_getElem? (i := 552) (by decide +kernel), List.mem_of_getElem? (i := 829) (by decide +kernel), List.mem_of_getElem? (i := 830) (by decide +kernel)⟩
theorem lw_p39 : lw_okq (⟨"SpanBenchModel", "placeOf", "([II)I"⟩, 39) := ⟨⟨by decide +kernel, by decide +kernel⟩, List.mem_of_getElem? (i := 552) (by decide +kernel), List.mem_of_getElem? (i := 837) (by decide +kernel), List.mem_of_getElem? (i := 838) (by decide +kernel)⟩
theorem lw_p40 : lw_okq (⟨"SpanBenchModel", "cornerOf", "(II)I"⟩, 39) := ⟨⟨by decide +kernel, by decide +kernel⟩, List.mem_of_getElem? (i := 552) (by decide +kernel), List.mem_of_getElem? (i := 841) (by decide +kernel), List.mem_of_getElem? (i := 842) (by decide +kernel)⟩
theorem lw_p41 : lw_okq (⟨"SpanBenchModel", "glues", "(II)V"⟩, 39) := ⟨⟨by decide +kernel, by decide +kernel⟩, List.mem_of_getElem? (i := 552) (by decide +kernel), List.mem_of_getElem? (i := 845) (by decide +kernel), List.mem_of_getElem? (i := 846) (by decide +kernel)⟩
def lw_privs_3 : List (MethodName × Nat) := [(⟨"SpanBenchModel", "isLoop", "()Z"⟩, 39), (⟨"SpanBenchModel", "isShare", "(I)Z"⟩, 39), (⟨"SpanBenchModel", "pieces", "()I"⟩, 39), (⟨"SpanBenchModel", "isJoined", "(II)Z"⟩, 39), (⟨"SpanBenchModel", "numbered", "()I"⟩, 39), (⟨"SpanBenchModel", "notes", "(I)V"⟩, 39), (⟨"SpanBenchModel", "takes", "(I)V"⟩, 39), (⟨"SpanBenchModel", "placeOf", "([II)I"⟩, 39), (⟨"SpanBenchModel", "cornerOf", "(II)I"⟩, 39), (⟨"SpanBenchModel", "glues", "(II)V"⟩, 39)]
theorem lw_r3 : ∀ q ∈ lw_privs_3, lw_okq q := List.forall_mem_cons.mpr ⟨lw_p32, List.forall_mem_cons.mpr ⟨lw_p33, List.forall_mem_cons.mpr ⟨lw_p34, List.forall_mem_cons.mpr ⟨lw_p35, List.forall_mem_cons.mpr ⟨lw_p36, List.forall_mem_cons.mpr ⟨lw_p37, List.forall_mem_cons.mpr ⟨lw_p38, List.forall_mem_cons.mpr ⟨lw_p39, List.forall_mem_cons.mpr ⟨lw_p40, List.forall_mem_cons.mpr ⟨lw_p41, fun _ h => absurd h List.not_mem_nil⟩⟩⟩⟩⟩⟩⟩⟩⟩⟩
def lw_privs : List (MethodName × Nat) := lw_privs_1 ++ (lw_privs_2 ++ (lw_privs_3))
def lw_tbl : List Cond := k2_sels lw_privs ++ tables_1
theorem lw_privs_ok : ∀ q ∈ lw_privs, lw_okq q := by
  show ∀ q ∈ lw_privs_1 ++ (lw_privs_2 ++ (lw_privs_3)), lw_okq q
  exact List.forall_mem_append.mpr ⟨lw_r1, List.forall_mem_append.mpr ⟨lw_r2, lw_r3⟩⟩

def RX0 : String := "SpanBench$Figure"
def TX0 : u_T := fun k => match k with
  | 0 => ("SpanBench$Figure", "count", "I", false)
  | _ => ("SpanBench$Figure", "name", "[I", true)
def tyX0 : Nat → FieldType := fun k => match k with
  | 0 => .int
  | _ => .array .int
abbrev wsX00 : List Cond := u_ws RX0 TX0 2
theorem nmX0 : ∀ a, a < 2 → ∀ b, b < 2 → a ≠ b → (TX0 a).2.1 ≠ (TX0 b).2.1 := by decide +kernel
theorem tyX0_ok : ∀ k, k < 2 → parseFieldDescriptor (TX0 k).2.2.1 = some (tyX0 k) := by decide +kernel
abbrev cX0_init : ByteArray := prog_2_method_1_code
def yX0_init : MethodName := ⟨RX0, "<init>", "()V"⟩
abbrev cX0_glue : ByteArray := prog_2_method_2_code
def yX0_glue : MethodName := ⟨RX0, "glue", "(LSpanBench$Mover;)V"⟩
abbrev cX0_points : ByteArray := prog_2_method_3_code
def yX0_points : MethodName := ⟨RX0, "points", "()I"⟩
abbrev cX0_mostTurns : ByteArray := prog_2_method_4_code
def yX0_mostTurns : MethodName := ⟨RX0, "mostTurns", "()I"⟩
abbrev cX0_pointsWithOneTurn : ByteArray := prog_2_method_5_code
def yX0_pointsWithOneTurn : MethodName := ⟨RX0, "pointsWithOneTurn", "()I"⟩
abbrev cX0_turnsAt : ByteArray := prog_2_method_6_code
def yX0_turnsAt : MethodName := ⟨RX0, "turnsAt", "(I)I"⟩
abbrev cX0_cornerBelow : ByteArray := prog_2_method_7_code
def yX0_cornerBelow : MethodName := ⟨RX0, "cornerBelow", "(I)I"⟩
abbrev cX0_join : ByteArray := prog_2_method_8_code
def yX0_join : MethodName := ⟨RX0, "join", "(II)V"⟩
def RX1 : String := "SpanBench$Heaps"
def TX1 : u_T := fun k => match k with
  | 0 => ("SpanBench$Heaps", "count", "I", false)
  | 1 => ("SpanBench$Heaps", "width", "[I", true)
  | 2 => ("SpanBench$Heaps", "times", "[I", true)
  | 3 => ("SpanBench$Heaps", "least", "[I", true)
  | 4 => ("SpanBench$Heaps", "to", "[I", true)
  | _ => ("SpanBench$Heaps", "room", "[I", true)
def tyX1 : Nat → FieldType := fun k => match k with
  | 0 => .int
  | 1 => .array .int
  | 2 => .array .int
  | 3 => .array .int
  | 4 => .array .int
  | _ => .array .int
abbrev wsX10 : List Cond := u_ws RX1 TX1 6
theorem nmX1 : ∀ a, a < 6 → ∀ b, b < 6 → a ≠ b → (TX1 a).2.1 ≠ (TX1 b).2.1 := by decide +kernel
theorem tyX1_ok : ∀ k, k < 6 → parseFieldDescriptor (TX1 k).2.2.1 = some (tyX1 k) := by decide +kernel
abbrev cX1_init : ByteArray := prog_3_method_1_code
def yX1_init : MethodName := ⟨RX1, "<init>", "()V"⟩
abbrev cX1_tell : ByteArray := prog_3_method_2_code
def yX1_tell : MethodName := ⟨RX1, "tell", "(LSpanBench$Way;I)V"⟩
abbrev cX1_drawPieces : ByteArray := prog_3_method_3_code
def yX1_drawPieces : MethodName := ⟨RX1, "drawPieces", "(LSpanBench$Way;)V"⟩
abbrev cX1_measure : ByteArray := prog_3_method_4_code
def yX1_measure : MethodName := ⟨RX1, "measure", "(II)V"⟩
abbrev cX1_takeOut : ByteArray := prog_3_method_5_code
def yX1_takeOut : MethodName := ⟨RX1, "takeOut", "()V"⟩
def RX2 : String := "SpanBench$Kin"
def TX2 : u_T := fun k => match k with
  | 0 => ("SpanBench$Kin", "count", "I", false)
  | 1 => ("SpanBench$Kin", "found", "I", false)
  | 2 => ("SpanBench$Kin", "met", "[Z", true)
  | 3 => ("SpanBench$Kin", "packed", "[I", true)
  | 4 => ("SpanBench$Kin", "line", "[I", true)
  | _ => ("SpanBench$Kin", "next", "[I", true)
def tyX2 : Nat → FieldType := fun k => match k with
  | 0 => .int
  | 1 => .int
  | 2 => .array .boolean
  | 3 => .array .int
  | 4 => .array .int
  | _ => .array .int
abbrev wsX20 : List Cond := u_ws RX2 TX2 6
theorem nmX2 : ∀ a, a < 6 → ∀ b, b < 6 → a ≠ b → (TX2 a).2.1 ≠ (TX2 b).2.1 := by decide +kernel
theorem tyX2_ok : ∀ k, k < 6 → parseFieldDescriptor (TX2 k).2.2.1 = some (tyX2 k) := by decide +kernel
abbrev cX2_init : ByteArray := prog_4_method_1_code
def yX2_init : MethodName := ⟨RX2, "<init>", "()V"⟩
abbrev cX2_countFrom : ByteArray := prog_4_method_2_code
def yX2_countFrom : MethodName := ⟨RX2, "countFrom", "(LSpanBench$Mover;)I"⟩
abbrev cX2_nameByPlaceAbove : ByteArray := prog_4_method_3_code
def yX2_nameByPlaceAbove : MethodName := ⟨RX2, "nameByPlaceAbove", "(LSpanBench$Mover;)V"⟩
abbrev cX2_letUWin : ByteArray := prog_4_method_4_code
def yX2_letUWin : MethodName := ⟨RX2, "letUWin", "()V"⟩
abbrev cX2_letVWin : ByteArray := prog_4_method_5_code
def yX2_letVWin : MethodName := ⟨RX2, "letVWin", "()V"⟩
abbrev cX2_takeNext : ByteArray := prog_4_method_6_code
def yX2_takeNext : MethodName := ⟨RX2, "takeNext", "()V"⟩
abbrev cX2_rankOfNext : ByteArray := prog_4_method_7_code
def yX2_rankOfNext : MethodName := ⟨RX2, "rankOfNext", "()I"⟩
abbrev cX2_packNext : ByteArray := prog_4_method_8_code
def yX2_packNext : MethodName := ⟨RX2, "packNext", "()I"⟩
abbrev cX2_unpack : ByteArray := prog_4_method_9_code
def yX2_unpack : MethodName := ⟨RX2, "unpack", "(I)V"⟩
def RX3 : String := "SpanBench$Mover"
def TX3 : u_T := fun k => match k with
  | 0 => ("SpanBench$Mover", "count", "I", false)
  | 1 => ("SpanBench$Mover", "root", "I", false)
  | 2 => ("SpanBench$Mover", "stepsDone", "I", false)
  | 3 => ("SpanBench$Mover", "stepsOfU", "I", false)
  | 4 => ("SpanBench$Mover", "partA", "[I", true)
  | 5 => ("SpanBench$Mover", "partB", "[I", true)
  | 6 => ("SpanBench$Mover", "above", "[I", true)
  | 7 => ("SpanBench$Mover", "under", "[I", true)
  | _ => ("SpanBench$Mover", "sums", "[J", true)
def tyX3 : Nat → FieldType := fun k => match k with
  | 0 => .int
  | 1 => .int
  | 2 => .int
  | 3 => .int
  | 4 => .array .int
  | 5 => .array .int
  | 6 => .array .int
  | 7 => .array .int
  | _ => .array .long
abbrev wsX30 : List Cond := u_ws RX3 TX3 9
theorem nmX3 : ∀ a, a < 9 → ∀ b, b < 9 → a ≠ b → (TX3 a).2.1 ≠ (TX3 b).2.1 := by decide +kernel
theorem tyX3_ok : ∀ k, k < 9 → parseFieldDescriptor (TX3 k).2.2.1 = some (tyX3 k) := by decide +kernel
abbrev cX3_init : ByteArray := prog_5_method_1_code
def yX3_init : MethodName := ⟨RX3, "<init>", "()V"⟩
abbrev cX3_layFrom : ByteArray := prog_5_method_2_code
def yX3_layFrom : MethodName := ⟨RX3, "layFrom", "(LSpanBench$Sheet;I)V"⟩
abbrev cX3_copyFrom : ByteArray := prog_5_method_3_code
def yX3_copyFrom : MethodName := ⟨RX3, "copyFrom", "(LSpanBench$Mover;)V"⟩
abbrev cX3_partedAt : ByteArray := prog_5_method_4_code
def yX3_partedAt : MethodName := ⟨RX3, "partedAt", "()I"⟩
abbrev cX3_advance : ByteArray := prog_5_method_5_code
def yX3_advance : MethodName := ⟨RX3, "advance", "()I"⟩
abbrev cX3_hasOrdersOf : ByteArray := prog_5_method_6_code
def yX3_hasOrdersOf : MethodName := ⟨RX3, "hasOrdersOf", "(LSpanBench$Mover;)Z"⟩
abbrev cX3_hasSharesOf : ByteArray := prog_5_method_7_code
def yX3_hasSharesOf : MethodName := ⟨RX3, "hasSharesOf", "(LSpanBench$Mover;)Z"⟩
abbrev cX3_productA : ByteArray := prog_5_method_8_code
def yX3_productA : MethodName := ⟨RX3, "productA", "(ILSpanBench$Mover;)J"⟩
abbrev cX3_productB : ByteArray := prog_5_method_9_code
def yX3_productB : MethodName := ⟨RX3, "productB", "(ILSpanBench$Mover;)J"⟩
abbrev cX3_isSpentBy : ByteArray := prog_5_method_10_code
def yX3_isSpentBy : MethodName := ⟨RX3, "isSpentBy", "(II)Z"⟩
abbrev cX3_shorten : ByteArray := prog_5_method_11_code
def yX3_shorten : MethodName := ⟨RX3, "shorten", "(II)V"⟩
abbrev cX3_bringLastBehind : ByteArray := prog_5_method_12_code
def yX3_bringLastBehind : MethodName := ⟨RX3, "bringLastBehind", "(I[I)V"⟩
def RX4 : String := "SpanBench$Sheet"
def TX4 : u_T := fun k => match k with
  | 0 => ("SpanBench$Sheet", "count", "I", false)
  | 1 => ("SpanBench$Sheet", "partA", "[I", true)
  | 2 => ("SpanBench$Sheet", "partB", "[I", true)
  | _ => ("SpanBench$Sheet", "under", "[I", true)
def tyX4 : Nat → FieldType := fun k => match k with
  | 0 => .int
  | 1 => .array .int
  | 2 => .array .int
  | _ => .array .int
abbrev wsX40 : List Cond := u_ws RX4 TX4 4
theorem nmX4 : ∀ a, a < 4 → ∀ b, b < 4 → a ≠ b → (TX4 a).2.1 ≠ (TX4 b).2.1 := by decide +kernel
theorem tyX4_ok : ∀ k, k < 4 → parseFieldDescriptor (TX4 k).2.2.1 = some (tyX4 k) := by decide +kernel
abbrev cX4_init : ByteArray := prog_6_method_1_code
def yX4_init : MethodName := ⟨RX4, "<init>", "()V"⟩
abbrev cX4_clear : ByteArray := prog_6_method_2_code
def yX4_clear : MethodName := ⟨RX4, "clear", "()V"⟩
abbrev cX4_takeOrder : ByteArray := prog_6_method_3_code
def yX4_takeOrder : MethodName := ⟨RX4, "takeOrder", "(II)Z"⟩
abbrev cX4_hasAllLengths : ByteArray := prog_6_method_4_code
def yX4_hasAllLengths : MethodName := ⟨RX4, "hasAllLengths", "()Z"⟩
abbrev cX4_nibble : ByteArray := prog_6_method_5_code
def yX4_nibble : MethodName := ⟨RX4, "nibble", "(II)I"⟩
def RX5 : String := "SpanBench$Spot"
def TX5 : u_T := fun k => match k with
  | 0 => ("SpanBench$Spot", "there", "Z", false)
  | 1 => ("SpanBench$Spot", "a", "J", false)
  | _ => ("SpanBench$Spot", "b", "J", false)
def tyX5 : Nat → FieldType := fun k => match k with
  | 0 => .boolean
  | 1 => .long
  | _ => .long
abbrev wsX50 : List Cond := u_ws RX5 TX5 3
theorem nmX5 : ∀ a, a < 3 → ∀ b, b < 3 → a ≠ b → (TX5 a).2.1 ≠ (TX5 b).2.1 := by decide +kernel
theorem tyX5_ok : ∀ k, k < 3 → parseFieldDescriptor (TX5 k).2.2.1 = some (tyX5 k) := by decide +kernel
abbrev cX5_init : ByteArray := prog_7_method_1_code
def yX5_init : MethodName := ⟨RX5, "<init>", "()V"⟩
abbrev cX5_put : ByteArray := prog_7_method_2_code
def yX5_put : MethodName := ⟨RX5, "put", "(JJ)V"⟩
def RX6 : String := "SpanBench$Way"
def TX6 : u_T := fun k => match k with
  | 0 => ("SpanBench$Way", "count", "I", false)
  | 1 => ("SpanBench$Way", "root", "I", false)
  | 2 => ("SpanBench$Way", "span", "[I", true)
  | 3 => ("SpanBench$Way", "edgeA", "[J", true)
  | 4 => ("SpanBench$Way", "edgeB", "[J", true)
  | 5 => ("SpanBench$Way", "shiftA", "[J", true)
  | _ => ("SpanBench$Way", "shiftB", "[J", true)
def tyX6 : Nat → FieldType := fun k => match k with
  | 0 => .int
  | 1 => .int
  | 2 => .array .int
  | 3 => .array .long
  | 4 => .array .long
  | 5 => .array .long
  | _ => .array .long
abbrev wsX60 : List Cond := u_ws RX6 TX6 7
theorem nmX6 : ∀ a, a < 7 → ∀ b, b < 7 → a ≠ b → (TX6 a).2.1 ≠ (TX6 b).2.1 := by decide +kernel
theorem tyX6_ok : ∀ k, k < 7 → parseFieldDescriptor (TX6 k).2.2.1 = some (tyX6 k) := by decide +kernel
abbrev cX6_init : ByteArray := prog_8_method_1_code
def yX6_init : MethodName := ⟨RX6, "<init>", "()V"⟩
abbrev cX6_draw : ByteArray := prog_8_method_2_code
def yX6_draw : MethodName := ⟨RX6, "draw", "(LSpanBench$Mover;[I[I)V"⟩
abbrev cX6_covers : ByteArray := prog_8_method_3_code
def yX6_covers : MethodName := ⟨RX6, "covers", "(JJ)Z"⟩
abbrev cX6_spanAt : ByteArray := prog_8_method_4_code
def yX6_spanAt : MethodName := ⟨RX6, "spanAt", "(LSpanBench$Spot;)I"⟩
abbrev cX6_carry : ByteArray := prog_8_method_5_code
def yX6_carry : MethodName := ⟨RX6, "carry", "(LSpanBench$Spot;)Z"⟩
abbrev cX6_shift : ByteArray := prog_8_method_6_code
def yX6_shift : MethodName := ⟨RX6, "shift", "(LSpanBench$Spot;I)Z"⟩
abbrev cX6_isLeftEnd : ByteArray := prog_8_method_7_code
def yX6_isLeftEnd : MethodName := ⟨RX6, "isLeftEnd", "(LSpanBench$Spot;)Z"⟩
abbrev cX6_isLeftOf : ByteArray := prog_8_method_8_code
def yX6_isLeftOf : MethodName := ⟨RX6, "isLeftOf", "(JJI)Z"⟩
def RX7 : String := "SpanBench"
def TX7 : u_T := fun k => match k with
  | 0 => ("SpanBench", "rootNow", "I", false)
  | 1 => ("SpanBench", "sheet", "LSpanBench$Sheet;", true)
  | 2 => ("SpanBench", "mover", "LSpanBench$Mover;", true)
  | 3 => ("SpanBench", "trial", "LSpanBench$Mover;", true)
  | 4 => ("SpanBench", "forwards", "LSpanBench$Way;", true)
  | 5 => ("SpanBench", "backwards", "LSpanBench$Way;", true)
  | 6 => ("SpanBench", "spot", "LSpanBench$Spot;", true)
  | 7 => ("SpanBench", "walker", "LSpanBench$Spot;", true)
  | 8 => ("SpanBench", "heaps", "LSpanBench$Heaps;", true)
  | 9 => ("SpanBench", "kin", "LSpanBench$Kin;", true)
  | _ => ("SpanBench", "figure", "LSpanBench$Figure;", true)
def tyX7 : Nat → FieldType := fun k => match k with
  | 0 => .int
  | 1 => .object "SpanBench$Sheet"
  | 2 => .object "SpanBench$Mover"
  | 3 => .object "SpanBench$Mover"
  | 4 => .object "SpanBench$Way"
  | 5 => .object "SpanBench$Way"
  | 6 => .object "SpanBench$Spot"
  | 7 => .object "SpanBench$Spot"
  | 8 => .object "SpanBench$Heaps"
  | 9 => .object "SpanBench$Kin"
  | _ => .object "SpanBench$Figure"
abbrev wsX70 : List Cond := u_ws RX7 TX7 11
theorem nmX7 : ∀ a, a < 11 → ∀ b, b < 11 → a ≠ b → (TX7 a).2.1 ≠ (TX7 b).2.1 := by decide +kernel
theorem tyX7_ok : ∀ k, k < 11 → parseFieldDescriptor (TX7 k).2.2.1 = some (tyX7 k) := by decide +kernel
abbrev cX7_init : ByteArray := prog_1_method_1_code
def yX7_init : MethodName := ⟨RX7, "<init>", "()V"⟩
abbrev cX7_root : ByteArray := prog_1_method_2_code
def yX7_root : MethodName := ⟨RX7, "root", "(I)Z"⟩
abbrev cX7_length : ByteArray := prog_1_method_3_code
def yX7_length : MethodName := ⟨RX7, "length", "(III)Z"⟩
abbrev cX7_below : ByteArray := prog_1_method_4_code
def yX7_below : MethodName := ⟨RX7, "below", "(II)Z"⟩
abbrev cX7_lay : ByteArray := prog_1_method_5_code
def yX7_lay : MethodName := ⟨RX7, "lay", "()I"⟩
abbrev cX7_of : ByteArray := prog_1_method_6_code
def yX7_of : MethodName := ⟨RX7, "of", "(I)I"⟩
abbrev cX7_spans : ByteArray := prog_1_method_7_code
def yX7_spans : MethodName := ⟨RX7, "spans", "(II)J"⟩
abbrev cX7_order : ByteArray := prog_1_method_8_code
def yX7_order : MethodName := ⟨RX7, "order", "(II)I"⟩
abbrev cX7_point : ByteArray := prog_1_method_9_code
def yX7_point : MethodName := ⟨RX7, "point", "(II)I"⟩
abbrev cX7_move : ByteArray := prog_1_method_10_code
def yX7_move : MethodName := ⟨RX7, "move", "(I)I"⟩
abbrev cX7_where : ByteArray := prog_1_method_11_code
def yX7_where : MethodName := ⟨RX7, "where", "(I)J"⟩
abbrev cX7_back : ByteArray := prog_1_method_12_code
def yX7_back : MethodName := ⟨RX7, "back", "(II)I"⟩
abbrev cX7_visits : ByteArray := prog_1_method_13_code
def yX7_visits : MethodName := ⟨RX7, "visits", "(II)I"⟩
abbrev cX7_step : ByteArray := prog_1_method_14_code
def yX7_step : MethodName := ⟨RX7, "step", "()I"⟩
abbrev cX7_steps : ByteArray := prog_1_method_15_code
def yX7_steps : MethodName := ⟨RX7, "steps", "(I)I"⟩
abbrev cX7_table : ByteArray := prog_1_method_16_code
def yX7_table : MethodName := ⟨RX7, "table", "(II)J"⟩
abbrev cX7_loop : ByteArray := prog_1_method_17_code
def yX7_loop : MethodName := ⟨RX7, "loop", "()I"⟩
abbrev cX7_rounds : ByteArray := prog_1_method_18_code
def yX7_rounds : MethodName := ⟨RX7, "rounds", "()I"⟩
abbrev cX7_round : ByteArray := prog_1_method_19_code
def yX7_round : MethodName := ⟨RX7, "round", "(II)I"⟩
abbrev cX7_words : ByteArray := prog_1_method_20_code
def yX7_words : MethodName := ⟨RX7, "words", "(I)I"⟩
abbrev cX7_classes : ByteArray := prog_1_method_21_code
def yX7_classes : MethodName := ⟨RX7, "classes", "()I"⟩
abbrev cX7_ground : ByteArray := prog_1_method_22_code
def yX7_ground : MethodName := ⟨RX7, "ground", "(I)I"⟩
abbrev cX7_canBe : ByteArray := prog_1_method_23_code
def yX7_canBe : MethodName := ⟨RX7, "canBe", "(III)Z"⟩
abbrev cX7_drawWays : ByteArray := prog_1_method_24_code
def yX7_drawWays : MethodName := ⟨RX7, "drawWays", "()V"⟩
abbrev cX7_followMover : ByteArray := prog_1_method_25_code
def yX7_followMover : MethodName := ⟨RX7, "followMover", "()V"⟩
abbrev cX7_beginningsBehind : ByteArray := prog_1_method_26_code
def yX7_beginningsBehind : MethodName := ⟨RX7, "beginningsBehind", "(II)I"⟩
abbrev cX7_isWithin : ByteArray := prog_1_method_27_code
def yX7_isWithin : MethodName := ⟨RX7, "isWithin", "(JI)Z"⟩
abbrev cX7_signOf : ByteArray := prog_1_method_28_code
def yX7_signOf : MethodName := ⟨RX7, "signOf", "(JJI)I"⟩
def RX8 : String := "SpanBenchModel"
def TX8 : u_T := fun k => match k with
  | 0 => ("SpanBenchModel", "root", "I", false)
  | 1 => ("SpanBenchModel", "sheetA", "[I", true)
  | 2 => ("SpanBenchModel", "sheetB", "[I", true)
  | 3 => ("SpanBenchModel", "sheetMany", "I", false)
  | 4 => ("SpanBenchModel", "sheetBelow", "[I", true)
  | 5 => ("SpanBenchModel", "n", "I", false)
  | 6 => ("SpanBenchModel", "longA", "[J", true)
  | 7 => ("SpanBenchModel", "longB", "[J", true)
  | 8 => ("SpanBenchModel", "above", "[I", true)
  | 9 => ("SpanBenchModel", "below", "[I", true)
  | 10 => ("SpanBenchModel", "told", "[J", true)
  | 11 => ("SpanBenchModel", "steps", "I", false)
  | 12 => ("SpanBenchModel", "wins", "I", false)
  | 13 => ("SpanBenchModel", "hasPoint", "Z", false)
  | 14 => ("SpanBenchModel", "pointA", "J", false)
  | 15 => ("SpanBenchModel", "pointB", "J", false)
  | 16 => ("SpanBenchModel", "leftA", "J", false)
  | 17 => ("SpanBenchModel", "leftB", "J", false)
  | 18 => ("SpanBenchModel", "nextA", "J", false)
  | 19 => ("SpanBenchModel", "nextB", "J", false)
  | 20 => ("SpanBenchModel", "wasA", "[J", true)
  | 21 => ("SpanBenchModel", "wasB", "[J", true)
  | 22 => ("SpanBenchModel", "wasAbove", "[I", true)
  | 23 => ("SpanBenchModel", "wasBelow", "[I", true)
  | 24 => ("SpanBenchModel", "wasTold", "[J", true)
  | 25 => ("SpanBenchModel", "rounds", "I", false)
  | 26 => ("SpanBenchModel", "roundWide", "[I", true)
  | 27 => ("SpanBenchModel", "roundTimes", "[I", true)
  | 28 => ("SpanBenchModel", "roundLeast", "[I", true)
  | 29 => ("SpanBenchModel", "to", "[I", true)
  | 30 => ("SpanBenchModel", "in", "[I", true)
  | 31 => ("SpanBenchModel", "seen", "[Z", true)
  | 32 => ("SpanBenchModel", "cutA", "[J", true)
  | 33 => ("SpanBenchModel", "cutB", "[J", true)
  | 34 => ("SpanBenchModel", "noted", "[I", true)
  | 35 => ("SpanBenchModel", "notes", "I", false)
  | 36 => ("SpanBenchModel", "upper", "[I", true)
  | 37 => ("SpanBenchModel", "lower", "[I", true)
  | _ => ("SpanBenchModel", "corner", "[I", true)
def tyX8 : Nat → FieldType := fun k => match k with
  | 0 => .int
  | 1 => .array .int
  | 2 => .array .int
  | 3 => .int
  | 4 => .array .int
  | 5 => .int
  | 6 => .array .long
  | 7 => .array .long
  | 8 => .array .int
  | 9 => .array .int
  | 10 => .array .long
  | 11 => .int
  | 12 => .int
  | 13 => .boolean
  | 14 => .long
  | 15 => .long
  | 16 => .long
  | 17 => .long
  | 18 => .long
  | 19 => .long
  | 20 => .array .long
  | 21 => .array .long
  | 22 => .array .int
  | 23 => .array .int
  | 24 => .array .long
  | 25 => .int
  | 26 => .array .int
  | 27 => .array .int
  | 28 => .array .int
  | 29 => .array .int
  | 30 => .array .int
  | 31 => .array .boolean
  | 32 => .array .long
  | 33 => .array .long
  | 34 => .array .int
  | 35 => .int
  | 36 => .array .int
  | 37 => .array .int
  | _ => .array .int
abbrev wsX80 : List Cond := u_ws RX8 TX8 39
theorem nmX8 : ∀ a, a < 39 → ∀ b, b < 39 → a ≠ b → (TX8 a).2.1 ≠ (TX8 b).2.1 := by decide +kernel
theorem tyX8_ok : ∀ k, k < 39 → parseFieldDescriptor (TX8 k).2.2.1 = some (tyX8 k) := by decide +kernel
abbrev cX8_init : ByteArray := prog_10_method_1_code
def yX8_init : MethodName := ⟨RX8, "<init>", "()V"⟩
abbrev cX8_signOf : ByteArray := prog_10_method_2_code
def yX8_signOf : MethodName := ⟨RX8, "signOf", "(JJ)I"⟩
abbrev cX8_forgets : ByteArray := prog_10_method_3_code
def yX8_forgets : MethodName := ⟨RX8, "forgets", "()V"⟩
abbrev cX8_root : ByteArray := prog_10_method_4_code
def yX8_root : MethodName := ⟨RX8, "root", "(I)Z"⟩
abbrev cX8_isIn : ByteArray := prog_10_method_5_code
def yX8_isIn : MethodName := ⟨RX8, "isIn", "(JJ)Z"⟩
abbrev cX8_length : ByteArray := prog_10_method_6_code
def yX8_length : MethodName := ⟨RX8, "length", "(III)Z"⟩
abbrev cX8_below : ByteArray := prog_10_method_7_code
def yX8_below : MethodName := ⟨RX8, "below", "(II)Z"⟩
abbrev cX8_lay : ByteArray := prog_10_method_8_code
def yX8_lay : MethodName := ⟨RX8, "lay", "()I"⟩
abbrev cX8_parted : ByteArray := prog_10_method_9_code
def yX8_parted : MethodName := ⟨RX8, "parted", "()I"⟩
abbrev cX8_of : ByteArray := prog_10_method_10_code
def yX8_of : MethodName := ⟨RX8, "of", "(I)I"⟩
abbrev cX8_total : ByteArray := prog_10_method_11_code
def yX8_total : MethodName := ⟨RX8, "total", "(I)J"⟩
abbrev cX8_spans : ByteArray := prog_10_method_12_code
def yX8_spans : MethodName := ⟨RX8, "spans", "(II)J"⟩
abbrev cX8_order : ByteArray := prog_10_method_13_code
def yX8_order : MethodName := ⟨RX8, "order", "(II)I"⟩
abbrev cX8_spanAt : ByteArray := prog_10_method_14_code
def yX8_spanAt : MethodName := ⟨RX8, "spanAt", "([IJJ)I"⟩
abbrev cX8_begins : ByteArray := prog_10_method_15_code
def yX8_begins : MethodName := ⟨RX8, "begins", "([II)V"⟩
abbrev cX8_isOnLine : ByteArray := prog_10_method_16_code
def yX8_isOnLine : MethodName := ⟨RX8, "isOnLine", "(JJ)Z"⟩
abbrev cX8_goes : ByteArray := prog_10_method_17_code
def yX8_goes : MethodName := ⟨RX8, "goes", "(JJZ)V"⟩
abbrev cX8_isPoint : ByteArray := prog_10_method_18_code
def yX8_isPoint : MethodName := ⟨RX8, "isPoint", "(JJ)Z"⟩
abbrev cX8_point : ByteArray := prog_10_method_19_code
def yX8_point : MethodName := ⟨RX8, "point", "(II)I"⟩
abbrev cX8_move : ByteArray := prog_10_method_20_code
def yX8_move : MethodName := ⟨RX8, "move", "(I)I"⟩
abbrev cX8_where : ByteArray := prog_10_method_21_code
def yX8_where : MethodName := ⟨RX8, "where", "(I)J"⟩
abbrev cX8_back : ByteArray := prog_10_method_22_code
def yX8_back : MethodName := ⟨RX8, "back", "(II)I"⟩
abbrev cX8_visits : ByteArray := prog_10_method_23_code
def yX8_visits : MethodName := ⟨RX8, "visits", "(II)I"⟩
abbrev cX8_brings : ByteArray := prog_10_method_24_code
def yX8_brings : MethodName := ⟨RX8, "brings", "([III)V"⟩
abbrev cX8_step : ByteArray := prog_10_method_25_code
def yX8_step : MethodName := ⟨RX8, "step", "()I"⟩
abbrev cX8_steps : ByteArray := prog_10_method_26_code
def yX8_steps : MethodName := ⟨RX8, "steps", "(I)I"⟩
abbrev cX8_table : ByteArray := prog_10_method_27_code
def yX8_table : MethodName := ⟨RX8, "table", "(II)J"⟩
abbrev cX8_isShare : ByteArray := prog_10_method_28_code
def yX8_isShare : MethodName := ⟨RX8, "isShare", "(I)Z"⟩
abbrev cX8_isLoop : ByteArray := prog_10_method_29_code
def yX8_isLoop : MethodName := ⟨RX8, "isLoop", "()Z"⟩
abbrev cX8_loop : ByteArray := prog_10_method_30_code
def yX8_loop : MethodName := ⟨RX8, "loop", "()I"⟩
abbrev cX8_pieces : ByteArray := prog_10_method_31_code
def yX8_pieces : MethodName := ⟨RX8, "pieces", "()I"⟩
abbrev cX8_isJoined : ByteArray := prog_10_method_32_code
def yX8_isJoined : MethodName := ⟨RX8, "isJoined", "(II)Z"⟩
abbrev cX8_rounds : ByteArray := prog_10_method_33_code
def yX8_rounds : MethodName := ⟨RX8, "rounds", "()I"⟩
abbrev cX8_round : ByteArray := prog_10_method_34_code
def yX8_round : MethodName := ⟨RX8, "round", "(II)I"⟩
abbrev cX8_words : ByteArray := prog_10_method_35_code
def yX8_words : MethodName := ⟨RX8, "words", "(I)I"⟩
abbrev cX8_numbered : ByteArray := prog_10_method_36_code
def yX8_numbered : MethodName := ⟨RX8, "numbered", "()I"⟩
abbrev cX8_notes : ByteArray := prog_10_method_37_code
def yX8_notes : MethodName := ⟨RX8, "notes", "(I)V"⟩
abbrev cX8_takes : ByteArray := prog_10_method_38_code
def yX8_takes : MethodName := ⟨RX8, "takes", "(I)V"⟩
abbrev cX8_classes : ByteArray := prog_10_method_39_code
def yX8_classes : MethodName := ⟨RX8, "classes", "()I"⟩
abbrev cX8_cornerOf : ByteArray := prog_10_method_40_code
def yX8_cornerOf : MethodName := ⟨RX8, "cornerOf", "(II)I"⟩
abbrev cX8_glues : ByteArray := prog_10_method_41_code
def yX8_glues : MethodName := ⟨RX8, "glues", "(II)V"⟩
abbrev cX8_placeOf : ByteArray := prog_10_method_42_code
def yX8_placeOf : MethodName := ⟨RX8, "placeOf", "([II)I"⟩
abbrev cX8_ground : ByteArray := prog_10_method_43_code
def yX8_ground : MethodName := ⟨RX8, "ground", "(I)I"⟩
def RJ9 : String := "java/lang/Math"
def TJ9 : u_T := fun k => match k with
  | _ => ("", "", "", false)
def tyJ9 : Nat → FieldType := fun k => match k with
  | _ => .int
abbrev wsJ90 : List Cond := u_ws RJ9 TJ9 0
theorem nmJ9 : ∀ a, a < 0 → ∀ b, b < 0 → a ≠ b → (TJ9 a).2.1 ≠ (TJ9 b).2.1 := by decide +kernel
theorem tyJ9_ok : ∀ k, k < 0 → parseFieldDescriptor (TJ9 k).2.2.1 = some (tyJ9 k) := by decide +kernel
abbrev cJ9_max_7cf53 : ByteArray := prog_11_method_65_code
def yJ9_max_7cf53 : MethodName := ⟨RJ9, "max", "(II)I"⟩
abbrev cJ9_min_7cf53 : ByteArray := prog_11_method_69_code
def yJ9_min_7cf53 : MethodName := ⟨RJ9, "min", "(II)I"⟩
def RJ10 : String := "java/lang/System"
def TJ10 : u_T := fun k => match k with
  | _ => ("", "", "", false)
def tyJ10 : Nat → FieldType := fun k => match k with
  | _ => .int
abbrev wsJ100 : List Cond := u_ws RJ10 TJ10 0
theorem nmJ10 : ∀ a, a < 0 → ∀ b, b < 0 → a ≠ b → (TJ10 a).2.1 ≠ (TJ10 b).2.1 := by decide +kernel
theorem tyJ10_ok : ∀ k, k < 0 → parseFieldDescriptor (TJ10 k).2.2.1 = some (tyJ10 k) := by decide +kernel
def RL : String := "SpanBenchLaw"
abbrev cL_law : ByteArray := code
def yL_law : MethodName := ⟨RL, "law", "([I)Z"⟩
abbrev vwCl : List vw_C := [(RX0, TX0, 2), (RX1, TX1, 6), (RX2, TX2, 6), (RX3, TX3, 9), (RX4, TX4, 4), (RX5, TX5, 3), (RX6, TX6, 7), (RX7, TX7, 11), (RX8, TX8, 39)]
/-- the words that a callee may be given: those of the tables that keep -/
def TB : List Cond := lw_tbl.filter goodWord
theorem TB_in : ∀ w ∈ TB, w ∈ lw_tbl := fun w h => (List.mem_filter.mp h).1
theorem TB_good : ∀ w ∈ TB, (w.onTables && w.keeps) = true ∨ ∃ ty, w = .arrayClass ty := fun w h => good_of_word (List.mem_filter.mp h).2
theorem TB_t {w : Cond} (h : w ∈ tables_1) (hg : goodWord w = true) : w ∈ TB := List.mem_filter.mpr ⟨List.mem_append_right _ h, hg⟩
theorem TB_p {w : Cond} (h : w ∈ k2_sels lw_privs) (hg : goodWord w = true) : w ∈ TB := List.mem_filter.mpr ⟨List.mem_append_left _ h, hg⟩
theorem TB_c1 {w : Cond} (h : w ∈ tables_1_1) (hg : goodWord w = true) : w ∈ TB := TB_t (List.mem_append_left _ h) hg
theorem TB_c2 {w : Cond} (h : w ∈ tables_1_2) (hg : goodWord w = true) : w ∈ TB := TB_t (List.mem_append_right _ (List.mem_append_left _ h)) hg
theorem TB_c3 {w : Cond} (h : w ∈ tables_1_3) (hg : goodWord w = true) : w ∈ TB := TB_t (List.mem_append_right _ (List.mem_append_right _ (List.mem_append_left _ h))) hg
theorem TB_c4 {w : Cond} (h : w ∈ tables_1_4) (hg : goodWord w = true) : w ∈ TB := TB_t (List.mem_append_right _ (List.mem_append_right _ (List.mem_append_right _ (h)))) hg
theorem in_RL : Cond.initialized RL ∈ TB := TB_c1 (List.mem_of_getElem? (i := 0) (by decide +kernel)) rfl
theorem in_RX7 : Cond.initialized RX7 ∈ TB := TB_c1 (List.mem_of_getElem? (i := 1) (by decide +kernel)) rfl
theorem in_RX4 : Cond.initialized RX4 ∈ TB := TB_c1 (List.mem_of_getElem? (i := 2) (by decide +kernel)) rfl
theorem in_RX3 : Cond.initialized RX3 ∈ TB := TB_c1 (List.mem_of_getElem? (i := 3) (by decide +kernel)) rfl
theorem in_RX6 : Cond.initialized RX6 ∈ TB := TB_c1 (List.mem_of_getElem? (i := 4) (by decide +kernel)) rfl
theorem in_RX5 : Cond.initialized RX5 ∈ TB := TB_c1 (List.mem_of_getElem? (i := 5) (by decide +kernel)) rfl
theorem in_RX1 : Cond.initialized RX1 ∈ TB := TB_c1 (List.mem_of_getElem? (i := 6) (by decide +kernel)) rfl
theorem in_RX2 : Cond.initialized RX2 ∈ TB := TB_c1 (List.mem_of_getElem? (i := 7) (by decide +kernel)) rfl
theorem in_RX0 : Cond.initialized RX0 ∈ TB := TB_c1 (List.mem_of_getElem? (i := 8) (by decide +kernel)) rfl
theorem in_RX8 : Cond.initialized RX8 ∈ TB := TB_c1 (List.mem_of_getElem? (i := 9) (by decide +kernel)) rfl
theorem in_java_lang_System : Cond.initialized "java/lang/System" ∈ TB := TB_c1 (List.mem_of_getElem? (i := 10) (by decide +kernel)) rfl
theorem in_java_lang_Math : Cond.initialized "java/lang/Math" ∈ TB := TB_c1 (List.mem_of_getElem? (i := 11) (by decide +kernel)) rfl
theorem cl_RL_7 : Cond.classLink RL 7 RX7 ∈ TB := TB_c1 (List.mem_of_getElem? (i := 12) (by decide +kernel)) rfl
theorem it_RX7 : Cond.instantiable RX7 11 ∈ TB := TB_c1 (List.mem_of_getElem? (i := 13) (by decide +kernel)) rfl
theorem ml_RL_9 : Cond.methodLink RL 9 yX7_init ∈ TB := TB_c1 (List.mem_of_getElem? (i := 14) (by decide +kernel)) rfl
theorem im_X7_init : Cond.instanceMethod yX7_init ∈ TB := TB_c1 (List.mem_of_getElem? (i := 15) (by decide +kernel)) rfl
theorem cd_X7_init : Cond.code yX7_init cX7_init 1 (none) ∈ TB := TB_c1 (List.mem_of_getElem? (i := 16) rfl) rfl
theorem ml_RX7_1 : Cond.methodLink RX7 1 objectInit ∈ TB := TB_c1 (List.mem_of_getElem? (i := 17) (by decide +kernel)) rfl
theorem im_obj : Cond.instanceMethod objectInit ∈ TB := TB_c1 (List.mem_of_getElem? (i := 18) (by decide +kernel)) rfl
theorem cd_obj : Cond.code objectInit ⟨#[0xb1]⟩ 1 none ∈ TB := TB_c1 (List.mem_of_getElem? (i := 19) rfl) rfl
theorem cl_RX7_13 : Cond.classLink RX7 13 RX4 ∈ TB := TB_c1 (List.mem_of_getElem? (i := 20) (by decide +kernel)) rfl
theorem it_RX4 : Cond.instantiable RX4 4 ∈ TB := TB_c1 (List.mem_of_getElem? (i := 21) (by decide +kernel)) rfl
theorem im_X4_init : Cond.instanceMethod yX4_init ∈ TB := TB_c1 (List.mem_of_getElem? (i := 23) (by decide +kernel)) rfl
theorem cd_X4_init : Cond.code yX4_init cX4_init 1 (none) ∈ TB := TB_c1 (List.mem_of_getElem? (i := 24) rfl) rfl
theorem ml_RX4_3 : Cond.methodLink RX4 3 objectInit ∈ TB := TB_c1 (List.mem_of_getElem? (i := 25) (by decide +kernel)) rfl
theorem fl_RX4_21 : Cond.fieldLink RX4 21 "SpanBench$Sheet" "count" "I" ∈ TB := TB_c1 (List.mem_of_getElem? (i := 26) (by decide +kernel)) rfl
theorem fl_RX3_28 : Cond.fieldLink RX3 28 "SpanBench$Sheet" "count" "I" ∈ TB := TB_c1 (List.mem_of_getElem? (i := 27) (by decide +kernel)) rfl
theorem fl_RX7_100 : Cond.fieldLink RX7 100 "SpanBench$Sheet" "count" "I" ∈ TB := TB_c1 (List.mem_of_getElem? (i := 28) (by decide +kernel)) rfl
theorem fl_RX4_9 : Cond.fieldLink RX4 9 "SpanBench$Sheet" "partA" "[I" ∈ TB := TB_c1 (List.mem_of_getElem? (i := 29) (by decide +kernel)) rfl
theorem fl_RX3_44 : Cond.fieldLink RX3 44 "SpanBench$Sheet" "partA" "[I" ∈ TB := TB_c1 (List.mem_of_getElem? (i := 30) (by decide +kernel)) rfl
theorem fl_RX7_89 : Cond.fieldLink RX7 89 "SpanBench$Sheet" "partA" "[I" ∈ TB := TB_c1 (List.mem_of_getElem? (i := 31) (by decide +kernel)) rfl
theorem fl_RX4_15 : Cond.fieldLink RX4 15 "SpanBench$Sheet" "partB" "[I" ∈ TB := TB_c1 (List.mem_of_getElem? (i := 32) (by decide +kernel)) rfl
theorem fl_RX3_45 : Cond.fieldLink RX3 45 "SpanBench$Sheet" "partB" "[I" ∈ TB := TB_c1 (List.mem_of_getElem? (i := 33) (by decide +kernel)) rfl
theorem fl_RX7_93 : Cond.fieldLink RX7 93 "SpanBench$Sheet" "partB" "[I" ∈ TB := TB_c1 (List.mem_of_getElem? (i := 34) (by decide +kernel)) rfl
theorem fl_RX4_18 : Cond.fieldLink RX4 18 "SpanBench$Sheet" "under" "[I" ∈ TB := TB_c1 (List.mem_of_getElem? (i := 35) (by decide +kernel)) rfl
theorem fl_RX3_46 : Cond.fieldLink RX3 46 "SpanBench$Sheet" "under" "[I" ∈ TB := TB_c1 (List.mem_of_getElem? (i := 36) (by decide +kernel)) rfl
theorem ac_int : Cond.arrayClass .int ∈ TB := TB_c1 (List.mem_of_getElem? (i := 46) (by decide +kernel)) rfl
theorem cl_RX7_20 : Cond.classLink RX7 20 RX3 ∈ TB := TB_c1 (List.mem_of_getElem? (i := 47) (by decide +kernel)) rfl
theorem it_RX3 : Cond.instantiable RX3 9 ∈ TB := TB_c1 (List.mem_of_getElem? (i := 48) (by decide +kernel)) rfl
theorem im_X3_init : Cond.instanceMethod yX3_init ∈ TB := TB_c1 (List.mem_of_getElem? (i := 50) (by decide +kernel)) rfl
theorem cd_X3_init : Cond.code yX3_init cX3_init 1 (none) ∈ TB := TB_c1 (List.mem_of_getElem? (i := 51) rfl) rfl
theorem ml_RX3_3 : Cond.methodLink RX3 3 objectInit ∈ TB := TB_c1 (List.mem_of_getElem? (i := 52) (by decide +kernel)) rfl
theorem fl_RX6_28 : Cond.fieldLink RX6 28 "SpanBench$Mover" "count" "I" ∈ TB := TB_c1 (List.mem_of_getElem? (i := 53) (by decide +kernel)) rfl
theorem fl_RX2_25 : Cond.fieldLink RX2 25 "SpanBench$Mover" "count" "I" ∈ TB := TB_c1 (List.mem_of_getElem? (i := 54) (by decide +kernel)) rfl
theorem fl_RX0_15 : Cond.fieldLink RX0 15 "SpanBench$Mover" "count" "I" ∈ TB := TB_c1 (List.mem_of_getElem? (i := 55) (by decide +kernel)) rfl
theorem fl_RX3_34 : Cond.fieldLink RX3 34 "SpanBench$Mover" "count" "I" ∈ TB := TB_c1 (List.mem_of_getElem? (i := 56) (by decide +kernel)) rfl
theorem fl_RX7_74 : Cond.fieldLink RX7 74 "SpanBench$Mover" "count" "I" ∈ TB := TB_c1 (List.mem_of_getElem? (i := 57) (by decide +kernel)) rfl
theorem fl_RX3_35 : Cond.fieldLink RX3 35 "SpanBench$Mover" "root" "I" ∈ TB := TB_c1 (List.mem_of_getElem? (i := 58) (by decide +kernel)) rfl
theorem fl_RX6_35 : Cond.fieldLink RX6 35 "SpanBench$Mover" "root" "I" ∈ TB := TB_c1 (List.mem_of_getElem? (i := 59) (by decide +kernel)) rfl
theorem fl_RX3_38 : Cond.fieldLink RX3 38 "SpanBench$Mover" "stepsDone" "I" ∈ TB := TB_c1 (List.mem_of_getElem? (i := 60) (by decide +kernel)) rfl
theorem fl_RX7_112 : Cond.fieldLink RX7 112 "SpanBench$Mover" "stepsDone" "I" ∈ TB := TB_c1 (List.mem_of_getElem? (i := 61) (by decide +kernel)) rfl
theorem fl_RX3_41 : Cond.fieldLink RX3 41 "SpanBench$Mover" "stepsOfU" "I" ∈ TB := TB_c1 (List.mem_of_getElem? (i := 62) (by decide +kernel)) rfl
theorem fl_RX7_119 : Cond.fieldLink RX7 119 "SpanBench$Mover" "stepsOfU" "I" ∈ TB := TB_c1 (List.mem_of_getElem? (i := 63) (by decide +kernel)) rfl
theorem fl_RX3_9 : Cond.fieldLink RX3 9 "SpanBench$Mover" "partA" "[I" ∈ TB := TB_c1 (List.mem_of_getElem? (i := 64) (by decide +kernel)) rfl
theorem fl_RX6_39 : Cond.fieldLink RX6 39 "SpanBench$Mover" "partA" "[I" ∈ TB := TB_c1 (List.mem_of_getElem? (i := 65) (by decide +kernel)) rfl
theorem fl_RX7_129 : Cond.fieldLink RX7 129 "SpanBench$Mover" "partA" "[I" ∈ TB := TB_c1 (List.mem_of_getElem? (i := 66) (by decide +kernel)) rfl
theorem fl_RX3_15 : Cond.fieldLink RX3 15 "SpanBench$Mover" "partB" "[I" ∈ TB := TB_c1 (List.mem_of_getElem? (i := 67) (by decide +kernel)) rfl
theorem fl_RX6_42 : Cond.fieldLink RX6 42 "SpanBench$Mover" "partB" "[I" ∈ TB := TB_c1 (List.mem_of_getElem? (i := 68) (by decide +kernel)) rfl
theorem fl_RX7_130 : Cond.fieldLink RX7 130 "SpanBench$Mover" "partB" "[I" ∈ TB := TB_c1 (List.mem_of_getElem? (i := 69) (by decide +kernel)) rfl
theorem fl_RX3_18 : Cond.fieldLink RX3 18 "SpanBench$Mover" "above" "[I" ∈ TB := TB_c1 (List.mem_of_getElem? (i := 70) (by decide +kernel)) rfl
theorem fl_RX0_22 : Cond.fieldLink RX0 22 "SpanBench$Mover" "above" "[I" ∈ TB := TB_c1 (List.mem_of_getElem? (i := 71) (by decide +kernel)) rfl
theorem fl_RX2_55 : Cond.fieldLink RX2 55 "SpanBench$Mover" "above" "[I" ∈ TB := TB_c1 (List.mem_of_getElem? (i := 72) (by decide +kernel)) rfl
theorem fl_RX7_131 : Cond.fieldLink RX7 131 "SpanBench$Mover" "above" "[I" ∈ TB := TB_c1 (List.mem_of_getElem? (i := 73) (by decide +kernel)) rfl
theorem fl_RX3_21 : Cond.fieldLink RX3 21 "SpanBench$Mover" "under" "[I" ∈ TB := TB_c1 (List.mem_of_getElem? (i := 74) (by decide +kernel)) rfl
theorem fl_RX0_25 : Cond.fieldLink RX0 25 "SpanBench$Mover" "under" "[I" ∈ TB := TB_c1 (List.mem_of_getElem? (i := 75) (by decide +kernel)) rfl
theorem fl_RX2_52 : Cond.fieldLink RX2 52 "SpanBench$Mover" "under" "[I" ∈ TB := TB_c1 (List.mem_of_getElem? (i := 76) (by decide +kernel)) rfl
theorem fl_RX7_134 : Cond.fieldLink RX7 134 "SpanBench$Mover" "under" "[I" ∈ TB := TB_c1 (List.mem_of_getElem? (i := 77) (by decide +kernel)) rfl
theorem fl_RX3_24 : Cond.fieldLink RX3 24 "SpanBench$Mover" "sums" "[J" ∈ TB := TB_c1 (List.mem_of_getElem? (i := 78) (by decide +kernel)) rfl
theorem fl_RX7_175 : Cond.fieldLink RX7 175 "SpanBench$Mover" "sums" "[J" ∈ TB := TB_c1 (List.mem_of_getElem? (i := 79) (by decide +kernel)) rfl
theorem ac_long : Cond.arrayClass .long ∈ TB := TB_c1 (List.mem_of_getElem? (i := 99) (by decide +kernel)) rfl
theorem cl_RX7_30 : Cond.classLink RX7 30 RX6 ∈ TB := TB_c1 (List.mem_of_getElem? (i := 100) (by decide +kernel)) rfl
theorem it_RX6 : Cond.instantiable RX6 7 ∈ TB := TB_c1 (List.mem_of_getElem? (i := 101) (by decide +kernel)) rfl
theorem im_X6_init : Cond.instanceMethod yX6_init ∈ TB := TB_c1 (List.mem_of_getElem? (i := 103) (by decide +kernel)) rfl
theorem cd_X6_init : Cond.code yX6_init cX6_init 1 (none) ∈ TB := TB_c1 (List.mem_of_getElem? (i := 104) rfl) rfl
theorem ml_RX6_3 : Cond.methodLink RX6 3 objectInit ∈ TB := TB_c1 (List.mem_of_getElem? (i := 105) (by decide +kernel)) rfl
theorem fl_RX6_34 : Cond.fieldLink RX6 34 "SpanBench$Way" "count" "I" ∈ TB := TB_c1 (List.mem_of_getElem? (i := 106) (by decide +kernel)) rfl
theorem fl_RX1_42 : Cond.fieldLink RX1 42 "SpanBench$Way" "count" "I" ∈ TB := TB_c1 (List.mem_of_getElem? (i := 107) (by decide +kernel)) rfl
theorem fl_RX6_38 : Cond.fieldLink RX6 38 "SpanBench$Way" "root" "I" ∈ TB := TB_c1 (List.mem_of_getElem? (i := 108) (by decide +kernel)) rfl
theorem fl_RX6_9 : Cond.fieldLink RX6 9 "SpanBench$Way" "span" "[I" ∈ TB := TB_c1 (List.mem_of_getElem? (i := 109) (by decide +kernel)) rfl
theorem fl_RX1_52 : Cond.fieldLink RX1 52 "SpanBench$Way" "span" "[I" ∈ TB := TB_c1 (List.mem_of_getElem? (i := 110) (by decide +kernel)) rfl
theorem fl_RX6_15 : Cond.fieldLink RX6 15 "SpanBench$Way" "edgeA" "[J" ∈ TB := TB_c1 (List.mem_of_getElem? (i := 111) (by decide +kernel)) rfl
theorem fl_RX1_45 : Cond.fieldLink RX1 45 "SpanBench$Way" "edgeA" "[J" ∈ TB := TB_c1 (List.mem_of_getElem? (i := 112) (by decide +kernel)) rfl
theorem fl_RX7_122 : Cond.fieldLink RX7 122 "SpanBench$Way" "edgeA" "[J" ∈ TB := TB_c1 (List.mem_of_getElem? (i := 113) (by decide +kernel)) rfl
theorem fl_RX6_19 : Cond.fieldLink RX6 19 "SpanBench$Way" "edgeB" "[J" ∈ TB := TB_c1 (List.mem_of_getElem? (i := 114) (by decide +kernel)) rfl
theorem fl_RX7_126 : Cond.fieldLink RX7 126 "SpanBench$Way" "edgeB" "[J" ∈ TB := TB_c1 (List.mem_of_getElem? (i := 115) (by decide +kernel)) rfl
theorem fl_RX6_22 : Cond.fieldLink RX6 22 "SpanBench$Way" "shiftA" "[J" ∈ TB := TB_c1 (List.mem_of_getElem? (i := 116) (by decide +kernel)) rfl
theorem fl_RX1_49 : Cond.fieldLink RX1 49 "SpanBench$Way" "shiftA" "[J" ∈ TB := TB_c1 (List.mem_of_getElem? (i := 117) (by decide +kernel)) rfl
theorem fl_RX6_25 : Cond.fieldLink RX6 25 "SpanBench$Way" "shiftB" "[J" ∈ TB := TB_c1 (List.mem_of_getElem? (i := 118) (by decide +kernel)) rfl
theorem cl_RX7_40 : Cond.classLink RX7 40 RX5 ∈ TB := TB_c1 (List.mem_of_getElem? (i := 134) (by decide +kernel)) rfl
theorem it_RX5 : Cond.instantiable RX5 3 ∈ TB := TB_c1 (List.mem_of_getElem? (i := 135) (by decide +kernel)) rfl
theorem im_X5_init : Cond.instanceMethod yX5_init ∈ TB := TB_c1 (List.mem_of_getElem? (i := 137) (by decide +kernel)) rfl
theorem cd_X5_init : Cond.code yX5_init cX5_init 1 (none) ∈ TB := TB_c1 (List.mem_of_getElem? (i := 138) rfl) rfl
theorem ml_RX5_1 : Cond.methodLink RX5 1 objectInit ∈ TB := TB_c1 (List.mem_of_getElem? (i := 139) (by decide +kernel)) rfl
theorem fl_RX5_7 : Cond.fieldLink RX5 7 "SpanBench$Spot" "there" "Z" ∈ TB := TB_c1 (List.mem_of_getElem? (i := 140) (by decide +kernel)) rfl
theorem fl_RX7_77 : Cond.fieldLink RX7 77 "SpanBench$Spot" "there" "Z" ∈ TB := TB_c1 (List.mem_of_getElem? (i := 141) (by decide +kernel)) rfl
theorem fl_RX5_13 : Cond.fieldLink RX5 13 "SpanBench$Spot" "a" "J" ∈ TB := TB_c1 (List.mem_of_getElem? (i := 142) (by decide +kernel)) rfl
theorem fl_RX6_53 : Cond.fieldLink RX6 53 "SpanBench$Spot" "a" "J" ∈ TB := TB_c1 (List.mem_of_getElem? (i := 143) (by decide +kernel)) rfl
theorem fl_RX7_150 : Cond.fieldLink RX7 150 "SpanBench$Spot" "a" "J" ∈ TB := TB_c1 (List.mem_of_getElem? (i := 144) (by decide +kernel)) rfl
theorem fl_RX5_17 : Cond.fieldLink RX5 17 "SpanBench$Spot" "b" "J" ∈ TB := TB_c1 (List.mem_of_getElem? (i := 145) (by decide +kernel)) rfl
theorem fl_RX6_59 : Cond.fieldLink RX6 59 "SpanBench$Spot" "b" "J" ∈ TB := TB_c1 (List.mem_of_getElem? (i := 146) (by decide +kernel)) rfl
theorem fl_RX7_154 : Cond.fieldLink RX7 154 "SpanBench$Spot" "b" "J" ∈ TB := TB_c1 (List.mem_of_getElem? (i := 147) (by decide +kernel)) rfl
theorem cl_RX7_50 : Cond.classLink RX7 50 RX1 ∈ TB := TB_c1 (List.mem_of_getElem? (i := 155) (by decide +kernel)) rfl
theorem it_RX1 : Cond.instantiable RX1 6 ∈ TB := TB_c1 (List.mem_of_getElem? (i := 156) (by decide +kernel)) rfl
theorem im_X1_init : Cond.instanceMethod yX1_init ∈ TB := TB_c1 (List.mem_of_getElem? (i := 158) (by decide +kernel)) rfl
theorem cd_X1_init : Cond.code yX1_init cX1_init 1 (none) ∈ TB := TB_c1 (List.mem_of_getElem? (i := 159) rfl) rfl
theorem ml_RX1_3 : Cond.methodLink RX1 3 objectInit ∈ TB := TB_c1 (List.mem_of_getElem? (i := 160) (by decide +kernel)) rfl
theorem fl_RX1_31 : Cond.fieldLink RX1 31 "SpanBench$Heaps" "count" "I" ∈ TB := TB_c1 (List.mem_of_getElem? (i := 161) (by decide +kernel)) rfl
theorem fl_RX7_195 : Cond.fieldLink RX7 195 "SpanBench$Heaps" "count" "I" ∈ TB := TB_c1 (List.mem_of_getElem? (i := 162) (by decide +kernel)) rfl
theorem fl_RX1_9 : Cond.fieldLink RX1 9 "SpanBench$Heaps" "width" "[I" ∈ TB := TB_c1 (List.mem_of_getElem? (i := 163) (by decide +kernel)) rfl
theorem fl_RX7_196 : Cond.fieldLink RX7 196 "SpanBench$Heaps" "width" "[I" ∈ TB := TB_c1 (List.mem_of_getElem? (i := 164) (by decide +kernel)) rfl
theorem fl_RX1_15 : Cond.fieldLink RX1 15 "SpanBench$Heaps" "times" "[I" ∈ TB := TB_c1 (List.mem_of_getElem? (i := 165) (by decide +kernel)) rfl
theorem fl_RX7_199 : Cond.fieldLink RX7 199 "SpanBench$Heaps" "times" "[I" ∈ TB := TB_c1 (List.mem_of_getElem? (i := 166) (by decide +kernel)) rfl
theorem fl_RX1_18 : Cond.fieldLink RX1 18 "SpanBench$Heaps" "least" "[I" ∈ TB := TB_c1 (List.mem_of_getElem? (i := 167) (by decide +kernel)) rfl
theorem fl_RX7_202 : Cond.fieldLink RX7 202 "SpanBench$Heaps" "least" "[I" ∈ TB := TB_c1 (List.mem_of_getElem? (i := 168) (by decide +kernel)) rfl
theorem fl_RX1_21 : Cond.fieldLink RX1 21 "SpanBench$Heaps" "to" "[I" ∈ TB := TB_c1 (List.mem_of_getElem? (i := 169) (by decide +kernel)) rfl
theorem fl_RX1_24 : Cond.fieldLink RX1 24 "SpanBench$Heaps" "room" "[I" ∈ TB := TB_c1 (List.mem_of_getElem? (i := 170) (by decide +kernel)) rfl
theorem cl_RX7_57 : Cond.classLink RX7 57 RX2 ∈ TB := TB_c1 (List.mem_of_getElem? (i := 184) (by decide +kernel)) rfl
theorem it_RX2 : Cond.instantiable RX2 6 ∈ TB := TB_c1 (List.mem_of_getElem? (i := 185) (by decide +kernel)) rfl
theorem im_X2_init : Cond.instanceMethod yX2_init ∈ TB := TB_c1 (List.mem_of_getElem? (i := 187) (by decide +kernel)) rfl
theorem cd_X2_init : Cond.code yX2_init cX2_init 1 (none) ∈ TB := TB_c1 (List.mem_of_getElem? (i := 188) rfl) rfl
theorem ml_RX2_3 : Cond.methodLink RX2 3 objectInit ∈ TB := TB_c1 (List.mem_of_getElem? (i := 189) (by decide +kernel)) rfl
theorem fl_RX2_31 : Cond.fieldLink RX2 31 "SpanBench$Kin" "count" "I" ∈ TB := TB_c1 (List.mem_of_getElem? (i := 190) (by decide +kernel)) rfl
theorem fl_RX2_32 : Cond.fieldLink RX2 32 "SpanBench$Kin" "found" "I" ∈ TB := TB_c1 (List.mem_of_getElem? (i := 191) (by decide +kernel)) rfl
theorem fl_RX2_9 : Cond.fieldLink RX2 9 "SpanBench$Kin" "met" "[Z" ∈ TB := TB_c1 (List.mem_of_getElem? (i := 192) (by decide +kernel)) rfl
theorem fl_RX2_15 : Cond.fieldLink RX2 15 "SpanBench$Kin" "packed" "[I" ∈ TB := TB_c1 (List.mem_of_getElem? (i := 193) (by decide +kernel)) rfl
theorem fl_RX2_19 : Cond.fieldLink RX2 19 "SpanBench$Kin" "line" "[I" ∈ TB := TB_c1 (List.mem_of_getElem? (i := 194) (by decide +kernel)) rfl
theorem fl_RX2_22 : Cond.fieldLink RX2 22 "SpanBench$Kin" "next" "[I" ∈ TB := TB_c1 (List.mem_of_getElem? (i := 195) (by decide +kernel)) rfl
theorem ac_boolean : Cond.arrayClass .boolean ∈ TB := TB_c1 (List.mem_of_getElem? (i := 209) (by decide +kernel)) rfl
theorem cl_RX7_64 : Cond.classLink RX7 64 RX0 ∈ TB := TB_c1 (List.mem_of_getElem? (i := 210) (by decide +kernel)) rfl
theorem it_RX0 : Cond.instantiable RX0 2 ∈ TB := TB_c1 (List.mem_of_getElem? (i := 211) (by decide +kernel)) rfl
theorem im_X0_init : Cond.instanceMethod yX0_init ∈ TB := TB_c1 (List.mem_of_getElem? (i := 213) (by decide +kernel)) rfl
theorem cd_X0_init : Cond.code yX0_init cX0_init 1 (none) ∈ TB := TB_c1 (List.mem_of_getElem? (i := 214) rfl) rfl
theorem ml_RX0_3 : Cond.methodLink RX0 3 objectInit ∈ TB := TB_c1 (List.mem_of_getElem? (i := 215) (by decide +kernel)) rfl
theorem fl_RX0_21 : Cond.fieldLink RX0 21 "SpanBench$Figure" "count" "I" ∈ TB := TB_c1 (List.mem_of_getElem? (i := 216) (by decide +kernel)) rfl
theorem fl_RX0_9 : Cond.fieldLink RX0 9 "SpanBench$Figure" "name" "[I" ∈ TB := TB_c1 (List.mem_of_getElem? (i := 217) (by decide +kernel)) rfl
theorem fl_RX7_7 : Cond.fieldLink RX7 7 "SpanBench" "rootNow" "I" ∈ TB := TB_c1 (List.mem_of_getElem? (i := 223) (by decide +kernel)) rfl
theorem fl_RX7_16 : Cond.fieldLink RX7 16 "SpanBench" "sheet" "LSpanBench$Sheet;" ∈ TB := TB_c1 (List.mem_of_getElem? (i := 224) (by decide +kernel)) rfl
theorem fl_RX7_23 : Cond.fieldLink RX7 23 "SpanBench" "mover" "LSpanBench$Mover;" ∈ TB := TB_c1 (List.mem_of_getElem? (i := 225) (by decide +kernel)) rfl
theorem fl_RX7_27 : Cond.fieldLink RX7 27 "SpanBench" "trial" "LSpanBench$Mover;" ∈ TB := TB_c1 (List.mem_of_getElem? (i := 226) (by decide +kernel)) rfl
theorem fl_RX7_33 : Cond.fieldLink RX7 33 "SpanBench" "forwards" "LSpanBench$Way;" ∈ TB := TB_c1 (List.mem_of_getElem? (i := 227) (by decide +kernel)) rfl
theorem fl_RX7_37 : Cond.fieldLink RX7 37 "SpanBench" "backwards" "LSpanBench$Way;" ∈ TB := TB_c1 (List.mem_of_getElem? (i := 228) (by decide +kernel)) rfl
theorem fl_RX7_43 : Cond.fieldLink RX7 43 "SpanBench" "spot" "LSpanBench$Spot;" ∈ TB := TB_c1 (List.mem_of_getElem? (i := 229) (by decide +kernel)) rfl
theorem fl_RX7_47 : Cond.fieldLink RX7 47 "SpanBench" "walker" "LSpanBench$Spot;" ∈ TB := TB_c1 (List.mem_of_getElem? (i := 230) (by decide +kernel)) rfl
theorem fl_RX7_53 : Cond.fieldLink RX7 53 "SpanBench" "heaps" "LSpanBench$Heaps;" ∈ TB := TB_c1 (List.mem_of_getElem? (i := 231) (by decide +kernel)) rfl
theorem fl_RX7_60 : Cond.fieldLink RX7 60 "SpanBench" "kin" "LSpanBench$Kin;" ∈ TB := TB_c1 (List.mem_of_getElem? (i := 232) (by decide +kernel)) rfl
theorem fl_RX7_67 : Cond.fieldLink RX7 67 "SpanBench" "figure" "LSpanBench$Figure;" ∈ TB := TB_c1 (List.mem_of_getElem? (i := 233) (by decide +kernel)) rfl
theorem ml_RL_13 : Cond.methodLink RL 13 yX7_root ∈ TB := TB_c2 (List.mem_of_getElem? (i := 17) (by decide +kernel)) rfl
theorem im_X7_root : Cond.instanceMethod yX7_root ∈ TB := TB_c2 (List.mem_of_getElem? (i := 18) (by decide +kernel)) rfl
theorem se_X7_root : Cond.selects RX7 yX7_root yX7_root ∈ TB := TB_c2 (List.mem_of_getElem? (i := 19) (by decide +kernel)) rfl
theorem cd_X7_root : Cond.code yX7_root cX7_root 2 (some .boolean) ∈ TB := TB_c2 (List.mem_of_getElem? (i := 20) rfl) rfl
theorem ml_RX7_71 : Cond.methodLink RX7 71 yX4_clear ∈ TB := TB_c2 (List.mem_of_getElem? (i := 21) (by decide +kernel)) rfl
theorem im_X4_clear : Cond.instanceMethod yX4_clear ∈ TB := TB_c2 (List.mem_of_getElem? (i := 22) (by decide +kernel)) rfl
theorem se_X4_clear : Cond.selects RX4 yX4_clear yX4_clear ∈ TB := TB_c2 (List.mem_of_getElem? (i := 23) (by decide +kernel)) rfl
theorem cd_X4_clear : Cond.code yX4_clear cX4_clear 2 (none) ∈ TB := TB_c2 (List.mem_of_getElem? (i := 24) rfl) rfl
theorem ml_RL_18 : Cond.methodLink RL 18 yX7_length ∈ TB := TB_c2 (List.mem_of_getElem? (i := 25) (by decide +kernel)) rfl
theorem im_X7_length : Cond.instanceMethod yX7_length ∈ TB := TB_c2 (List.mem_of_getElem? (i := 26) (by decide +kernel)) rfl
theorem se_X7_length : Cond.selects RX7 yX7_length yX7_length ∈ TB := TB_c2 (List.mem_of_getElem? (i := 27) (by decide +kernel)) rfl
theorem cd_X7_length : Cond.code yX7_length cX7_length 4 (some .boolean) ∈ TB := TB_c2 (List.mem_of_getElem? (i := 28) rfl) rfl
theorem ml_RX7_81 : Cond.methodLink RX7 81 yX7_canBe ∈ TB := TB_c2 (List.mem_of_getElem? (i := 29) (by decide +kernel)) rfl
theorem im_X7_canBe : Cond.instanceMethod yX7_canBe ∈ TB := TB_c2 (List.mem_of_getElem? (i := 31) (by decide +kernel)) rfl
theorem cd_X7_canBe : Cond.code yX7_canBe cX7_canBe 4 (some .boolean) ∈ TB := TB_c2 (List.mem_of_getElem? (i := 32) rfl) rfl
theorem ml_RX7_225 : Cond.methodLink RX7 225 yX7_isWithin ∈ TB := TB_c2 (List.mem_of_getElem? (i := 33) (by decide +kernel)) rfl
theorem sm_X7_isWithin : Cond.static yX7_isWithin ∈ TB := TB_c2 (List.mem_of_getElem? (i := 34) (by decide +kernel)) rfl
theorem cd_X7_isWithin : Cond.code yX7_isWithin cX7_isWithin 3 (some .boolean) ∈ TB := TB_c2 (List.mem_of_getElem? (i := 35) rfl) rfl
theorem ml_RX7_85 : Cond.methodLink RX7 85 yX7_signOf ∈ TB := TB_c2 (List.mem_of_getElem? (i := 36) (by decide +kernel)) rfl
theorem sm_X7_signOf : Cond.static yX7_signOf ∈ TB := TB_c2 (List.mem_of_getElem? (i := 37) (by decide +kernel)) rfl
theorem cd_X7_signOf : Cond.code yX7_signOf cX7_signOf 7 (some .int) ∈ TB := TB_c2 (List.mem_of_getElem? (i := 38) rfl) rfl
theorem ml_RL_23 : Cond.methodLink RL 23 yX7_below ∈ TB := TB_c2 (List.mem_of_getElem? (i := 39) (by decide +kernel)) rfl
theorem im_X7_below : Cond.instanceMethod yX7_below ∈ TB := TB_c2 (List.mem_of_getElem? (i := 40) (by decide +kernel)) rfl
theorem se_X7_below : Cond.selects RX7 yX7_below yX7_below ∈ TB := TB_c2 (List.mem_of_getElem? (i := 41) (by decide +kernel)) rfl
theorem cd_X7_below : Cond.code yX7_below cX7_below 3 (some .boolean) ∈ TB := TB_c2 (List.mem_of_getElem? (i := 42) rfl) rfl
theorem ml_RX7_96 : Cond.methodLink RX7 96 yX4_takeOrder ∈ TB := TB_c2 (List.mem_of_getElem? (i := 43) (by decide +kernel)) rfl
theorem im_X4_takeOrder : Cond.instanceMethod yX4_takeOrder ∈ TB := TB_c2 (List.mem_of_getElem? (i := 44) (by decide +kernel)) rfl
theorem se_X4_takeOrder : Cond.selects RX4 yX4_takeOrder yX4_takeOrder ∈ TB := TB_c2 (List.mem_of_getElem? (i := 45) (by decide +kernel)) rfl
theorem cd_X4_takeOrder : Cond.code yX4_takeOrder cX4_takeOrder 5 (some .boolean) ∈ TB := TB_c2 (List.mem_of_getElem? (i := 46) rfl) rfl
theorem ml_RX4_25 : Cond.methodLink RX4 25 yX4_nibble ∈ TB := TB_c2 (List.mem_of_getElem? (i := 47) (by decide +kernel)) rfl
theorem sm_X4_nibble : Cond.static yX4_nibble ∈ TB := TB_c2 (List.mem_of_getElem? (i := 48) (by decide +kernel)) rfl
theorem cd_X4_nibble : Cond.code yX4_nibble cX4_nibble 2 (some .int) ∈ TB := TB_c2 (List.mem_of_getElem? (i := 49) rfl) rfl
theorem ml_RL_28 : Cond.methodLink RL 28 yX7_lay ∈ TB := TB_c2 (List.mem_of_getElem? (i := 50) (by decide +kernel)) rfl
theorem im_X7_lay : Cond.instanceMethod yX7_lay ∈ TB := TB_c2 (List.mem_of_getElem? (i := 51) (by decide +kernel)) rfl
theorem se_X7_lay : Cond.selects RX7 yX7_lay yX7_lay ∈ TB := TB_c2 (List.mem_of_getElem? (i := 52) (by decide +kernel)) rfl
theorem cd_X7_lay : Cond.code yX7_lay cX7_lay 1 (some .int) ∈ TB := TB_c2 (List.mem_of_getElem? (i := 53) rfl) rfl
theorem ml_RX7_101 : Cond.methodLink RX7 101 yX4_hasAllLengths ∈ TB := TB_c2 (List.mem_of_getElem? (i := 54) (by decide +kernel)) rfl
theorem im_X4_hasAllLengths : Cond.instanceMethod yX4_hasAllLengths ∈ TB := TB_c2 (List.mem_of_getElem? (i := 55) (by decide +kernel)) rfl
theorem se_X4_hasAllLengths : Cond.selects RX4 yX4_hasAllLengths yX4_hasAllLengths ∈ TB := TB_c2 (List.mem_of_getElem? (i := 56) (by decide +kernel)) rfl
theorem cd_X4_hasAllLengths : Cond.code yX4_hasAllLengths cX4_hasAllLengths 2 (some .boolean) ∈ TB := TB_c2 (List.mem_of_getElem? (i := 57) rfl) rfl
theorem ml_RX7_105 : Cond.methodLink RX7 105 yX3_layFrom ∈ TB := TB_c2 (List.mem_of_getElem? (i := 58) (by decide +kernel)) rfl
theorem im_X3_layFrom : Cond.instanceMethod yX3_layFrom ∈ TB := TB_c2 (List.mem_of_getElem? (i := 59) (by decide +kernel)) rfl
theorem se_X3_layFrom : Cond.selects RX3 yX3_layFrom yX3_layFrom ∈ TB := TB_c2 (List.mem_of_getElem? (i := 60) (by decide +kernel)) rfl
theorem cd_X3_layFrom : Cond.code yX3_layFrom cX3_layFrom 5 (none) ∈ TB := TB_c2 (List.mem_of_getElem? (i := 61) rfl) rfl
theorem ml_RX7_109 : Cond.methodLink RX7 109 yX7_drawWays ∈ TB := TB_c2 (List.mem_of_getElem? (i := 62) (by decide +kernel)) rfl
theorem im_X7_drawWays : Cond.instanceMethod yX7_drawWays ∈ TB := TB_c2 (List.mem_of_getElem? (i := 64) (by decide +kernel)) rfl
theorem cd_X7_drawWays : Cond.code yX7_drawWays cX7_drawWays 1 (none) ∈ TB := TB_c2 (List.mem_of_getElem? (i := 65) rfl) rfl
theorem ml_RX7_229 : Cond.methodLink RX7 229 yX6_draw ∈ TB := TB_c2 (List.mem_of_getElem? (i := 66) (by decide +kernel)) rfl
theorem im_X6_draw : Cond.instanceMethod yX6_draw ∈ TB := TB_c2 (List.mem_of_getElem? (i := 67) (by decide +kernel)) rfl
theorem se_X6_draw : Cond.selects RX6 yX6_draw yX6_draw ∈ TB := TB_c2 (List.mem_of_getElem? (i := 68) (by decide +kernel)) rfl
theorem cd_X6_draw : Cond.code yX6_draw cX6_draw 10 (none) ∈ TB := TB_c2 (List.mem_of_getElem? (i := 69) rfl) rfl
theorem ml_RL_33 : Cond.methodLink RL 33 yX7_of ∈ TB := TB_c2 (List.mem_of_getElem? (i := 70) (by decide +kernel)) rfl
theorem im_X7_of : Cond.instanceMethod yX7_of ∈ TB := TB_c2 (List.mem_of_getElem? (i := 71) (by decide +kernel)) rfl
theorem se_X7_of : Cond.selects RX7 yX7_of yX7_of ∈ TB := TB_c2 (List.mem_of_getElem? (i := 72) (by decide +kernel)) rfl
theorem cd_X7_of : Cond.code yX7_of cX7_of 2 (some .int) ∈ TB := TB_c2 (List.mem_of_getElem? (i := 73) rfl) rfl
theorem ml_RX7_115 : Cond.methodLink RX7 115 yX3_partedAt ∈ TB := TB_c2 (List.mem_of_getElem? (i := 74) (by decide +kernel)) rfl
theorem im_X3_partedAt : Cond.instanceMethod yX3_partedAt ∈ TB := TB_c2 (List.mem_of_getElem? (i := 75) (by decide +kernel)) rfl
theorem se_X3_partedAt : Cond.selects RX3 yX3_partedAt yX3_partedAt ∈ TB := TB_c2 (List.mem_of_getElem? (i := 76) (by decide +kernel)) rfl
theorem cd_X3_partedAt : Cond.code yX3_partedAt cX3_partedAt 4 (some .int) ∈ TB := TB_c2 (List.mem_of_getElem? (i := 77) rfl) rfl
theorem ml_RL_38 : Cond.methodLink RL 38 yX7_spans ∈ TB := TB_c2 (List.mem_of_getElem? (i := 78) (by decide +kernel)) rfl
theorem im_X7_spans : Cond.instanceMethod yX7_spans ∈ TB := TB_c2 (List.mem_of_getElem? (i := 79) (by decide +kernel)) rfl
theorem se_X7_spans : Cond.selects RX7 yX7_spans yX7_spans ∈ TB := TB_c2 (List.mem_of_getElem? (i := 80) (by decide +kernel)) rfl
theorem cd_X7_spans : Cond.code yX7_spans cX7_spans 3 (some .long) ∈ TB := TB_c2 (List.mem_of_getElem? (i := 81) rfl) rfl
theorem ml_RL_43 : Cond.methodLink RL 43 yX7_order ∈ TB := TB_c2 (List.mem_of_getElem? (i := 82) (by decide +kernel)) rfl
theorem im_X7_order : Cond.instanceMethod yX7_order ∈ TB := TB_c2 (List.mem_of_getElem? (i := 83) (by decide +kernel)) rfl
theorem se_X7_order : Cond.selects RX7 yX7_order yX7_order ∈ TB := TB_c2 (List.mem_of_getElem? (i := 84) (by decide +kernel)) rfl
theorem cd_X7_order : Cond.code yX7_order cX7_order 3 (some .int) ∈ TB := TB_c2 (List.mem_of_getElem? (i := 85) rfl) rfl
theorem ml_RL_48 : Cond.methodLink RL 48 yX7_point ∈ TB := TB_c2 (List.mem_of_getElem? (i := 86) (by decide +kernel)) rfl
theorem im_X7_point : Cond.instanceMethod yX7_point ∈ TB := TB_c2 (List.mem_of_getElem? (i := 87) (by decide +kernel)) rfl
theorem se_X7_point : Cond.selects RX7 yX7_point yX7_point ∈ TB := TB_c2 (List.mem_of_getElem? (i := 88) (by decide +kernel)) rfl
theorem cd_X7_point : Cond.code yX7_point cX7_point 3 (some .int) ∈ TB := TB_c2 (List.mem_of_getElem? (i := 89) rfl) rfl
theorem kc_RX7_137 : Cond.constant RX7 137 (536870912) ∈ TB := TB_c2 (List.mem_of_getElem? (i := 90) (by decide +kernel)) rfl
theorem ml_RX7_138 : Cond.methodLink RX7 138 yX6_covers ∈ TB := TB_c2 (List.mem_of_getElem? (i := 91) (by decide +kernel)) rfl
theorem im_X6_covers : Cond.instanceMethod yX6_covers ∈ TB := TB_c2 (List.mem_of_getElem? (i := 92) (by decide +kernel)) rfl
theorem se_X6_covers : Cond.selects RX6 yX6_covers yX6_covers ∈ TB := TB_c2 (List.mem_of_getElem? (i := 93) (by decide +kernel)) rfl
theorem cd_X6_covers : Cond.code yX6_covers cX6_covers 5 (some .boolean) ∈ TB := TB_c2 (List.mem_of_getElem? (i := 94) rfl) rfl
theorem ml_RX6_49 : Cond.methodLink RX6 49 yX6_isLeftOf ∈ TB := TB_c2 (List.mem_of_getElem? (i := 96) (by decide +kernel)) rfl
theorem im_X6_isLeftOf : Cond.instanceMethod yX6_isLeftOf ∈ TB := TB_c2 (List.mem_of_getElem? (i := 98) (by decide +kernel)) rfl
theorem cd_X6_isLeftOf : Cond.code yX6_isLeftOf cX6_isLeftOf 6 (some .boolean) ∈ TB := TB_c2 (List.mem_of_getElem? (i := 99) rfl) rfl
theorem ml_RX7_142 : Cond.methodLink RX7 142 yX5_put ∈ TB := TB_c2 (List.mem_of_getElem? (i := 100) (by decide +kernel)) rfl
theorem im_X5_put : Cond.instanceMethod yX5_put ∈ TB := TB_c2 (List.mem_of_getElem? (i := 101) (by decide +kernel)) rfl
theorem se_X5_put : Cond.selects RX5 yX5_put yX5_put ∈ TB := TB_c2 (List.mem_of_getElem? (i := 102) (by decide +kernel)) rfl
theorem cd_X5_put : Cond.code yX5_put cX5_put 5 (none) ∈ TB := TB_c2 (List.mem_of_getElem? (i := 103) rfl) rfl
theorem ml_RX7_146 : Cond.methodLink RX7 146 yX6_spanAt ∈ TB := TB_c2 (List.mem_of_getElem? (i := 104) (by decide +kernel)) rfl
theorem im_X6_spanAt : Cond.instanceMethod yX6_spanAt ∈ TB := TB_c2 (List.mem_of_getElem? (i := 105) (by decide +kernel)) rfl
theorem se_X6_spanAt : Cond.selects RX6 yX6_spanAt yX6_spanAt ∈ TB := TB_c2 (List.mem_of_getElem? (i := 106) (by decide +kernel)) rfl
theorem cd_X6_spanAt : Cond.code yX6_spanAt cX6_spanAt 3 (some .int) ∈ TB := TB_c2 (List.mem_of_getElem? (i := 107) rfl) rfl
theorem ml_RL_52 : Cond.methodLink RL 52 yX7_move ∈ TB := TB_c2 (List.mem_of_getElem? (i := 108) (by decide +kernel)) rfl
theorem im_X7_move : Cond.instanceMethod yX7_move ∈ TB := TB_c2 (List.mem_of_getElem? (i := 109) (by decide +kernel)) rfl
theorem se_X7_move : Cond.selects RX7 yX7_move yX7_move ∈ TB := TB_c2 (List.mem_of_getElem? (i := 110) (by decide +kernel)) rfl
theorem cd_X7_move : Cond.code yX7_move cX7_move 5 (some .int) ∈ TB := TB_c2 (List.mem_of_getElem? (i := 111) rfl) rfl
theorem ml_RX7_157 : Cond.methodLink RX7 157 yX6_carry ∈ TB := TB_c2 (List.mem_of_getElem? (i := 112) (by decide +kernel)) rfl
theorem im_X6_carry : Cond.instanceMethod yX6_carry ∈ TB := TB_c2 (List.mem_of_getElem? (i := 113) (by decide +kernel)) rfl
theorem se_X6_carry : Cond.selects RX6 yX6_carry yX6_carry ∈ TB := TB_c2 (List.mem_of_getElem? (i := 114) (by decide +kernel)) rfl
theorem cd_X6_carry : Cond.code yX6_carry cX6_carry 2 (some .boolean) ∈ TB := TB_c2 (List.mem_of_getElem? (i := 115) rfl) rfl
theorem ml_RX6_62 : Cond.methodLink RX6 62 yX6_spanAt ∈ TB := TB_c2 (List.mem_of_getElem? (i := 116) (by decide +kernel)) rfl
theorem ml_RX6_66 : Cond.methodLink RX6 66 yX6_shift ∈ TB := TB_c2 (List.mem_of_getElem? (i := 117) (by decide +kernel)) rfl
theorem im_X6_shift : Cond.instanceMethod yX6_shift ∈ TB := TB_c2 (List.mem_of_getElem? (i := 118) (by decide +kernel)) rfl
theorem se_X6_shift : Cond.selects RX6 yX6_shift yX6_shift ∈ TB := TB_c2 (List.mem_of_getElem? (i := 119) (by decide +kernel)) rfl
theorem cd_X6_shift : Cond.code yX6_shift cX6_shift 3 (some .boolean) ∈ TB := TB_c2 (List.mem_of_getElem? (i := 120) rfl) rfl
theorem kc_RX6_70 : Cond.constant RX6 70 (536870912) ∈ TB := TB_c2 (List.mem_of_getElem? (i := 121) (by decide +kernel)) rfl
theorem ml_RL_56 : Cond.methodLink RL 56 yX7_where ∈ TB := TB_c2 (List.mem_of_getElem? (i := 123) (by decide +kernel)) rfl
theorem im_X7_where : Cond.instanceMethod yX7_where ∈ TB := TB_c2 (List.mem_of_getElem? (i := 124) (by decide +kernel)) rfl
theorem se_X7_where : Cond.selects RX7 yX7_where yX7_where ∈ TB := TB_c2 (List.mem_of_getElem? (i := 125) (by decide +kernel)) rfl
theorem cd_X7_where : Cond.code yX7_where cX7_where 2 (some .long) ∈ TB := TB_c2 (List.mem_of_getElem? (i := 126) rfl) rfl
theorem kc_RX7_161 : Cond.constantLong RX7 161 (-9000000000000000000) ∈ TB := TB_c2 (List.mem_of_getElem? (i := 127) (by decide +kernel)) rfl
theorem ml_RL_61 : Cond.methodLink RL 61 yX7_back ∈ TB := TB_c2 (List.mem_of_getElem? (i := 128) (by decide +kernel)) rfl
theorem im_X7_back : Cond.instanceMethod yX7_back ∈ TB := TB_c2 (List.mem_of_getElem? (i := 129) (by decide +kernel)) rfl
theorem se_X7_back : Cond.selects RX7 yX7_back yX7_back ∈ TB := TB_c2 (List.mem_of_getElem? (i := 130) (by decide +kernel)) rfl
theorem cd_X7_back : Cond.code yX7_back cX7_back 4 (some .int) ∈ TB := TB_c2 (List.mem_of_getElem? (i := 131) rfl) rfl
theorem ml_RL_65 : Cond.methodLink RL 65 yX7_visits ∈ TB := TB_c2 (List.mem_of_getElem? (i := 132) (by decide +kernel)) rfl
theorem im_X7_visits : Cond.instanceMethod yX7_visits ∈ TB := TB_c2 (List.mem_of_getElem? (i := 133) (by decide +kernel)) rfl
theorem se_X7_visits : Cond.selects RX7 yX7_visits yX7_visits ∈ TB := TB_c2 (List.mem_of_getElem? (i := 134) (by decide +kernel)) rfl
theorem cd_X7_visits : Cond.code yX7_visits cX7_visits 6 (some .int) ∈ TB := TB_c2 (List.mem_of_getElem? (i := 135) rfl) rfl
theorem ml_RX7_163 : Cond.methodLink RX7 163 yX6_shift ∈ TB := TB_c2 (List.mem_of_getElem? (i := 136) (by decide +kernel)) rfl
theorem ml_RL_69 : Cond.methodLink RL 69 yX7_step ∈ TB := TB_c2 (List.mem_of_getElem? (i := 137) (by decide +kernel)) rfl
theorem im_X7_step : Cond.instanceMethod yX7_step ∈ TB := TB_c2 (List.mem_of_getElem? (i := 138) (by decide +kernel)) rfl
theorem se_X7_step : Cond.selects RX7 yX7_step yX7_step ∈ TB := TB_c2 (List.mem_of_getElem? (i := 139) (by decide +kernel)) rfl
theorem cd_X7_step : Cond.code yX7_step cX7_step 2 (some .int) ∈ TB := TB_c2 (List.mem_of_getElem? (i := 140) rfl) rfl
theorem ml_RX7_167 : Cond.methodLink RX7 167 yX3_advance ∈ TB := TB_c2 (List.mem_of_getElem? (i := 141) (by decide +kernel)) rfl
theorem im_X3_advance : Cond.instanceMethod yX3_advance ∈ TB := TB_c2 (List.mem_of_getElem? (i := 142) (by decide +kernel)) rfl
theorem se_X3_advance : Cond.selects RX3 yX3_advance yX3_advance ∈ TB := TB_c2 (List.mem_of_getElem? (i := 143) (by decide +kernel)) rfl
theorem cd_X3_advance : Cond.code yX3_advance cX3_advance 7 (some .int) ∈ TB := TB_c2 (List.mem_of_getElem? (i := 144) rfl) rfl
theorem ml_RX3_57 : Cond.methodLink RX3 57 yX3_isSpentBy ∈ TB := TB_c2 (List.mem_of_getElem? (i := 146) (by decide +kernel)) rfl
theorem im_X3_isSpentBy : Cond.instanceMethod yX3_isSpentBy ∈ TB := TB_c2 (List.mem_of_getElem? (i := 148) (by decide +kernel)) rfl
theorem cd_X3_isSpentBy : Cond.code yX3_isSpentBy cX3_isSpentBy 5 (some .boolean) ∈ TB := TB_c2 (List.mem_of_getElem? (i := 149) rfl) rfl
theorem kc_RX3_80 : Cond.constantLong RX3 80 (1099511627776) ∈ TB := TB_c2 (List.mem_of_getElem? (i := 151) (by decide +kernel)) rfl
theorem ml_RX3_61 : Cond.methodLink RX3 61 yX3_shorten ∈ TB := TB_c2 (List.mem_of_getElem? (i := 152) (by decide +kernel)) rfl
theorem im_X3_shorten : Cond.instanceMethod yX3_shorten ∈ TB := TB_c2 (List.mem_of_getElem? (i := 154) (by decide +kernel)) rfl
theorem cd_X3_shorten : Cond.code yX3_shorten cX3_shorten 5 (none) ∈ TB := TB_c2 (List.mem_of_getElem? (i := 155) rfl) rfl
theorem ml_RX3_65 : Cond.methodLink RX3 65 yX3_bringLastBehind ∈ TB := TB_c2 (List.mem_of_getElem? (i := 156) (by decide +kernel)) rfl
theorem im_X3_bringLastBehind : Cond.instanceMethod yX3_bringLastBehind ∈ TB := TB_c2 (List.mem_of_getElem? (i := 158) (by decide +kernel)) rfl
theorem cd_X3_bringLastBehind : Cond.code yX3_bringLastBehind cX3_bringLastBehind 5 (none) ∈ TB := TB_c2 (List.mem_of_getElem? (i := 159) rfl) rfl
theorem ml_RX7_170 : Cond.methodLink RX7 170 yX7_followMover ∈ TB := TB_c2 (List.mem_of_getElem? (i := 160) (by decide +kernel)) rfl
theorem im_X7_followMover : Cond.instanceMethod yX7_followMover ∈ TB := TB_c2 (List.mem_of_getElem? (i := 162) (by decide +kernel)) rfl
theorem cd_X7_followMover : Cond.code yX7_followMover cX7_followMover 1 (none) ∈ TB := TB_c2 (List.mem_of_getElem? (i := 163) rfl) rfl
theorem ml_RL_73 : Cond.methodLink RL 73 yX7_steps ∈ TB := TB_c2 (List.mem_of_getElem? (i := 164) (by decide +kernel)) rfl
theorem im_X7_steps : Cond.instanceMethod yX7_steps ∈ TB := TB_c2 (List.mem_of_getElem? (i := 165) (by decide +kernel)) rfl
theorem se_X7_steps : Cond.selects RX7 yX7_steps yX7_steps ∈ TB := TB_c2 (List.mem_of_getElem? (i := 166) (by decide +kernel)) rfl
theorem cd_X7_steps : Cond.code yX7_steps cX7_steps 3 (some .int) ∈ TB := TB_c2 (List.mem_of_getElem? (i := 167) rfl) rfl
theorem ml_RL_77 : Cond.methodLink RL 77 yX7_table ∈ TB := TB_c2 (List.mem_of_getElem? (i := 168) (by decide +kernel)) rfl
theorem im_X7_table : Cond.instanceMethod yX7_table ∈ TB := TB_c2 (List.mem_of_getElem? (i := 169) (by decide +kernel)) rfl
theorem se_X7_table : Cond.selects RX7 yX7_table yX7_table ∈ TB := TB_c2 (List.mem_of_getElem? (i := 170) (by decide +kernel)) rfl
theorem cd_X7_table : Cond.code yX7_table cX7_table 3 (some .long) ∈ TB := TB_c2 (List.mem_of_getElem? (i := 171) rfl) rfl
theorem kc_RX7_173 : Cond.constantLong RX7 173 (-1) ∈ TB := TB_c2 (List.mem_of_getElem? (i := 172) (by decide +kernel)) rfl
theorem ml_RL_81 : Cond.methodLink RL 81 yX7_loop ∈ TB := TB_c2 (List.mem_of_getElem? (i := 173) (by decide +kernel)) rfl
theorem im_X7_loop : Cond.instanceMethod yX7_loop ∈ TB := TB_c2 (List.mem_of_getElem? (i := 174) (by decide +kernel)) rfl
theorem se_X7_loop : Cond.selects RX7 yX7_loop yX7_loop ∈ TB := TB_c2 (List.mem_of_getElem? (i := 175) (by decide +kernel)) rfl
theorem cd_X7_loop : Cond.code yX7_loop cX7_loop 2 (some .int) ∈ TB := TB_c2 (List.mem_of_getElem? (i := 176) rfl) rfl
theorem ml_RX7_178 : Cond.methodLink RX7 178 yX3_copyFrom ∈ TB := TB_c2 (List.mem_of_getElem? (i := 177) (by decide +kernel)) rfl
theorem im_X3_copyFrom : Cond.instanceMethod yX3_copyFrom ∈ TB := TB_c2 (List.mem_of_getElem? (i := 178) (by decide +kernel)) rfl
theorem se_X3_copyFrom : Cond.selects RX3 yX3_copyFrom yX3_copyFrom ∈ TB := TB_c2 (List.mem_of_getElem? (i := 179) (by decide +kernel)) rfl
theorem cd_X3_copyFrom : Cond.code yX3_copyFrom cX3_copyFrom 2 (none) ∈ TB := TB_c2 (List.mem_of_getElem? (i := 180) rfl) rfl
theorem ml_RX3_47 : Cond.methodLink RX3 47 arraycopyName ∈ TB := TB_c2 (List.mem_of_getElem? (i := 181) (by decide +kernel)) rfl
theorem sm_arraycopy : Cond.static arraycopyName ∈ TB := TB_c2 (List.mem_of_getElem? (i := 182) (by decide +kernel)) rfl
theorem nm_arraycopy : Cond.native arraycopyName ∈ TB := TB_c2 (List.mem_of_getElem? (i := 183) (by decide +kernel)) rfl
theorem ml_RX7_182 : Cond.methodLink RX7 182 yX3_hasOrdersOf ∈ TB := TB_c2 (List.mem_of_getElem? (i := 184) (by decide +kernel)) rfl
theorem im_X3_hasOrdersOf : Cond.instanceMethod yX3_hasOrdersOf ∈ TB := TB_c2 (List.mem_of_getElem? (i := 185) (by decide +kernel)) rfl
theorem se_X3_hasOrdersOf : Cond.selects RX3 yX3_hasOrdersOf yX3_hasOrdersOf ∈ TB := TB_c2 (List.mem_of_getElem? (i := 186) (by decide +kernel)) rfl
theorem cd_X3_hasOrdersOf : Cond.code yX3_hasOrdersOf cX3_hasOrdersOf 3 (some .boolean) ∈ TB := TB_c2 (List.mem_of_getElem? (i := 187) rfl) rfl
theorem ml_RX7_186 : Cond.methodLink RX7 186 yX3_hasSharesOf ∈ TB := TB_c2 (List.mem_of_getElem? (i := 188) (by decide +kernel)) rfl
theorem im_X3_hasSharesOf : Cond.instanceMethod yX3_hasSharesOf ∈ TB := TB_c2 (List.mem_of_getElem? (i := 189) (by decide +kernel)) rfl
theorem se_X3_hasSharesOf : Cond.selects RX3 yX3_hasSharesOf yX3_hasSharesOf ∈ TB := TB_c2 (List.mem_of_getElem? (i := 190) (by decide +kernel)) rfl
theorem cd_X3_hasSharesOf : Cond.code yX3_hasSharesOf cX3_hasSharesOf 3 (some .boolean) ∈ TB := TB_c2 (List.mem_of_getElem? (i := 191) rfl) rfl
theorem ml_RX3_69 : Cond.methodLink RX3 69 yX3_productA ∈ TB := TB_c2 (List.mem_of_getElem? (i := 192) (by decide +kernel)) rfl
theorem im_X3_productA : Cond.instanceMethod yX3_productA ∈ TB := TB_c2 (List.mem_of_getElem? (i := 194) (by decide +kernel)) rfl
theorem cd_X3_productA : Cond.code yX3_productA cX3_productA 3 (some .long) ∈ TB := TB_c2 (List.mem_of_getElem? (i := 195) rfl) rfl
theorem ml_RX3_73 : Cond.methodLink RX3 73 yX3_productB ∈ TB := TB_c2 (List.mem_of_getElem? (i := 196) (by decide +kernel)) rfl
theorem im_X3_productB : Cond.instanceMethod yX3_productB ∈ TB := TB_c2 (List.mem_of_getElem? (i := 198) (by decide +kernel)) rfl
theorem cd_X3_productB : Cond.code yX3_productB cX3_productB 3 (some .long) ∈ TB := TB_c2 (List.mem_of_getElem? (i := 199) rfl) rfl
theorem ml_RL_85 : Cond.methodLink RL 85 yX7_rounds ∈ TB := TB_c2 (List.mem_of_getElem? (i := 200) (by decide +kernel)) rfl
theorem im_X7_rounds : Cond.instanceMethod yX7_rounds ∈ TB := TB_c2 (List.mem_of_getElem? (i := 201) (by decide +kernel)) rfl
theorem se_X7_rounds : Cond.selects RX7 yX7_rounds yX7_rounds ∈ TB := TB_c2 (List.mem_of_getElem? (i := 202) (by decide +kernel)) rfl
theorem cd_X7_rounds : Cond.code yX7_rounds cX7_rounds 3 (some .int) ∈ TB := TB_c2 (List.mem_of_getElem? (i := 203) rfl) rfl
theorem kc_RX7_189 : Cond.constantLong RX7 189 (2000) ∈ TB := TB_c2 (List.mem_of_getElem? (i := 204) (by decide +kernel)) rfl
theorem ml_RX7_191 : Cond.methodLink RX7 191 yX1_tell ∈ TB := TB_c2 (List.mem_of_getElem? (i := 205) (by decide +kernel)) rfl
theorem im_X1_tell : Cond.instanceMethod yX1_tell ∈ TB := TB_c2 (List.mem_of_getElem? (i := 206) (by decide +kernel)) rfl
theorem se_X1_tell : Cond.selects RX1 yX1_tell yX1_tell ∈ TB := TB_c2 (List.mem_of_getElem? (i := 207) (by decide +kernel)) rfl
theorem cd_X1_tell : Cond.code yX1_tell cX1_tell 4 (none) ∈ TB := TB_c2 (List.mem_of_getElem? (i := 208) rfl) rfl
theorem ml_RX1_27 : Cond.methodLink RX1 27 yX1_drawPieces ∈ TB := TB_c2 (List.mem_of_getElem? (i := 209) (by decide +kernel)) rfl
theorem im_X1_drawPieces : Cond.instanceMethod yX1_drawPieces ∈ TB := TB_c2 (List.mem_of_getElem? (i := 211) (by decide +kernel)) rfl
theorem cd_X1_drawPieces : Cond.code yX1_drawPieces cX1_drawPieces 6 (none) ∈ TB := TB_c2 (List.mem_of_getElem? (i := 212) rfl) rfl
theorem ml_RX1_35 : Cond.methodLink RX1 35 yX1_measure ∈ TB := TB_c2 (List.mem_of_getElem? (i := 213) (by decide +kernel)) rfl
theorem im_X1_measure : Cond.instanceMethod yX1_measure ∈ TB := TB_c2 (List.mem_of_getElem? (i := 215) (by decide +kernel)) rfl
theorem cd_X1_measure : Cond.code yX1_measure cX1_measure 6 (none) ∈ TB := TB_c2 (List.mem_of_getElem? (i := 216) rfl) rfl
theorem ml_RX1_55 : Cond.methodLink RX1 55 Lib.Math.min.name ∈ TB := TB_c2 (List.mem_of_getElem? (i := 217) (by decide +kernel)) rfl
theorem sm_min : Cond.static Lib.Math.min.name ∈ TB := TB_c2 (List.mem_of_getElem? (i := 218) (by decide +kernel)) rfl
theorem cd_min : Cond.code Lib.Math.min.name Lib.Math.min.code 2 (some .int) ∈ TB := TB_c2 (List.mem_of_getElem? (i := 219) rfl) rfl
theorem ml_RX1_39 : Cond.methodLink RX1 39 yX1_takeOut ∈ TB := TB_c2 (List.mem_of_getElem? (i := 220) (by decide +kernel)) rfl
theorem im_X1_takeOut : Cond.instanceMethod yX1_takeOut ∈ TB := TB_c2 (List.mem_of_getElem? (i := 222) (by decide +kernel)) rfl
theorem cd_X1_takeOut : Cond.code yX1_takeOut cX1_takeOut 4 (none) ∈ TB := TB_c2 (List.mem_of_getElem? (i := 223) rfl) rfl
theorem ml_RL_89 : Cond.methodLink RL 89 yX7_round ∈ TB := TB_c2 (List.mem_of_getElem? (i := 224) (by decide +kernel)) rfl
theorem im_X7_round : Cond.instanceMethod yX7_round ∈ TB := TB_c2 (List.mem_of_getElem? (i := 225) (by decide +kernel)) rfl
theorem se_X7_round : Cond.selects RX7 yX7_round yX7_round ∈ TB := TB_c2 (List.mem_of_getElem? (i := 226) (by decide +kernel)) rfl
theorem cd_X7_round : Cond.code yX7_round cX7_round 3 (some .int) ∈ TB := TB_c2 (List.mem_of_getElem? (i := 227) rfl) rfl
theorem ml_RL_93 : Cond.methodLink RL 93 yX7_words ∈ TB := TB_c2 (List.mem_of_getElem? (i := 228) (by decide +kernel)) rfl
theorem im_X7_words : Cond.instanceMethod yX7_words ∈ TB := TB_c2 (List.mem_of_getElem? (i := 229) (by decide +kernel)) rfl
theorem se_X7_words : Cond.selects RX7 yX7_words yX7_words ∈ TB := TB_c2 (List.mem_of_getElem? (i := 230) (by decide +kernel)) rfl
theorem cd_X7_words : Cond.code yX7_words cX7_words 4 (some .int) ∈ TB := TB_c2 (List.mem_of_getElem? (i := 231) rfl) rfl
theorem ml_RX7_205 : Cond.methodLink RX7 205 yX7_beginningsBehind ∈ TB := TB_c2 (List.mem_of_getElem? (i := 232) (by decide +kernel)) rfl
theorem im_X7_beginningsBehind : Cond.instanceMethod yX7_beginningsBehind ∈ TB := TB_c2 (List.mem_of_getElem? (i := 234) (by decide +kernel)) rfl
theorem cd_X7_beginningsBehind : Cond.code yX7_beginningsBehind cX7_beginningsBehind 4 (some .int) ∈ TB := TB_c2 (List.mem_of_getElem? (i := 235) rfl) rfl
theorem ml_RX7_233 : Cond.methodLink RX7 233 yX6_isLeftEnd ∈ TB := TB_c2 (List.mem_of_getElem? (i := 236) (by decide +kernel)) rfl
theorem im_X6_isLeftEnd : Cond.instanceMethod yX6_isLeftEnd ∈ TB := TB_c2 (List.mem_of_getElem? (i := 237) (by decide +kernel)) rfl
theorem se_X6_isLeftEnd : Cond.selects RX6 yX6_isLeftEnd yX6_isLeftEnd ∈ TB := TB_c2 (List.mem_of_getElem? (i := 238) (by decide +kernel)) rfl
theorem cd_X6_isLeftEnd : Cond.code yX6_isLeftEnd cX6_isLeftEnd 3 (some .boolean) ∈ TB := TB_c2 (List.mem_of_getElem? (i := 239) rfl) rfl
theorem ml_RL_97 : Cond.methodLink RL 97 yX7_classes ∈ TB := TB_c3 (List.mem_of_getElem? (i := 0) (by decide +kernel)) rfl
theorem im_X7_classes : Cond.instanceMethod yX7_classes ∈ TB := TB_c3 (List.mem_of_getElem? (i := 1) (by decide +kernel)) rfl
theorem se_X7_classes : Cond.selects RX7 yX7_classes yX7_classes ∈ TB := TB_c3 (List.mem_of_getElem? (i := 2) (by decide +kernel)) rfl
theorem cd_X7_classes : Cond.code yX7_classes cX7_classes 1 (some .int) ∈ TB := TB_c3 (List.mem_of_getElem? (i := 3) rfl) rfl
theorem ml_RX7_209 : Cond.methodLink RX7 209 yX2_countFrom ∈ TB := TB_c3 (List.mem_of_getElem? (i := 4) (by decide +kernel)) rfl
theorem im_X2_countFrom : Cond.instanceMethod yX2_countFrom ∈ TB := TB_c3 (List.mem_of_getElem? (i := 5) (by decide +kernel)) rfl
theorem se_X2_countFrom : Cond.selects RX2 yX2_countFrom yX2_countFrom ∈ TB := TB_c3 (List.mem_of_getElem? (i := 6) (by decide +kernel)) rfl
theorem cd_X2_countFrom : Cond.code yX2_countFrom cX2_countFrom 3 (some .int) ∈ TB := TB_c3 (List.mem_of_getElem? (i := 7) rfl) rfl
theorem ml_RX2_35 : Cond.methodLink RX2 35 yX2_nameByPlaceAbove ∈ TB := TB_c3 (List.mem_of_getElem? (i := 8) (by decide +kernel)) rfl
theorem im_X2_nameByPlaceAbove : Cond.instanceMethod yX2_nameByPlaceAbove ∈ TB := TB_c3 (List.mem_of_getElem? (i := 10) (by decide +kernel)) rfl
theorem cd_X2_nameByPlaceAbove : Cond.code yX2_nameByPlaceAbove cX2_nameByPlaceAbove 4 (none) ∈ TB := TB_c3 (List.mem_of_getElem? (i := 11) rfl) rfl
theorem ml_RX2_39 : Cond.methodLink RX2 39 yX2_takeNext ∈ TB := TB_c3 (List.mem_of_getElem? (i := 12) (by decide +kernel)) rfl
theorem im_X2_takeNext : Cond.instanceMethod yX2_takeNext ∈ TB := TB_c3 (List.mem_of_getElem? (i := 14) (by decide +kernel)) rfl
theorem cd_X2_takeNext : Cond.code yX2_takeNext cX2_takeNext 2 (none) ∈ TB := TB_c3 (List.mem_of_getElem? (i := 15) rfl) rfl
theorem ml_RX2_58 : Cond.methodLink RX2 58 yX2_rankOfNext ∈ TB := TB_c3 (List.mem_of_getElem? (i := 16) (by decide +kernel)) rfl
theorem im_X2_rankOfNext : Cond.instanceMethod yX2_rankOfNext ∈ TB := TB_c3 (List.mem_of_getElem? (i := 18) (by decide +kernel)) rfl
theorem cd_X2_rankOfNext : Cond.code yX2_rankOfNext cX2_rankOfNext 5 (some .int) ∈ TB := TB_c3 (List.mem_of_getElem? (i := 19) rfl) rfl
theorem ml_RX2_62 : Cond.methodLink RX2 62 yX2_packNext ∈ TB := TB_c3 (List.mem_of_getElem? (i := 20) (by decide +kernel)) rfl
theorem im_X2_packNext : Cond.instanceMethod yX2_packNext ∈ TB := TB_c3 (List.mem_of_getElem? (i := 22) (by decide +kernel)) rfl
theorem cd_X2_packNext : Cond.code yX2_packNext cX2_packNext 3 (some .int) ∈ TB := TB_c3 (List.mem_of_getElem? (i := 23) rfl) rfl
theorem ml_RX2_42 : Cond.methodLink RX2 42 yX2_unpack ∈ TB := TB_c3 (List.mem_of_getElem? (i := 24) (by decide +kernel)) rfl
theorem im_X2_unpack : Cond.instanceMethod yX2_unpack ∈ TB := TB_c3 (List.mem_of_getElem? (i := 26) (by decide +kernel)) rfl
theorem cd_X2_unpack : Cond.code yX2_unpack cX2_unpack 3 (none) ∈ TB := TB_c3 (List.mem_of_getElem? (i := 27) rfl) rfl
theorem ml_RX2_46 : Cond.methodLink RX2 46 yX2_letUWin ∈ TB := TB_c3 (List.mem_of_getElem? (i := 28) (by decide +kernel)) rfl
theorem im_X2_letUWin : Cond.instanceMethod yX2_letUWin ∈ TB := TB_c3 (List.mem_of_getElem? (i := 30) (by decide +kernel)) rfl
theorem cd_X2_letUWin : Cond.code yX2_letUWin cX2_letUWin 5 (none) ∈ TB := TB_c3 (List.mem_of_getElem? (i := 31) rfl) rfl
theorem ml_RX2_49 : Cond.methodLink RX2 49 yX2_letVWin ∈ TB := TB_c3 (List.mem_of_getElem? (i := 32) (by decide +kernel)) rfl
theorem im_X2_letVWin : Cond.instanceMethod yX2_letVWin ∈ TB := TB_c3 (List.mem_of_getElem? (i := 34) (by decide +kernel)) rfl
theorem cd_X2_letVWin : Cond.code yX2_letVWin cX2_letVWin 5 (none) ∈ TB := TB_c3 (List.mem_of_getElem? (i := 35) rfl) rfl
theorem ml_RL_101 : Cond.methodLink RL 101 yX7_ground ∈ TB := TB_c3 (List.mem_of_getElem? (i := 36) (by decide +kernel)) rfl
theorem im_X7_ground : Cond.instanceMethod yX7_ground ∈ TB := TB_c3 (List.mem_of_getElem? (i := 37) (by decide +kernel)) rfl
theorem se_X7_ground : Cond.selects RX7 yX7_ground yX7_ground ∈ TB := TB_c3 (List.mem_of_getElem? (i := 38) (by decide +kernel)) rfl
theorem cd_X7_ground : Cond.code yX7_ground cX7_ground 2 (some .int) ∈ TB := TB_c3 (List.mem_of_getElem? (i := 39) rfl) rfl
theorem ml_RX7_213 : Cond.methodLink RX7 213 yX0_glue ∈ TB := TB_c3 (List.mem_of_getElem? (i := 40) (by decide +kernel)) rfl
theorem im_X0_glue : Cond.instanceMethod yX0_glue ∈ TB := TB_c3 (List.mem_of_getElem? (i := 41) (by decide +kernel)) rfl
theorem se_X0_glue : Cond.selects RX0 yX0_glue yX0_glue ∈ TB := TB_c3 (List.mem_of_getElem? (i := 42) (by decide +kernel)) rfl
theorem cd_X0_glue : Cond.code yX0_glue cX0_glue 4 (none) ∈ TB := TB_c3 (List.mem_of_getElem? (i := 43) rfl) rfl
theorem ml_RX0_28 : Cond.methodLink RX0 28 yX0_cornerBelow ∈ TB := TB_c3 (List.mem_of_getElem? (i := 44) (by decide +kernel)) rfl
theorem im_X0_cornerBelow : Cond.instanceMethod yX0_cornerBelow ∈ TB := TB_c3 (List.mem_of_getElem? (i := 46) (by decide +kernel)) rfl
theorem cd_X0_cornerBelow : Cond.code yX0_cornerBelow cX0_cornerBelow 2 (some .int) ∈ TB := TB_c3 (List.mem_of_getElem? (i := 47) rfl) rfl
theorem ml_RX0_32 : Cond.methodLink RX0 32 yX0_join ∈ TB := TB_c3 (List.mem_of_getElem? (i := 48) (by decide +kernel)) rfl
theorem im_X0_join : Cond.instanceMethod yX0_join ∈ TB := TB_c3 (List.mem_of_getElem? (i := 50) (by decide +kernel)) rfl
theorem cd_X0_join : Cond.code yX0_join cX0_join 6 (none) ∈ TB := TB_c3 (List.mem_of_getElem? (i := 51) rfl) rfl
theorem ml_RX7_216 : Cond.methodLink RX7 216 yX0_points ∈ TB := TB_c3 (List.mem_of_getElem? (i := 52) (by decide +kernel)) rfl
theorem im_X0_points : Cond.instanceMethod yX0_points ∈ TB := TB_c3 (List.mem_of_getElem? (i := 53) (by decide +kernel)) rfl
theorem se_X0_points : Cond.selects RX0 yX0_points yX0_points ∈ TB := TB_c3 (List.mem_of_getElem? (i := 54) (by decide +kernel)) rfl
theorem cd_X0_points : Cond.code yX0_points cX0_points 3 (some .int) ∈ TB := TB_c3 (List.mem_of_getElem? (i := 55) rfl) rfl
theorem ml_RX7_219 : Cond.methodLink RX7 219 yX0_mostTurns ∈ TB := TB_c3 (List.mem_of_getElem? (i := 56) (by decide +kernel)) rfl
theorem im_X0_mostTurns : Cond.instanceMethod yX0_mostTurns ∈ TB := TB_c3 (List.mem_of_getElem? (i := 57) (by decide +kernel)) rfl
theorem se_X0_mostTurns : Cond.selects RX0 yX0_mostTurns yX0_mostTurns ∈ TB := TB_c3 (List.mem_of_getElem? (i := 58) (by decide +kernel)) rfl
theorem cd_X0_mostTurns : Cond.code yX0_mostTurns cX0_mostTurns 3 (some .int) ∈ TB := TB_c3 (List.mem_of_getElem? (i := 59) rfl) rfl
theorem ml_RX0_36 : Cond.methodLink RX0 36 yX0_turnsAt ∈ TB := TB_c3 (List.mem_of_getElem? (i := 60) (by decide +kernel)) rfl
theorem im_X0_turnsAt : Cond.instanceMethod yX0_turnsAt ∈ TB := TB_c3 (List.mem_of_getElem? (i := 62) (by decide +kernel)) rfl
theorem cd_X0_turnsAt : Cond.code yX0_turnsAt cX0_turnsAt 4 (some .int) ∈ TB := TB_c3 (List.mem_of_getElem? (i := 63) rfl) rfl
theorem ml_RX0_39 : Cond.methodLink RX0 39 Lib.Math.max.name ∈ TB := TB_c3 (List.mem_of_getElem? (i := 64) (by decide +kernel)) rfl
theorem sm_max : Cond.static Lib.Math.max.name ∈ TB := TB_c3 (List.mem_of_getElem? (i := 65) (by decide +kernel)) rfl
theorem cd_max : Cond.code Lib.Math.max.name Lib.Math.max.code 2 (some .int) ∈ TB := TB_c3 (List.mem_of_getElem? (i := 66) rfl) rfl
theorem ml_RX7_222 : Cond.methodLink RX7 222 yX0_pointsWithOneTurn ∈ TB := TB_c3 (List.mem_of_getElem? (i := 67) (by decide +kernel)) rfl
theorem im_X0_pointsWithOneTurn : Cond.instanceMethod yX0_pointsWithOneTurn ∈ TB := TB_c3 (List.mem_of_getElem? (i := 68) (by decide +kernel)) rfl
theorem se_X0_pointsWithOneTurn : Cond.selects RX0 yX0_pointsWithOneTurn yX0_pointsWithOneTurn ∈ TB := TB_c3 (List.mem_of_getElem? (i := 69) (by decide +kernel)) rfl
theorem cd_X0_pointsWithOneTurn : Cond.code yX0_pointsWithOneTurn cX0_pointsWithOneTurn 3 (some .int) ∈ TB := TB_c3 (List.mem_of_getElem? (i := 70) rfl) rfl
theorem cl_RL_10 : Cond.classLink RL 10 RX8 ∈ TB := TB_c3 (List.mem_of_getElem? (i := 71) (by decide +kernel)) rfl
theorem it_RX8 : Cond.instantiable RX8 39 ∈ TB := TB_c3 (List.mem_of_getElem? (i := 72) (by decide +kernel)) rfl
theorem ml_RL_12 : Cond.methodLink RL 12 yX8_init ∈ TB := TB_c3 (List.mem_of_getElem? (i := 73) (by decide +kernel)) rfl
theorem im_X8_init : Cond.instanceMethod yX8_init ∈ TB := TB_c3 (List.mem_of_getElem? (i := 74) (by decide +kernel)) rfl
theorem cd_X8_init : Cond.code yX8_init cX8_init 1 (none) ∈ TB := TB_c3 (List.mem_of_getElem? (i := 75) rfl) rfl
theorem ml_RX8_1 : Cond.methodLink RX8 1 objectInit ∈ TB := TB_c3 (List.mem_of_getElem? (i := 76) (by decide +kernel)) rfl
theorem fl_RX8_87 : Cond.fieldLink RX8 87 "SpanBenchModel" "root" "I" ∈ TB := TB_c3 (List.mem_of_getElem? (i := 77) (by decide +kernel)) rfl
theorem fl_RX8_7 : Cond.fieldLink RX8 7 "SpanBenchModel" "sheetA" "[I" ∈ TB := TB_c3 (List.mem_of_getElem? (i := 78) (by decide +kernel)) rfl
theorem fl_RX8_13 : Cond.fieldLink RX8 13 "SpanBenchModel" "sheetB" "[I" ∈ TB := TB_c3 (List.mem_of_getElem? (i := 79) (by decide +kernel)) rfl
theorem fl_RX8_91 : Cond.fieldLink RX8 91 "SpanBenchModel" "sheetMany" "I" ∈ TB := TB_c3 (List.mem_of_getElem? (i := 80) (by decide +kernel)) rfl
theorem fl_RX8_16 : Cond.fieldLink RX8 16 "SpanBenchModel" "sheetBelow" "[I" ∈ TB := TB_c3 (List.mem_of_getElem? (i := 81) (by decide +kernel)) rfl
theorem fl_RX8_94 : Cond.fieldLink RX8 94 "SpanBenchModel" "n" "I" ∈ TB := TB_c3 (List.mem_of_getElem? (i := 82) (by decide +kernel)) rfl
theorem fl_RX8_19 : Cond.fieldLink RX8 19 "SpanBenchModel" "longA" "[J" ∈ TB := TB_c3 (List.mem_of_getElem? (i := 83) (by decide +kernel)) rfl
theorem fl_RX8_23 : Cond.fieldLink RX8 23 "SpanBenchModel" "longB" "[J" ∈ TB := TB_c3 (List.mem_of_getElem? (i := 84) (by decide +kernel)) rfl
theorem fl_RX8_26 : Cond.fieldLink RX8 26 "SpanBenchModel" "above" "[I" ∈ TB := TB_c3 (List.mem_of_getElem? (i := 85) (by decide +kernel)) rfl
theorem fl_RX8_29 : Cond.fieldLink RX8 29 "SpanBenchModel" "below" "[I" ∈ TB := TB_c3 (List.mem_of_getElem? (i := 86) (by decide +kernel)) rfl
theorem fl_RX8_32 : Cond.fieldLink RX8 32 "SpanBenchModel" "told" "[J" ∈ TB := TB_c3 (List.mem_of_getElem? (i := 87) (by decide +kernel)) rfl
theorem fl_RX8_101 : Cond.fieldLink RX8 101 "SpanBenchModel" "steps" "I" ∈ TB := TB_c3 (List.mem_of_getElem? (i := 88) (by decide +kernel)) rfl
theorem fl_RX8_104 : Cond.fieldLink RX8 104 "SpanBenchModel" "wins" "I" ∈ TB := TB_c3 (List.mem_of_getElem? (i := 89) (by decide +kernel)) rfl
theorem fl_RX8_97 : Cond.fieldLink RX8 97 "SpanBenchModel" "hasPoint" "Z" ∈ TB := TB_c3 (List.mem_of_getElem? (i := 90) (by decide +kernel)) rfl
theorem fl_RX8_157 : Cond.fieldLink RX8 157 "SpanBenchModel" "pointA" "J" ∈ TB := TB_c3 (List.mem_of_getElem? (i := 91) (by decide +kernel)) rfl
theorem fl_RX8_160 : Cond.fieldLink RX8 160 "SpanBenchModel" "pointB" "J" ∈ TB := TB_c3 (List.mem_of_getElem? (i := 92) (by decide +kernel)) rfl
theorem fl_RX8_128 : Cond.fieldLink RX8 128 "SpanBenchModel" "leftA" "J" ∈ TB := TB_c3 (List.mem_of_getElem? (i := 93) (by decide +kernel)) rfl
theorem fl_RX8_132 : Cond.fieldLink RX8 132 "SpanBenchModel" "leftB" "J" ∈ TB := TB_c3 (List.mem_of_getElem? (i := 94) (by decide +kernel)) rfl
theorem fl_RX8_139 : Cond.fieldLink RX8 139 "SpanBenchModel" "nextA" "J" ∈ TB := TB_c3 (List.mem_of_getElem? (i := 95) (by decide +kernel)) rfl
theorem fl_RX8_142 : Cond.fieldLink RX8 142 "SpanBenchModel" "nextB" "J" ∈ TB := TB_c3 (List.mem_of_getElem? (i := 96) (by decide +kernel)) rfl
theorem fl_RX8_35 : Cond.fieldLink RX8 35 "SpanBenchModel" "wasA" "[J" ∈ TB := TB_c3 (List.mem_of_getElem? (i := 97) (by decide +kernel)) rfl
theorem fl_RX8_38 : Cond.fieldLink RX8 38 "SpanBenchModel" "wasB" "[J" ∈ TB := TB_c3 (List.mem_of_getElem? (i := 98) (by decide +kernel)) rfl
theorem fl_RX8_41 : Cond.fieldLink RX8 41 "SpanBenchModel" "wasAbove" "[I" ∈ TB := TB_c3 (List.mem_of_getElem? (i := 99) (by decide +kernel)) rfl
theorem fl_RX8_44 : Cond.fieldLink RX8 44 "SpanBenchModel" "wasBelow" "[I" ∈ TB := TB_c3 (List.mem_of_getElem? (i := 100) (by decide +kernel)) rfl
theorem fl_RX8_47 : Cond.fieldLink RX8 47 "SpanBenchModel" "wasTold" "[J" ∈ TB := TB_c3 (List.mem_of_getElem? (i := 101) (by decide +kernel)) rfl
theorem fl_RX8_193 : Cond.fieldLink RX8 193 "SpanBenchModel" "rounds" "I" ∈ TB := TB_c3 (List.mem_of_getElem? (i := 102) (by decide +kernel)) rfl
theorem fl_RX8_50 : Cond.fieldLink RX8 50 "SpanBenchModel" "roundWide" "[I" ∈ TB := TB_c3 (List.mem_of_getElem? (i := 103) (by decide +kernel)) rfl
theorem fl_RX8_53 : Cond.fieldLink RX8 53 "SpanBenchModel" "roundTimes" "[I" ∈ TB := TB_c3 (List.mem_of_getElem? (i := 104) (by decide +kernel)) rfl
theorem fl_RX8_56 : Cond.fieldLink RX8 56 "SpanBenchModel" "roundLeast" "[I" ∈ TB := TB_c3 (List.mem_of_getElem? (i := 105) (by decide +kernel)) rfl
theorem fl_RX8_59 : Cond.fieldLink RX8 59 "SpanBenchModel" "to" "[I" ∈ TB := TB_c3 (List.mem_of_getElem? (i := 106) (by decide +kernel)) rfl
theorem fl_RX8_62 : Cond.fieldLink RX8 62 "SpanBenchModel" "in" "[I" ∈ TB := TB_c3 (List.mem_of_getElem? (i := 107) (by decide +kernel)) rfl
theorem fl_RX8_65 : Cond.fieldLink RX8 65 "SpanBenchModel" "seen" "[Z" ∈ TB := TB_c3 (List.mem_of_getElem? (i := 108) (by decide +kernel)) rfl
theorem fl_RX8_69 : Cond.fieldLink RX8 69 "SpanBenchModel" "cutA" "[J" ∈ TB := TB_c3 (List.mem_of_getElem? (i := 109) (by decide +kernel)) rfl
theorem fl_RX8_72 : Cond.fieldLink RX8 72 "SpanBenchModel" "cutB" "[J" ∈ TB := TB_c3 (List.mem_of_getElem? (i := 110) (by decide +kernel)) rfl
theorem fl_RX8_75 : Cond.fieldLink RX8 75 "SpanBenchModel" "noted" "[I" ∈ TB := TB_c3 (List.mem_of_getElem? (i := 111) (by decide +kernel)) rfl
theorem fl_RX8_200 : Cond.fieldLink RX8 200 "SpanBenchModel" "notes" "I" ∈ TB := TB_c3 (List.mem_of_getElem? (i := 112) (by decide +kernel)) rfl
theorem fl_RX8_78 : Cond.fieldLink RX8 78 "SpanBenchModel" "upper" "[I" ∈ TB := TB_c3 (List.mem_of_getElem? (i := 113) (by decide +kernel)) rfl
theorem fl_RX8_81 : Cond.fieldLink RX8 81 "SpanBenchModel" "lower" "[I" ∈ TB := TB_c3 (List.mem_of_getElem? (i := 114) (by decide +kernel)) rfl
theorem fl_RX8_84 : Cond.fieldLink RX8 84 "SpanBenchModel" "corner" "[I" ∈ TB := TB_c3 (List.mem_of_getElem? (i := 115) (by decide +kernel)) rfl
theorem ml_RL_17 : Cond.methodLink RL 17 yX8_root ∈ TB := TB_c3 (List.mem_of_getElem? (i := 195) (by decide +kernel)) rfl
theorem im_X8_root : Cond.instanceMethod yX8_root ∈ TB := TB_c3 (List.mem_of_getElem? (i := 196) (by decide +kernel)) rfl
theorem se_X8_root : Cond.selects RX8 yX8_root yX8_root ∈ TB := TB_c3 (List.mem_of_getElem? (i := 197) (by decide +kernel)) rfl
theorem cd_X8_root : Cond.code yX8_root cX8_root 2 (some .boolean) ∈ TB := TB_c3 (List.mem_of_getElem? (i := 198) rfl) rfl
theorem ml_RX8_107 : Cond.methodLink RX8 107 yX8_forgets ∈ TB := TB_c3 (List.mem_of_getElem? (i := 199) (by decide +kernel)) rfl
theorem im_X8_forgets : Cond.instanceMethod yX8_forgets ∈ TB := TB_c3 (List.mem_of_getElem? (i := 201) (by decide +kernel)) rfl
theorem cd_X8_forgets : Cond.code yX8_forgets cX8_forgets 2 (none) ∈ TB := TB_c3 (List.mem_of_getElem? (i := 202) rfl) rfl
theorem ml_RL_22 : Cond.methodLink RL 22 yX8_length ∈ TB := TB_c3 (List.mem_of_getElem? (i := 203) (by decide +kernel)) rfl
theorem im_X8_length : Cond.instanceMethod yX8_length ∈ TB := TB_c3 (List.mem_of_getElem? (i := 204) (by decide +kernel)) rfl
theorem se_X8_length : Cond.selects RX8 yX8_length yX8_length ∈ TB := TB_c3 (List.mem_of_getElem? (i := 205) (by decide +kernel)) rfl
theorem cd_X8_length : Cond.code yX8_length cX8_length 4 (some .boolean) ∈ TB := TB_c3 (List.mem_of_getElem? (i := 206) rfl) rfl
theorem kc_RX8_110 : Cond.constantLong RX8 110 (16384) ∈ TB := TB_c3 (List.mem_of_getElem? (i := 207) (by decide +kernel)) rfl
theorem ml_RX8_112 : Cond.methodLink RX8 112 yX8_isIn ∈ TB := TB_c3 (List.mem_of_getElem? (i := 208) (by decide +kernel)) rfl
theorem sm_X8_isIn : Cond.static yX8_isIn ∈ TB := TB_c3 (List.mem_of_getElem? (i := 209) (by decide +kernel)) rfl
theorem cd_X8_isIn : Cond.code yX8_isIn cX8_isIn 4 (some .boolean) ∈ TB := TB_c3 (List.mem_of_getElem? (i := 210) rfl) rfl
theorem ml_RX8_116 : Cond.methodLink RX8 116 yX8_signOf ∈ TB := TB_c3 (List.mem_of_getElem? (i := 211) (by decide +kernel)) rfl
theorem im_X8_signOf : Cond.instanceMethod yX8_signOf ∈ TB := TB_c3 (List.mem_of_getElem? (i := 213) (by decide +kernel)) rfl
theorem cd_X8_signOf : Cond.code yX8_signOf cX8_signOf 9 (some .int) ∈ TB := TB_c3 (List.mem_of_getElem? (i := 214) rfl) rfl
theorem ml_RL_27 : Cond.methodLink RL 27 yX8_below ∈ TB := TB_c3 (List.mem_of_getElem? (i := 215) (by decide +kernel)) rfl
theorem im_X8_below : Cond.instanceMethod yX8_below ∈ TB := TB_c3 (List.mem_of_getElem? (i := 216) (by decide +kernel)) rfl
theorem se_X8_below : Cond.selects RX8 yX8_below yX8_below ∈ TB := TB_c3 (List.mem_of_getElem? (i := 217) (by decide +kernel)) rfl
theorem cd_X8_below : Cond.code yX8_below cX8_below 6 (some .boolean) ∈ TB := TB_c3 (List.mem_of_getElem? (i := 218) rfl) rfl
theorem ml_RL_32 : Cond.methodLink RL 32 yX8_lay ∈ TB := TB_c3 (List.mem_of_getElem? (i := 219) (by decide +kernel)) rfl
theorem im_X8_lay : Cond.instanceMethod yX8_lay ∈ TB := TB_c3 (List.mem_of_getElem? (i := 220) (by decide +kernel)) rfl
theorem se_X8_lay : Cond.selects RX8 yX8_lay yX8_lay ∈ TB := TB_c3 (List.mem_of_getElem? (i := 221) (by decide +kernel)) rfl
theorem cd_X8_lay : Cond.code yX8_lay cX8_lay 3 (some .int) ∈ TB := TB_c3 (List.mem_of_getElem? (i := 222) rfl) rfl
theorem ml_RL_37 : Cond.methodLink RL 37 yX8_of ∈ TB := TB_c3 (List.mem_of_getElem? (i := 223) (by decide +kernel)) rfl
theorem im_X8_of : Cond.instanceMethod yX8_of ∈ TB := TB_c3 (List.mem_of_getElem? (i := 224) (by decide +kernel)) rfl
theorem se_X8_of : Cond.selects RX8 yX8_of yX8_of ∈ TB := TB_c3 (List.mem_of_getElem? (i := 225) (by decide +kernel)) rfl
theorem cd_X8_of : Cond.code yX8_of cX8_of 2 (some .int) ∈ TB := TB_c3 (List.mem_of_getElem? (i := 226) rfl) rfl
theorem ml_RX8_120 : Cond.methodLink RX8 120 yX8_parted ∈ TB := TB_c3 (List.mem_of_getElem? (i := 227) (by decide +kernel)) rfl
theorem im_X8_parted : Cond.instanceMethod yX8_parted ∈ TB := TB_c3 (List.mem_of_getElem? (i := 229) (by decide +kernel)) rfl
theorem cd_X8_parted : Cond.code yX8_parted cX8_parted 4 (some .int) ∈ TB := TB_c3 (List.mem_of_getElem? (i := 230) rfl) rfl
theorem ml_RL_42 : Cond.methodLink RL 42 yX8_spans ∈ TB := TB_c3 (List.mem_of_getElem? (i := 231) (by decide +kernel)) rfl
theorem im_X8_spans : Cond.instanceMethod yX8_spans ∈ TB := TB_c3 (List.mem_of_getElem? (i := 232) (by decide +kernel)) rfl
theorem se_X8_spans : Cond.selects RX8 yX8_spans yX8_spans ∈ TB := TB_c3 (List.mem_of_getElem? (i := 233) (by decide +kernel)) rfl
theorem cd_X8_spans : Cond.code yX8_spans cX8_spans 3 (some .long) ∈ TB := TB_c3 (List.mem_of_getElem? (i := 234) rfl) rfl
theorem ml_RX8_124 : Cond.methodLink RX8 124 yX8_total ∈ TB := TB_c3 (List.mem_of_getElem? (i := 235) (by decide +kernel)) rfl
theorem im_X8_total : Cond.instanceMethod yX8_total ∈ TB := TB_c3 (List.mem_of_getElem? (i := 237) (by decide +kernel)) rfl
theorem cd_X8_total : Cond.code yX8_total cX8_total 5 (some .long) ∈ TB := TB_c3 (List.mem_of_getElem? (i := 238) rfl) rfl
theorem ml_RL_47 : Cond.methodLink RL 47 yX8_order ∈ TB := TB_c3 (List.mem_of_getElem? (i := 239) (by decide +kernel)) rfl
theorem im_X8_order : Cond.instanceMethod yX8_order ∈ TB := TB_c4 (List.mem_of_getElem? (i := 0) (by decide +kernel)) rfl
theorem se_X8_order : Cond.selects RX8 yX8_order yX8_order ∈ TB := TB_c4 (List.mem_of_getElem? (i := 1) (by decide +kernel)) rfl
theorem cd_X8_order : Cond.code yX8_order cX8_order 3 (some .int) ∈ TB := TB_c4 (List.mem_of_getElem? (i := 2) rfl) rfl
theorem ml_RL_51 : Cond.methodLink RL 51 yX8_point ∈ TB := TB_c4 (List.mem_of_getElem? (i := 3) (by decide +kernel)) rfl
theorem im_X8_point : Cond.instanceMethod yX8_point ∈ TB := TB_c4 (List.mem_of_getElem? (i := 4) (by decide +kernel)) rfl
theorem se_X8_point : Cond.selects RX8 yX8_point yX8_point ∈ TB := TB_c4 (List.mem_of_getElem? (i := 5) (by decide +kernel)) rfl
theorem cd_X8_point : Cond.code yX8_point cX8_point 3 (some .int) ∈ TB := TB_c4 (List.mem_of_getElem? (i := 6) rfl) rfl
theorem ml_RX8_151 : Cond.methodLink RX8 151 yX8_isPoint ∈ TB := TB_c4 (List.mem_of_getElem? (i := 7) (by decide +kernel)) rfl
theorem sm_X8_isPoint : Cond.static yX8_isPoint ∈ TB := TB_c4 (List.mem_of_getElem? (i := 8) (by decide +kernel)) rfl
theorem cd_X8_isPoint : Cond.code yX8_isPoint cX8_isPoint 4 (some .boolean) ∈ TB := TB_c4 (List.mem_of_getElem? (i := 9) rfl) rfl
theorem kc_RX8_149 : Cond.constantLong RX8 149 (536870912) ∈ TB := TB_c4 (List.mem_of_getElem? (i := 10) (by decide +kernel)) rfl
theorem ml_RX8_154 : Cond.methodLink RX8 154 yX8_isOnLine ∈ TB := TB_c4 (List.mem_of_getElem? (i := 11) (by decide +kernel)) rfl
theorem im_X8_isOnLine : Cond.instanceMethod yX8_isOnLine ∈ TB := TB_c4 (List.mem_of_getElem? (i := 13) (by decide +kernel)) rfl
theorem cd_X8_isOnLine : Cond.code yX8_isOnLine cX8_isOnLine 5 (some .boolean) ∈ TB := TB_c4 (List.mem_of_getElem? (i := 14) rfl) rfl
theorem ml_RX8_135 : Cond.methodLink RX8 135 yX8_spanAt ∈ TB := TB_c4 (List.mem_of_getElem? (i := 15) (by decide +kernel)) rfl
theorem im_X8_spanAt : Cond.instanceMethod yX8_spanAt ∈ TB := TB_c4 (List.mem_of_getElem? (i := 17) (by decide +kernel)) rfl
theorem cd_X8_spanAt : Cond.code yX8_spanAt cX8_spanAt 8 (some .int) ∈ TB := TB_c4 (List.mem_of_getElem? (i := 18) rfl) rfl
theorem ml_RL_55 : Cond.methodLink RL 55 yX8_move ∈ TB := TB_c4 (List.mem_of_getElem? (i := 19) (by decide +kernel)) rfl
theorem im_X8_move : Cond.instanceMethod yX8_move ∈ TB := TB_c4 (List.mem_of_getElem? (i := 20) (by decide +kernel)) rfl
theorem se_X8_move : Cond.selects RX8 yX8_move yX8_move ∈ TB := TB_c4 (List.mem_of_getElem? (i := 21) (by decide +kernel)) rfl
theorem cd_X8_move : Cond.code yX8_move cX8_move 7 (some .int) ∈ TB := TB_c4 (List.mem_of_getElem? (i := 22) rfl) rfl
theorem ml_RX8_163 : Cond.methodLink RX8 163 yX8_goes ∈ TB := TB_c4 (List.mem_of_getElem? (i := 23) (by decide +kernel)) rfl
theorem im_X8_goes : Cond.instanceMethod yX8_goes ∈ TB := TB_c4 (List.mem_of_getElem? (i := 25) (by decide +kernel)) rfl
theorem cd_X8_goes : Cond.code yX8_goes cX8_goes 7 (none) ∈ TB := TB_c4 (List.mem_of_getElem? (i := 26) rfl) rfl
theorem ml_RX8_145 : Cond.methodLink RX8 145 yX8_begins ∈ TB := TB_c4 (List.mem_of_getElem? (i := 27) (by decide +kernel)) rfl
theorem im_X8_begins : Cond.instanceMethod yX8_begins ∈ TB := TB_c4 (List.mem_of_getElem? (i := 29) (by decide +kernel)) rfl
theorem cd_X8_begins : Cond.code yX8_begins cX8_begins 4 (none) ∈ TB := TB_c4 (List.mem_of_getElem? (i := 30) rfl) rfl
theorem ml_RL_60 : Cond.methodLink RL 60 yX8_where ∈ TB := TB_c4 (List.mem_of_getElem? (i := 31) (by decide +kernel)) rfl
theorem im_X8_where : Cond.instanceMethod yX8_where ∈ TB := TB_c4 (List.mem_of_getElem? (i := 32) (by decide +kernel)) rfl
theorem se_X8_where : Cond.selects RX8 yX8_where yX8_where ∈ TB := TB_c4 (List.mem_of_getElem? (i := 33) (by decide +kernel)) rfl
theorem cd_X8_where : Cond.code yX8_where cX8_where 2 (some .long) ∈ TB := TB_c4 (List.mem_of_getElem? (i := 34) rfl) rfl
theorem kc_RX8_167 : Cond.constantLong RX8 167 (-9000000000000000000) ∈ TB := TB_c4 (List.mem_of_getElem? (i := 35) (by decide +kernel)) rfl
theorem ml_RL_64 : Cond.methodLink RL 64 yX8_back ∈ TB := TB_c4 (List.mem_of_getElem? (i := 36) (by decide +kernel)) rfl
theorem im_X8_back : Cond.instanceMethod yX8_back ∈ TB := TB_c4 (List.mem_of_getElem? (i := 37) (by decide +kernel)) rfl
theorem se_X8_back : Cond.selects RX8 yX8_back yX8_back ∈ TB := TB_c4 (List.mem_of_getElem? (i := 38) (by decide +kernel)) rfl
theorem cd_X8_back : Cond.code yX8_back cX8_back 8 (some .int) ∈ TB := TB_c4 (List.mem_of_getElem? (i := 39) rfl) rfl
theorem ml_RL_68 : Cond.methodLink RL 68 yX8_visits ∈ TB := TB_c4 (List.mem_of_getElem? (i := 40) (by decide +kernel)) rfl
theorem im_X8_visits : Cond.instanceMethod yX8_visits ∈ TB := TB_c4 (List.mem_of_getElem? (i := 41) (by decide +kernel)) rfl
theorem se_X8_visits : Cond.selects RX8 yX8_visits yX8_visits ∈ TB := TB_c4 (List.mem_of_getElem? (i := 42) (by decide +kernel)) rfl
theorem cd_X8_visits : Cond.code yX8_visits cX8_visits 9 (some .int) ∈ TB := TB_c4 (List.mem_of_getElem? (i := 43) rfl) rfl
theorem ml_RL_72 : Cond.methodLink RL 72 yX8_step ∈ TB := TB_c4 (List.mem_of_getElem? (i := 44) (by decide +kernel)) rfl
theorem im_X8_step : Cond.instanceMethod yX8_step ∈ TB := TB_c4 (List.mem_of_getElem? (i := 45) (by decide +kernel)) rfl
theorem se_X8_step : Cond.selects RX8 yX8_step yX8_step ∈ TB := TB_c4 (List.mem_of_getElem? (i := 46) (by decide +kernel)) rfl
theorem cd_X8_step : Cond.code yX8_step cX8_step 11 (some .int) ∈ TB := TB_c4 (List.mem_of_getElem? (i := 47) rfl) rfl
theorem kc_RX8_169 : Cond.constantLong RX8 169 (1099511627776) ∈ TB := TB_c4 (List.mem_of_getElem? (i := 48) (by decide +kernel)) rfl
theorem ml_RX8_171 : Cond.methodLink RX8 171 yX8_brings ∈ TB := TB_c4 (List.mem_of_getElem? (i := 49) (by decide +kernel)) rfl
theorem im_X8_brings : Cond.instanceMethod yX8_brings ∈ TB := TB_c4 (List.mem_of_getElem? (i := 51) (by decide +kernel)) rfl
theorem cd_X8_brings : Cond.code yX8_brings cX8_brings 6 (none) ∈ TB := TB_c4 (List.mem_of_getElem? (i := 52) rfl) rfl
theorem ml_RL_76 : Cond.methodLink RL 76 yX8_steps ∈ TB := TB_c4 (List.mem_of_getElem? (i := 53) (by decide +kernel)) rfl
theorem im_X8_steps : Cond.instanceMethod yX8_steps ∈ TB := TB_c4 (List.mem_of_getElem? (i := 54) (by decide +kernel)) rfl
theorem se_X8_steps : Cond.selects RX8 yX8_steps yX8_steps ∈ TB := TB_c4 (List.mem_of_getElem? (i := 55) (by decide +kernel)) rfl
theorem cd_X8_steps : Cond.code yX8_steps cX8_steps 3 (some .int) ∈ TB := TB_c4 (List.mem_of_getElem? (i := 56) rfl) rfl
theorem ml_RX8_175 : Cond.methodLink RX8 175 yX8_step ∈ TB := TB_c4 (List.mem_of_getElem? (i := 57) (by decide +kernel)) rfl
theorem ml_RL_80 : Cond.methodLink RL 80 yX8_table ∈ TB := TB_c4 (List.mem_of_getElem? (i := 58) (by decide +kernel)) rfl
theorem im_X8_table : Cond.instanceMethod yX8_table ∈ TB := TB_c4 (List.mem_of_getElem? (i := 59) (by decide +kernel)) rfl
theorem se_X8_table : Cond.selects RX8 yX8_table yX8_table ∈ TB := TB_c4 (List.mem_of_getElem? (i := 60) (by decide +kernel)) rfl
theorem cd_X8_table : Cond.code yX8_table cX8_table 3 (some .long) ∈ TB := TB_c4 (List.mem_of_getElem? (i := 61) rfl) rfl
theorem kc_RX8_178 : Cond.constantLong RX8 178 (-1) ∈ TB := TB_c4 (List.mem_of_getElem? (i := 62) (by decide +kernel)) rfl
theorem ml_RL_84 : Cond.methodLink RL 84 yX8_loop ∈ TB := TB_c4 (List.mem_of_getElem? (i := 63) (by decide +kernel)) rfl
theorem im_X8_loop : Cond.instanceMethod yX8_loop ∈ TB := TB_c4 (List.mem_of_getElem? (i := 64) (by decide +kernel)) rfl
theorem se_X8_loop : Cond.selects RX8 yX8_loop yX8_loop ∈ TB := TB_c4 (List.mem_of_getElem? (i := 65) (by decide +kernel)) rfl
theorem cd_X8_loop : Cond.code yX8_loop cX8_loop 7 (some .int) ∈ TB := TB_c4 (List.mem_of_getElem? (i := 66) rfl) rfl
theorem ml_RX8_184 : Cond.methodLink RX8 184 yX8_isLoop ∈ TB := TB_c4 (List.mem_of_getElem? (i := 67) (by decide +kernel)) rfl
theorem im_X8_isLoop : Cond.instanceMethod yX8_isLoop ∈ TB := TB_c4 (List.mem_of_getElem? (i := 69) (by decide +kernel)) rfl
theorem cd_X8_isLoop : Cond.code yX8_isLoop cX8_isLoop 2 (some .boolean) ∈ TB := TB_c4 (List.mem_of_getElem? (i := 70) rfl) rfl
theorem ml_RX8_180 : Cond.methodLink RX8 180 yX8_isShare ∈ TB := TB_c4 (List.mem_of_getElem? (i := 71) (by decide +kernel)) rfl
theorem im_X8_isShare : Cond.instanceMethod yX8_isShare ∈ TB := TB_c4 (List.mem_of_getElem? (i := 73) (by decide +kernel)) rfl
theorem cd_X8_isShare : Cond.code yX8_isShare cX8_isShare 10 (some .boolean) ∈ TB := TB_c4 (List.mem_of_getElem? (i := 74) rfl) rfl
theorem ml_RL_88 : Cond.methodLink RL 88 yX8_rounds ∈ TB := TB_c4 (List.mem_of_getElem? (i := 75) (by decide +kernel)) rfl
theorem im_X8_rounds : Cond.instanceMethod yX8_rounds ∈ TB := TB_c4 (List.mem_of_getElem? (i := 76) (by decide +kernel)) rfl
theorem se_X8_rounds : Cond.selects RX8 yX8_rounds yX8_rounds ∈ TB := TB_c4 (List.mem_of_getElem? (i := 77) (by decide +kernel)) rfl
theorem cd_X8_rounds : Cond.code yX8_rounds cX8_rounds 8 (some .int) ∈ TB := TB_c4 (List.mem_of_getElem? (i := 78) rfl) rfl
theorem kc_RX8_188 : Cond.constantLong RX8 188 (2000) ∈ TB := TB_c4 (List.mem_of_getElem? (i := 79) (by decide +kernel)) rfl
theorem ml_RX8_190 : Cond.methodLink RX8 190 yX8_pieces ∈ TB := TB_c4 (List.mem_of_getElem? (i := 80) (by decide +kernel)) rfl
theorem im_X8_pieces : Cond.instanceMethod yX8_pieces ∈ TB := TB_c4 (List.mem_of_getElem? (i := 82) (by decide +kernel)) rfl
theorem cd_X8_pieces : Cond.code yX8_pieces cX8_pieces 3 (some .int) ∈ TB := TB_c4 (List.mem_of_getElem? (i := 83) rfl) rfl
theorem ml_RX8_196 : Cond.methodLink RX8 196 yX8_isJoined ∈ TB := TB_c4 (List.mem_of_getElem? (i := 84) (by decide +kernel)) rfl
theorem im_X8_isJoined : Cond.instanceMethod yX8_isJoined ∈ TB := TB_c4 (List.mem_of_getElem? (i := 86) (by decide +kernel)) rfl
theorem cd_X8_isJoined : Cond.code yX8_isJoined cX8_isJoined 5 (some .boolean) ∈ TB := TB_c4 (List.mem_of_getElem? (i := 87) rfl) rfl
theorem ml_RL_92 : Cond.methodLink RL 92 yX8_round ∈ TB := TB_c4 (List.mem_of_getElem? (i := 88) (by decide +kernel)) rfl
theorem im_X8_round : Cond.instanceMethod yX8_round ∈ TB := TB_c4 (List.mem_of_getElem? (i := 89) (by decide +kernel)) rfl
theorem se_X8_round : Cond.selects RX8 yX8_round yX8_round ∈ TB := TB_c4 (List.mem_of_getElem? (i := 90) (by decide +kernel)) rfl
theorem cd_X8_round : Cond.code yX8_round cX8_round 3 (some .int) ∈ TB := TB_c4 (List.mem_of_getElem? (i := 91) rfl) rfl
theorem ml_RL_96 : Cond.methodLink RL 96 yX8_words ∈ TB := TB_c4 (List.mem_of_getElem? (i := 92) (by decide +kernel)) rfl
theorem im_X8_words : Cond.instanceMethod yX8_words ∈ TB := TB_c4 (List.mem_of_getElem? (i := 93) (by decide +kernel)) rfl
theorem se_X8_words : Cond.selects RX8 yX8_words yX8_words ∈ TB := TB_c4 (List.mem_of_getElem? (i := 94) (by decide +kernel)) rfl
theorem cd_X8_words : Cond.code yX8_words cX8_words 15 (some .int) ∈ TB := TB_c4 (List.mem_of_getElem? (i := 95) rfl) rfl
theorem ml_RL_100 : Cond.methodLink RL 100 yX8_classes ∈ TB := TB_c4 (List.mem_of_getElem? (i := 96) (by decide +kernel)) rfl
theorem im_X8_classes : Cond.instanceMethod yX8_classes ∈ TB := TB_c4 (List.mem_of_getElem? (i := 97) (by decide +kernel)) rfl
theorem se_X8_classes : Cond.selects RX8 yX8_classes yX8_classes ∈ TB := TB_c4 (List.mem_of_getElem? (i := 98) (by decide +kernel)) rfl
theorem cd_X8_classes : Cond.code yX8_classes cX8_classes 5 (some .int) ∈ TB := TB_c4 (List.mem_of_getElem? (i := 99) rfl) rfl
theorem ml_RX8_203 : Cond.methodLink RX8 203 yX8_numbered ∈ TB := TB_c4 (List.mem_of_getElem? (i := 100) (by decide +kernel)) rfl
theorem im_X8_numbered : Cond.instanceMethod yX8_numbered ∈ TB := TB_c4 (List.mem_of_getElem? (i := 102) (by decide +kernel)) rfl
theorem cd_X8_numbered : Cond.code yX8_numbered cX8_numbered 4 (some .int) ∈ TB := TB_c4 (List.mem_of_getElem? (i := 103) rfl) rfl
theorem ml_RX8_206 : Cond.methodLink RX8 206 yX8_notes ∈ TB := TB_c4 (List.mem_of_getElem? (i := 104) (by decide +kernel)) rfl
theorem im_X8_notes : Cond.instanceMethod yX8_notes ∈ TB := TB_c4 (List.mem_of_getElem? (i := 106) (by decide +kernel)) rfl
theorem cd_X8_notes : Cond.code yX8_notes cX8_notes 3 (none) ∈ TB := TB_c4 (List.mem_of_getElem? (i := 107) rfl) rfl
theorem ml_RX8_209 : Cond.methodLink RX8 209 yX8_takes ∈ TB := TB_c4 (List.mem_of_getElem? (i := 108) (by decide +kernel)) rfl
theorem im_X8_takes : Cond.instanceMethod yX8_takes ∈ TB := TB_c4 (List.mem_of_getElem? (i := 110) (by decide +kernel)) rfl
theorem cd_X8_takes : Cond.code yX8_takes cX8_takes 3 (none) ∈ TB := TB_c4 (List.mem_of_getElem? (i := 111) rfl) rfl
theorem ml_RL_104 : Cond.methodLink RL 104 yX8_ground ∈ TB := TB_c4 (List.mem_of_getElem? (i := 112) (by decide +kernel)) rfl
theorem im_X8_ground : Cond.instanceMethod yX8_ground ∈ TB := TB_c4 (List.mem_of_getElem? (i := 113) (by decide +kernel)) rfl
theorem se_X8_ground : Cond.selects RX8 yX8_ground yX8_ground ∈ TB := TB_c4 (List.mem_of_getElem? (i := 114) (by decide +kernel)) rfl
theorem cd_X8_ground : Cond.code yX8_ground cX8_ground 9 (some .int) ∈ TB := TB_c4 (List.mem_of_getElem? (i := 115) rfl) rfl
theorem ml_RX8_212 : Cond.methodLink RX8 212 yX8_placeOf ∈ TB := TB_c4 (List.mem_of_getElem? (i := 116) (by decide +kernel)) rfl
theorem im_X8_placeOf : Cond.instanceMethod yX8_placeOf ∈ TB := TB_c4 (List.mem_of_getElem? (i := 118) (by decide +kernel)) rfl
theorem cd_X8_placeOf : Cond.code yX8_placeOf cX8_placeOf 4 (some .int) ∈ TB := TB_c4 (List.mem_of_getElem? (i := 119) rfl) rfl
theorem ml_RX8_216 : Cond.methodLink RX8 216 yX8_cornerOf ∈ TB := TB_c4 (List.mem_of_getElem? (i := 120) (by decide +kernel)) rfl
theorem im_X8_cornerOf : Cond.instanceMethod yX8_cornerOf ∈ TB := TB_c4 (List.mem_of_getElem? (i := 122) (by decide +kernel)) rfl
theorem cd_X8_cornerOf : Cond.code yX8_cornerOf cX8_cornerOf 3 (some .int) ∈ TB := TB_c4 (List.mem_of_getElem? (i := 123) rfl) rfl
theorem ml_RX8_220 : Cond.methodLink RX8 220 yX8_glues ∈ TB := TB_c4 (List.mem_of_getElem? (i := 124) (by decide +kernel)) rfl
theorem im_X8_glues : Cond.instanceMethod yX8_glues ∈ TB := TB_c4 (List.mem_of_getElem? (i := 126) (by decide +kernel)) rfl
theorem cd_X8_glues : Cond.code yX8_glues cX8_glues 6 (none) ∈ TB := TB_c4 (List.mem_of_getElem? (i := 127) rfl) rfl
theorem se_X7_canBe : Cond.selects RX7 yX7_canBe yX7_canBe ∈ TB := TB_p (List.mem_of_getElem? (i := 0) (by decide +kernel)) rfl
theorem se_X7_drawWays : Cond.selects RX7 yX7_drawWays yX7_drawWays ∈ TB := TB_p (List.mem_of_getElem? (i := 1) (by decide +kernel)) rfl
theorem se_X6_isLeftOf : Cond.selects RX6 yX6_isLeftOf yX6_isLeftOf ∈ TB := TB_p (List.mem_of_getElem? (i := 2) (by decide +kernel)) rfl
theorem se_X3_isSpentBy : Cond.selects RX3 yX3_isSpentBy yX3_isSpentBy ∈ TB := TB_p (List.mem_of_getElem? (i := 3) (by decide +kernel)) rfl
theorem se_X3_shorten : Cond.selects RX3 yX3_shorten yX3_shorten ∈ TB := TB_p (List.mem_of_getElem? (i := 4) (by decide +kernel)) rfl
theorem se_X3_bringLastBehind : Cond.selects RX3 yX3_bringLastBehind yX3_bringLastBehind ∈ TB := TB_p (List.mem_of_getElem? (i := 5) (by decide +kernel)) rfl
theorem se_X7_followMover : Cond.selects RX7 yX7_followMover yX7_followMover ∈ TB := TB_p (List.mem_of_getElem? (i := 6) (by decide +kernel)) rfl
theorem se_X3_productA : Cond.selects RX3 yX3_productA yX3_productA ∈ TB := TB_p (List.mem_of_getElem? (i := 7) (by decide +kernel)) rfl
theorem se_X3_productB : Cond.selects RX3 yX3_productB yX3_productB ∈ TB := TB_p (List.mem_of_getElem? (i := 8) (by decide +kernel)) rfl
theorem se_X1_drawPieces : Cond.selects RX1 yX1_drawPieces yX1_drawPieces ∈ TB := TB_p (List.mem_of_getElem? (i := 9) (by decide +kernel)) rfl
theorem se_X1_measure : Cond.selects RX1 yX1_measure yX1_measure ∈ TB := TB_p (List.mem_of_getElem? (i := 10) (by decide +kernel)) rfl
theorem se_X1_takeOut : Cond.selects RX1 yX1_takeOut yX1_takeOut ∈ TB := TB_p (List.mem_of_getElem? (i := 11) (by decide +kernel)) rfl
theorem se_X7_beginningsBehind : Cond.selects RX7 yX7_beginningsBehind yX7_beginningsBehind ∈ TB := TB_p (List.mem_of_getElem? (i := 12) (by decide +kernel)) rfl
theorem se_X2_nameByPlaceAbove : Cond.selects RX2 yX2_nameByPlaceAbove yX2_nameByPlaceAbove ∈ TB := TB_p (List.mem_of_getElem? (i := 13) (by decide +kernel)) rfl
theorem se_X2_takeNext : Cond.selects RX2 yX2_takeNext yX2_takeNext ∈ TB := TB_p (List.mem_of_getElem? (i := 14) (by decide +kernel)) rfl
theorem se_X2_rankOfNext : Cond.selects RX2 yX2_rankOfNext yX2_rankOfNext ∈ TB := TB_p (List.mem_of_getElem? (i := 15) (by decide +kernel)) rfl
theorem se_X2_packNext : Cond.selects RX2 yX2_packNext yX2_packNext ∈ TB := TB_p (List.mem_of_getElem? (i := 16) (by decide +kernel)) rfl
theorem se_X2_unpack : Cond.selects RX2 yX2_unpack yX2_unpack ∈ TB := TB_p (List.mem_of_getElem? (i := 17) (by decide +kernel)) rfl
theorem se_X2_letUWin : Cond.selects RX2 yX2_letUWin yX2_letUWin ∈ TB := TB_p (List.mem_of_getElem? (i := 18) (by decide +kernel)) rfl
theorem se_X2_letVWin : Cond.selects RX2 yX2_letVWin yX2_letVWin ∈ TB := TB_p (List.mem_of_getElem? (i := 19) (by decide +kernel)) rfl
theorem se_X0_cornerBelow : Cond.selects RX0 yX0_cornerBelow yX0_cornerBelow ∈ TB := TB_p (List.mem_of_getElem? (i := 20) (by decide +kernel)) rfl
theorem se_X0_join : Cond.selects RX0 yX0_join yX0_join ∈ TB := TB_p (List.mem_of_getElem? (i := 21) (by decide +kernel)) rfl
theorem se_X0_turnsAt : Cond.selects RX0 yX0_turnsAt yX0_turnsAt ∈ TB := TB_p (List.mem_of_getElem? (i := 22) (by decide +kernel)) rfl
theorem se_X8_forgets : Cond.selects RX8 yX8_forgets yX8_forgets ∈ TB := TB_p (List.mem_of_getElem? (i := 23) (by decide +kernel)) rfl
theorem se_X8_signOf : Cond.selects RX8 yX8_signOf yX8_signOf ∈ TB := TB_p (List.mem_of_getElem? (i := 24) (by decide +kernel)) rfl
theorem se_X8_parted : Cond.selects RX8 yX8_parted yX8_parted ∈ TB := TB_p (List.mem_of_getElem? (i := 25) (by decide +kernel)) rfl
theorem se_X8_total : Cond.selects RX8 yX8_total yX8_total ∈ TB := TB_p (List.mem_of_getElem? (i := 26) (by decide +kernel)) rfl
theorem se_X8_isOnLine : Cond.selects RX8 yX8_isOnLine yX8_isOnLine ∈ TB := TB_p (List.mem_of_getElem? (i := 27) (by decide +kernel)) rfl
theorem se_X8_spanAt : Cond.selects RX8 yX8_spanAt yX8_spanAt ∈ TB := TB_p (List.mem_of_getElem? (i := 28) (by decide +kernel)) rfl
theorem se_X8_goes : Cond.selects RX8 yX8_goes yX8_goes ∈ TB := TB_p (List.mem_of_getElem? (i := 29) (by decide +kernel)) rfl
theorem se_X8_begins : Cond.selects RX8 yX8_begins yX8_begins ∈ TB := TB_p (List.mem_of_getElem? (i := 30) (by decide +kernel)) rfl
theorem se_X8_brings : Cond.selects RX8 yX8_brings yX8_brings ∈ TB := TB_p (List.mem_of_getElem? (i := 31) (by decide +kernel)) rfl
theorem se_X8_isLoop : Cond.selects RX8 yX8_isLoop yX8_isLoop ∈ TB := TB_p (List.mem_of_getElem? (i := 32) (by decide +kernel)) rfl
theorem se_X8_isShare : Cond.selects RX8 yX8_isShare yX8_isShare ∈ TB := TB_p (List.mem_of_getElem? (i := 33) (by decide +kernel)) rfl
theorem se_X8_pieces : Cond.selects RX8 yX8_pieces yX8_pieces ∈ TB := TB_p (List.mem_of_getElem? (i := 34) (by decide +kernel)) rfl
theorem se_X8_isJoined : Cond.selects RX8 yX8_isJoined yX8_isJoined ∈ TB := TB_p (List.mem_of_getElem? (i := 35) (by decide +kernel)) rfl
theorem se_X8_numbered : Cond.selects RX8 yX8_numbered yX8_numbered ∈ TB := TB_p (List.mem_of_getElem? (i := 36) (by decide +kernel)) rfl
theorem se_X8_notes : Cond.selects RX8 yX8_notes yX8_notes ∈ TB := TB_p (List.mem_of_getElem? (i := 37) (by decide +kernel)) rfl
theorem se_X8_takes : Cond.selects RX8 yX8_takes yX8_takes ∈ TB := TB_p (List.mem_of_getElem? (i := 38) (by decide +kernel)) rfl
theorem se_X8_placeOf : Cond.selects RX8 yX8_placeOf yX8_placeOf ∈ TB := TB_p (List.mem_of_getElem? (i := 39) (by decide +kernel)) rfl
theorem se_X8_cornerOf : Cond.selects RX8 yX8_cornerOf yX8_cornerOf ∈ TB := TB_p (List.mem_of_getElem? (i := 40) (by decide +kernel)) rfl
theorem se_X8_glues : Cond.selects RX8 yX8_glues yX8_glues ∈ TB := TB_p (List.mem_of_getElem? (i := 41) (by decide +kernel)) rfl
theorem lay_X0 : ∀ w ∈ u_ws RX0 TX0 2, w ∈ TB := by decide +kernel
theorem lay_X1 : ∀ w ∈ u_ws RX1 TX1 6, w ∈ TB := by decide +kernel
theorem lay_X2 : ∀ w ∈ u_ws RX2 TX2 6, w ∈ TB := by decide +kernel
theorem lay_X3 : ∀ w ∈ u_ws RX3 TX3 9, w ∈ TB := by decide +kernel
theorem lay_X4 : ∀ w ∈ u_ws RX4 TX4 4, w ∈ TB := by decide +kernel
theorem lay_X5 : ∀ w ∈ u_ws RX5 TX5 3, w ∈ TB := by decide +kernel
theorem lay_X6 : ∀ w ∈ u_ws RX6 TX6 7, w ∈ TB := by decide +kernel
theorem lay_X7 : ∀ w ∈ u_ws RX7 TX7 11, w ∈ TB := by decide +kernel
theorem lay_X8 : ∀ w ∈ u_ws RX8 TX8 39, w ∈ TB := by decide +kernel
