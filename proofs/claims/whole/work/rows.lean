section
-- ===== PART A: goes FIRST, ahead of the names: the tables' words, and 'selects' of the private methods out of them =====
/-- a private method of a class that the tables say can be made, by its rows of tables_1 -/
def lw_okq (q : MethodName × Nat) : Prop := (q.1.cls ≠ "java/lang/invoke/MethodHandle" ∧ q.1.cls ≠ "java/lang/invoke/VarHandle") ∧ Cond.instantiable q.1.cls q.2 ∈ tables_1 ∧ Cond.privateMethod q.1 ∈ tables_1 ∧ Cond.instanceMethod q.1 ∈ tables_1
theorem lw_p0 : lw_okq (⟨"FoamArms$Tokens", "scanRun", "(LFoamArms$Tape;I)I"⟩, 6) := ⟨⟨by decide +kernel, by decide +kernel⟩, List.mem_of_getElem? (i := 57) (by decide +kernel), List.mem_of_getElem? (i := 391) (by decide +kernel), List.mem_of_getElem? (i := 392) (by decide +kernel)⟩
theorem lw_p1 : lw_okq (⟨"FoamArms$Tokens", "kindOfWord", "(J)I"⟩, 6) := ⟨⟨by decide +kernel, by decide +kernel⟩, List.mem_of_getElem? (i := 57) (by decide +kernel), List.mem_of_getElem? (i := 397) (by decide +kernel), List.mem_of_getElem? (i := 398) (by decide +kernel)⟩
theorem lw_p2 : lw_okq (⟨"FoamArms$Tokens", "add", "(IIJ)V"⟩, 6) := ⟨⟨by decide +kernel, by decide +kernel⟩, List.mem_of_getElem? (i := 57) (by decide +kernel), List.mem_of_getElem? (i := 401) (by decide +kernel), List.mem_of_getElem? (i := 402) (by decide +kernel)⟩
theorem lw_p3 : lw_okq (⟨"FoamArms$BookReader", "isNow", "(I)Z"⟩, 9) := ⟨⟨by decide +kernel, by decide +kernel⟩, List.mem_of_getElem? (i := 51) (by decide +kernel), List.mem_of_getElem? (i := 411) (by decide +kernel), List.mem_of_getElem? (i := 412) (by decide +kernel)⟩
theorem lw_p4 : lw_okq (⟨"FoamArms$BookReader", "readLine", "(LFoamArms$Book;)Z"⟩, 9) := ⟨⟨by decide +kernel, by decide +kernel⟩, List.mem_of_getElem? (i := 51) (by decide +kernel), List.mem_of_getElem? (i := 419) (by decide +kernel), List.mem_of_getElem? (i := 420) (by decide +kernel)⟩
theorem lw_p5 : lw_okq (⟨"FoamArms$BookReader", "readFoam", "(LFoamArms$Book;)Z"⟩, 9) := ⟨⟨by decide +kernel, by decide +kernel⟩, List.mem_of_getElem? (i := 51) (by decide +kernel), List.mem_of_getElem? (i := 423) (by decide +kernel), List.mem_of_getElem? (i := 424) (by decide +kernel)⟩
theorem lw_p6 : lw_okq (⟨"FoamArms$BookReader", "readFirstWord", "(II)Z"⟩, 9) := ⟨⟨by decide +kernel, by decide +kernel⟩, List.mem_of_getElem? (i := 51) (by decide +kernel), List.mem_of_getElem? (i := 427) (by decide +kernel), List.mem_of_getElem? (i := 428) (by decide +kernel)⟩
theorem lw_p7 : lw_okq (⟨"FoamArms$BookReader", "refuse", "(II)Z"⟩, 9) := ⟨⟨by decide +kernel, by decide +kernel⟩, List.mem_of_getElem? (i := 51) (by decide +kernel), List.mem_of_getElem? (i := 431) (by decide +kernel), List.mem_of_getElem? (i := 432) (by decide +kernel)⟩
theorem lw_p8 : lw_okq (⟨"FoamArms$BookReader", "readNewName", "(II)Z"⟩, 9) := ⟨⟨by decide +kernel, by decide +kernel⟩, List.mem_of_getElem? (i := 51) (by decide +kernel), List.mem_of_getElem? (i := 435) (by decide +kernel), List.mem_of_getElem? (i := 436) (by decide +kernel)⟩
theorem lw_p9 : lw_okq (⟨"FoamArms$BookReader", "readToken", "(I)Z"⟩, 9) := ⟨⟨by decide +kernel, by decide +kernel⟩, List.mem_of_getElem? (i := 51) (by decide +kernel), List.mem_of_getElem? (i := 439) (by decide +kernel), List.mem_of_getElem? (i := 440) (by decide +kernel)⟩
theorem lw_p10 : lw_okq (⟨"FoamArms$BookReader", "placeOfName", "(J)I"⟩, 9) := ⟨⟨by decide +kernel, by decide +kernel⟩, List.mem_of_getElem? (i := 51) (by decide +kernel), List.mem_of_getElem? (i := 447) (by decide +kernel), List.mem_of_getElem? (i := 448) (by decide +kernel)⟩
theorem lw_p11 : lw_okq (⟨"FoamArms$BookReader", "readPoint", "(LFoamArms$Foam;)Z"⟩, 9) := ⟨⟨by decide +kernel, by decide +kernel⟩, List.mem_of_getElem? (i := 51) (by decide +kernel), List.mem_of_getElem? (i := 478) (by decide +kernel), List.mem_of_getElem? (i := 479) (by decide +kernel)⟩
theorem lw_p12 : lw_okq (⟨"FoamArms$BookReader", "readNumber", "(II)Z"⟩, 9) := ⟨⟨by decide +kernel, by decide +kernel⟩, List.mem_of_getElem? (i := 51) (by decide +kernel), List.mem_of_getElem? (i := 486) (by decide +kernel), List.mem_of_getElem? (i := 487) (by decide +kernel)⟩
theorem lw_p13 : lw_okq (⟨"FoamArms$BookReader", "readNumberOf", "(III)Z"⟩, 9) := ⟨⟨by decide +kernel, by decide +kernel⟩, List.mem_of_getElem? (i := 51) (by decide +kernel), List.mem_of_getElem? (i := 499) (by decide +kernel), List.mem_of_getElem? (i := 500) (by decide +kernel)⟩
theorem lw_p14 : lw_okq (⟨"FoamArms$BookReader", "readThing", "(LFoamArms$Book;)Z"⟩, 9) := ⟨⟨by decide +kernel, by decide +kernel⟩, List.mem_of_getElem? (i := 51) (by decide +kernel), List.mem_of_getElem? (i := 507) (by decide +kernel), List.mem_of_getElem? (i := 508) (by decide +kernel)⟩
theorem lw_p15 : lw_okq (⟨"FoamArms$BookReader", "readSizesOf", "(I[I)Z"⟩, 9) := ⟨⟨by decide +kernel, by decide +kernel⟩, List.mem_of_getElem? (i := 51) (by decide +kernel), List.mem_of_getElem? (i := 548) (by decide +kernel), List.mem_of_getElem? (i := 549) (by decide +kernel)⟩
def lw_privs_1 : List (MethodName × Nat) := [(⟨"FoamArms$Tokens", "scanRun", "(LFoamArms$Tape;I)I"⟩, 6), (⟨"FoamArms$Tokens", "kindOfWord", "(J)I"⟩, 6), (⟨"FoamArms$Tokens", "add", "(IIJ)V"⟩, 6), (⟨"FoamArms$BookReader", "isNow", "(I)Z"⟩, 9), (⟨"FoamArms$BookReader", "readLine", "(LFoamArms$Book;)Z"⟩, 9), (⟨"FoamArms$BookReader", "readFoam", "(LFoamArms$Book;)Z"⟩, 9), (⟨"FoamArms$BookReader", "readFirstWord", "(II)Z"⟩, 9), (⟨"FoamArms$BookReader", "refuse", "(II)Z"⟩, 9), (⟨"FoamArms$BookReader", "readNewName", "(II)Z"⟩, 9), (⟨"FoamArms$BookReader", "readToken", "(I)Z"⟩, 9), (⟨"FoamArms$BookReader", "placeOfName", "(J)I"⟩, 9), (⟨"FoamArms$BookReader", "readPoint", "(LFoamArms$Foam;)Z"⟩, 9), (⟨"FoamArms$BookReader", "readNumber", "(II)Z"⟩, 9), (⟨"FoamArms$BookReader", "readNumberOf", "(III)Z"⟩, 9), (⟨"FoamArms$BookReader", "readThing", "(LFoamArms$Book;)Z"⟩, 9), (⟨"FoamArms$BookReader", "readSizesOf", "(I[I)Z"⟩, 9)]
theorem lw_r1 : ∀ q ∈ lw_privs_1, lw_okq q := List.forall_mem_cons.mpr ⟨lw_p0, List.forall_mem_cons.mpr ⟨lw_p1, List.forall_mem_cons.mpr ⟨lw_p2, List.forall_mem_cons.mpr ⟨lw_p3, List.forall_mem_cons.mpr ⟨lw_p4, List.forall_mem_cons.mpr ⟨lw_p5, List.forall_mem_cons.mpr ⟨lw_p6, List.forall_mem_cons.mpr ⟨lw_p7, List.forall_mem_cons.mpr ⟨lw_p8, List.forall_mem_cons.mpr ⟨lw_p9, List.forall_mem_cons.mpr ⟨lw_p10, List.forall_mem_cons.mpr ⟨lw_p11, List.forall_mem_cons.mpr ⟨lw_p12, List.forall_mem_cons.mpr ⟨lw_p13, List.forall_mem_cons.mpr ⟨lw_p14, List.forall_mem_cons.mpr ⟨lw_p15, fun _ h => absurd h List.not_mem_nil⟩⟩⟩⟩⟩⟩⟩⟩⟩⟩⟩⟩⟩⟩⟩⟩
theorem lw_p16 : lw_okq (⟨"FoamArms$BookReader", "readBox", "(LFoamArms$Book;)Z"⟩, 9) := ⟨⟨by decide +kernel, by decide +kernel⟩, List.mem_of_getElem? (i := 51) (by decide +kernel), List.mem_of_getElem? (i := 556) (by decide +kernel), List.mem_of_getElem? (i := 557) (by decide +kernel)⟩
theorem lw_p17 : lw_okq (⟨"FoamArms$BookReader", "readPad", "(LFoamArms$Book;)Z"⟩, 9) := ⟨⟨by decide +kernel, by decide +kernel⟩, List.mem_of_getElem? (i := 51) (by decide +kernel), List.mem_of_getElem? (i := 587) (by decide +kernel), List.mem_of_getElem? (i := 588) (by decide +kernel)⟩
theorem lw_p18 : lw_okq (⟨"FoamArms$BookReader", "readToldName", "(I)Z"⟩, 9) := ⟨⟨by decide +kernel, by decide +kernel⟩, List.mem_of_getElem? (i := 51) (by decide +kernel), List.mem_of_getElem? (i := 591) (by decide +kernel), List.mem_of_getElem? (i := 592) (by decide +kernel)⟩
theorem lw_p19 : lw_okq (⟨"FoamArms$BookReader", "readDrop", "(LFoamArms$Book;)Z"⟩, 9) := ⟨⟨by decide +kernel, by decide +kernel⟩, List.mem_of_getElem? (i := 51) (by decide +kernel), List.mem_of_getElem? (i := 614) (by decide +kernel), List.mem_of_getElem? (i := 615) (by decide +kernel)⟩
theorem lw_p20 : lw_okq (⟨"FoamArms", "keepBook", "(LFoamArms$Book;)V"⟩, 12) := ⟨⟨by decide +kernel, by decide +kernel⟩, List.mem_of_getElem? (i := 25) (by decide +kernel), List.mem_of_getElem? (i := 657) (by decide +kernel), List.mem_of_getElem? (i := 658) (by decide +kernel)⟩
theorem lw_p21 : lw_okq (⟨"FoamArms", "asOf", "(I)LFoamArms$Book;"⟩, 12) := ⟨⟨by decide +kernel, by decide +kernel⟩, List.mem_of_getElem? (i := 25) (by decide +kernel), List.mem_of_getElem? (i := 669) (by decide +kernel), List.mem_of_getElem? (i := 670) (by decide +kernel)⟩
theorem lw_p22 : lw_okq (⟨"FoamArms", "putOnPad", "(III)LFoamArms$Thing;"⟩, 12) := ⟨⟨by decide +kernel, by decide +kernel⟩, List.mem_of_getElem? (i := 25) (by decide +kernel), List.mem_of_getElem? (i := 690) (by decide +kernel), List.mem_of_getElem? (i := 691) (by decide +kernel)⟩
theorem lw_p23 : lw_okq (⟨"FoamArms", "timeThatBreaks", "(LFoamArms$Thing;LFoamArms$Drop;)I"⟩, 12) := ⟨⟨by decide +kernel, by decide +kernel⟩, List.mem_of_getElem? (i := 25) (by decide +kernel), List.mem_of_getElem? (i := 768) (by decide +kernel), List.mem_of_getElem? (i := 769) (by decide +kernel)⟩
theorem lw_p24 : lw_okq (⟨"FoamArms", "tapeTellsSpans", "()Z"⟩, 12) := ⟨⟨by decide +kernel, by decide +kernel⟩, List.mem_of_getElem? (i := 25) (by decide +kernel), List.mem_of_getElem? (i := 780) (by decide +kernel), List.mem_of_getElem? (i := 781) (by decide +kernel)⟩
theorem lw_p25 : lw_okq (⟨"FoamArms", "weightsThatHold", "(LFoamArms$Thing;III)I"⟩, 12) := ⟨⟨by decide +kernel, by decide +kernel⟩, List.mem_of_getElem? (i := 25) (by decide +kernel), List.mem_of_getElem? (i := 785) (by decide +kernel), List.mem_of_getElem? (i := 786) (by decide +kernel)⟩
theorem lw_p26 : lw_okq (⟨"FoamArms$Cushion", "isWithin", "(IIJ)Z"⟩, 8) := ⟨⟨by decide +kernel, by decide +kernel⟩, List.mem_of_getElem? (i := 226) (by decide +kernel), List.mem_of_getElem? (i := 799) (by decide +kernel), List.mem_of_getElem? (i := 800) (by decide +kernel)⟩
theorem lw_p27 : lw_okq (⟨"FoamArms", "layKind", "(LFoamArms$Book;II)V"⟩, 12) := ⟨⟨by decide +kernel, by decide +kernel⟩, List.mem_of_getElem? (i := 25) (by decide +kernel), List.mem_of_getElem? (i := 821) (by decide +kernel), List.mem_of_getElem? (i := 822) (by decide +kernel)⟩
theorem lw_p28 : lw_okq (⟨"FoamArms$PadChoice", "choosePair", "(II)I"⟩, 7) := ⟨⟨by decide +kernel, by decide +kernel⟩, List.mem_of_getElem? (i := 258) (by decide +kernel), List.mem_of_getElem? (i := 842) (by decide +kernel), List.mem_of_getElem? (i := 843) (by decide +kernel)⟩
theorem lw_p29 : lw_okq (⟨"FoamArms$Thing", "fits", "(III)Z"⟩, 6) := ⟨⟨by decide +kernel, by decide +kernel⟩, List.mem_of_getElem? (i := 511) (by decide +kernel), List.mem_of_getElem? (i := 865) (by decide +kernel), List.mem_of_getElem? (i := 866) (by decide +kernel)⟩
theorem lw_p30 : lw_okq (⟨"FoamArms$BoxChoice", "costOf", "(I)I"⟩, 5) := ⟨⟨by decide +kernel, by decide +kernel⟩, List.mem_of_getElem? (i := 288) (by decide +kernel), List.mem_of_getElem? (i := 879) (by decide +kernel), List.mem_of_getElem? (i := 880) (by decide +kernel)⟩
theorem lw_p31 : lw_okq (⟨"FoamArms$BoxChoice", "cheapestOf", "(I)I"⟩, 5) := ⟨⟨by decide +kernel, by decide +kernel⟩, List.mem_of_getElem? (i := 288) (by decide +kernel), List.mem_of_getElem? (i := 883) (by decide +kernel), List.mem_of_getElem? (i := 884) (by decide +kernel)⟩
def lw_privs_2 : List (MethodName × Nat) := [(⟨"FoamArms$BookReader", "readBox", "(LFoamArms$Book;)Z"⟩, 9), (⟨"FoamArms$BookReader", "readPad", "(LFoamArms$Book;)Z"⟩, 9), (⟨"FoamArms$BookReader", "readToldName", "(I)Z"⟩, 9), (⟨"FoamArms$BookReader", "readDrop", "(LFoamArms$Book;)Z"⟩, 9), (⟨"FoamArms", "keepBook", "(LFoamArms$Book;)V"⟩, 12), (⟨"FoamArms", "asOf", "(I)LFoamArms$Book;"⟩, 12), (⟨"FoamArms", "putOnPad", "(III)LFoamArms$Thing;"⟩, 12), (⟨"FoamArms", "timeThatBreaks", "(LFoamArms$Thing;LFoamArms$Drop;)I"⟩, 12), (⟨"FoamArms", "tapeTellsSpans", "()Z"⟩, 12), (⟨"FoamArms", "weightsThatHold", "(LFoamArms$Thing;III)I"⟩, 12), (⟨"FoamArms$Cushion", "isWithin", "(IIJ)Z"⟩, 8), (⟨"FoamArms", "layKind", "(LFoamArms$Book;II)V"⟩, 12), (⟨"FoamArms$PadChoice", "choosePair", "(II)I"⟩, 7), (⟨"FoamArms$Thing", "fits", "(III)Z"⟩, 6), (⟨"FoamArms$BoxChoice", "costOf", "(I)I"⟩, 5), (⟨"FoamArms$BoxChoice", "cheapestOf", "(I)I"⟩, 5)]
theorem lw_r2 : ∀ q ∈ lw_privs_2, lw_okq q := List.forall_mem_cons.mpr ⟨lw_p16, List.forall_mem_cons.mpr ⟨lw_p17, List.forall_mem_cons.mpr ⟨lw_p18, List.forall_mem_cons.mpr ⟨lw_p19, List.forall_mem_cons.mpr ⟨lw_p20, List.forall_mem_cons.mpr ⟨lw_p21, List.forall_mem_cons.mpr ⟨lw_p22, List.forall_mem_cons.mpr ⟨lw_p23, List.forall_mem_cons.mpr ⟨lw_p24, List.forall_mem_cons.mpr ⟨lw_p25, List.forall_mem_cons.mpr ⟨lw_p26, List.forall_mem_cons.mpr ⟨lw_p27, List.forall_mem_cons.mpr ⟨lw_p28, List.forall_mem_cons.mpr ⟨lw_p29, List.forall_mem_cons.mpr ⟨lw_p30, List.forall_mem_cons.mpr ⟨lw_p31, fun _ h => absurd h List.not_mem_nil⟩⟩⟩⟩⟩⟩⟩⟩⟩⟩⟩⟩⟩⟩⟩⟩
theorem lw_p32 : lw_okq (⟨"FoamArms", "dayOfFall", "(II)I"⟩, 12) := ⟨⟨by decide +kernel, by decide +kernel⟩, List.mem_of_getElem? (i := 25) (by decide +kernel), List.mem_of_getElem? (i := 896) (by decide +kernel), List.mem_of_getElem? (i := 897) (by decide +kernel)⟩
theorem lw_p33 : lw_okq (⟨"FoamArms", "tapeTellsLegs", "()Z"⟩, 12) := ⟨⟨by decide +kernel, by decide +kernel⟩, List.mem_of_getElem? (i := 25) (by decide +kernel), List.mem_of_getElem? (i := 926) (by decide +kernel), List.mem_of_getElem? (i := 927) (by decide +kernel)⟩
theorem lw_p34 : lw_okq (⟨"FoamArms", "sharesOfLeg", "(I)I"⟩, 12) := ⟨⟨by decide +kernel, by decide +kernel⟩, List.mem_of_getElem? (i := 25) (by decide +kernel), List.mem_of_getElem? (i := 930) (by decide +kernel), List.mem_of_getElem? (i := 931) (by decide +kernel)⟩
theorem lw_p35 : lw_okq (⟨"FoamArms", "shareOfLeg", "(II)I"⟩, 12) := ⟨⟨by decide +kernel, by decide +kernel⟩, List.mem_of_getElem? (i := 25) (by decide +kernel), List.mem_of_getElem? (i := 934) (by decide +kernel), List.mem_of_getElem? (i := 935) (by decide +kernel)⟩
theorem lw_p36 : lw_okq (⟨"FoamArms", "heightOfLeg", "(II)I"⟩, 12) := ⟨⟨by decide +kernel, by decide +kernel⟩, List.mem_of_getElem? (i := 25) (by decide +kernel), List.mem_of_getElem? (i := 938) (by decide +kernel), List.mem_of_getElem? (i := 939) (by decide +kernel)⟩
theorem lw_p37 : lw_okq (⟨"java/lang/Throwable", "fillInStackTrace", "(I)Ljava/lang/Throwable;"⟩, 6) := ⟨⟨by decide +kernel, by decide +kernel⟩, List.mem_of_getElem? (i := 978) (by decide +kernel), List.mem_of_getElem? (i := 976) (by decide +kernel), List.mem_of_getElem? (i := 977) (by decide +kernel)⟩
theorem lw_p38 : lw_okq (⟨"FoamArms", "heldSharesOfLeg", "(LFoamArms$Thing;I)I"⟩, 12) := ⟨⟨by decide +kernel, by decide +kernel⟩, List.mem_of_getElem? (i := 25) (by decide +kernel), List.mem_of_getElem? (i := 1007) (by decide +kernel), List.mem_of_getElem? (i := 1008) (by decide +kernel)⟩
theorem lw_p39 : lw_okq (⟨"FoamArmsModel", "come", "(I)V"⟩, 35) := ⟨⟨by decide +kernel, by decide +kernel⟩, List.mem_of_getElem? (i := 1011) (by decide +kernel), List.mem_of_getElem? (i := 1132) (by decide +kernel), List.mem_of_getElem? (i := 1133) (by decide +kernel)⟩
theorem lw_p40 : lw_okq (⟨"FoamArmsModel", "take", "()I"⟩, 35) := ⟨⟨by decide +kernel, by decide +kernel⟩, List.mem_of_getElem? (i := 1011) (by decide +kernel), List.mem_of_getElem? (i := 1151) (by decide +kernel), List.mem_of_getElem? (i := 1152) (by decide +kernel)⟩
theorem lw_p41 : lw_okq (⟨"FoamArmsModel", "go", "()V"⟩, 35) := ⟨⟨by decide +kernel, by decide +kernel⟩, List.mem_of_getElem? (i := 1011) (by decide +kernel), List.mem_of_getElem? (i := 1158) (by decide +kernel), List.mem_of_getElem? (i := 1159) (by decide +kernel)⟩
theorem lw_p42 : lw_okq (⟨"FoamArmsModel", "byteAt", "(I)I"⟩, 35) := ⟨⟨by decide +kernel, by decide +kernel⟩, List.mem_of_getElem? (i := 1011) (by decide +kernel), List.mem_of_getElem? (i := 1168) (by decide +kernel), List.mem_of_getElem? (i := 1169) (by decide +kernel)⟩
theorem lw_p43 : lw_okq (⟨"FoamArmsModel", "readLine", "()Z"⟩, 35) := ⟨⟨by decide +kernel, by decide +kernel⟩, List.mem_of_getElem? (i := 1011) (by decide +kernel), List.mem_of_getElem? (i := 1174) (by decide +kernel), List.mem_of_getElem? (i := 1175) (by decide +kernel)⟩
theorem lw_p44 : lw_okq (⟨"FoamArmsModel", "isFoam", "()Z"⟩, 35) := ⟨⟨by decide +kernel, by decide +kernel⟩, List.mem_of_getElem? (i := 1011) (by decide +kernel), List.mem_of_getElem? (i := 1178) (by decide +kernel), List.mem_of_getElem? (i := 1179) (by decide +kernel)⟩
theorem lw_p45 : lw_okq (⟨"FoamArmsModel", "isKey", "(J)Z"⟩, 35) := ⟨⟨by decide +kernel, by decide +kernel⟩, List.mem_of_getElem? (i := 1011) (by decide +kernel), List.mem_of_getElem? (i := 1185) (by decide +kernel), List.mem_of_getElem? (i := 1186) (by decide +kernel)⟩
theorem lw_p46 : lw_okq (⟨"FoamArmsModel", "readFoam", "()Z"⟩, 35) := ⟨⟨by decide +kernel, by decide +kernel⟩, List.mem_of_getElem? (i := 1011) (by decide +kernel), List.mem_of_getElem? (i := 1189) (by decide +kernel), List.mem_of_getElem? (i := 1190) (by decide +kernel)⟩
theorem lw_p47 : lw_okq (⟨"FoamArmsModel", "bad", "(I)Z"⟩, 35) := ⟨⟨by decide +kernel, by decide +kernel⟩, List.mem_of_getElem? (i := 1011) (by decide +kernel), List.mem_of_getElem? (i := 1193) (by decide +kernel), List.mem_of_getElem? (i := 1194) (by decide +kernel)⟩
def lw_privs_3 : List (MethodName × Nat) := [(⟨"FoamArms", "dayOfFall", "(II)I"⟩, 12), (⟨"FoamArms", "tapeTellsLegs", "()Z"⟩, 12), (⟨"FoamArms", "sharesOfLeg", "(I)I"⟩, 12), (⟨"FoamArms", "shareOfLeg", "(II)I"⟩, 12), (⟨"FoamArms", "heightOfLeg", "(II)I"⟩, 12), (⟨"java/lang/Throwable", "fillInStackTrace", "(I)Ljava/lang/Throwable;"⟩, 6), (⟨"FoamArms", "heldSharesOfLeg", "(LFoamArms$Thing;I)I"⟩, 12), (⟨"FoamArmsModel", "come", "(I)V"⟩, 35), (⟨"FoamArmsModel", "take", "()I"⟩, 35), (⟨"FoamArmsModel", "go", "()V"⟩, 35), (⟨"FoamArmsModel", "byteAt", "(I)I"⟩, 35), (⟨"FoamArmsModel", "readLine", "()Z"⟩, 35), (⟨"FoamArmsModel", "isFoam", "()Z"⟩, 35), (⟨"FoamArmsModel", "isKey", "(J)Z"⟩, 35), (⟨"FoamArmsModel", "readFoam", "()Z"⟩, 35), (⟨"FoamArmsModel", "bad", "(I)Z"⟩, 35)]
theorem lw_r3 : ∀ q ∈ lw_privs_3, lw_okq q := List.forall_mem_cons.mpr ⟨lw_p32, List.forall_mem_cons.mpr ⟨lw_p33, List.forall_mem_cons.mpr ⟨lw_p34, List.forall_mem_cons.mpr ⟨lw_p35, List.forall_mem_cons.mpr ⟨lw_p36, List.forall_mem_cons.mpr ⟨lw_p37, List.forall_mem_cons.mpr ⟨lw_p38, List.forall_mem_cons.mpr ⟨lw_p39, List.forall_mem_cons.mpr ⟨lw_p40, List.forall_mem_cons.mpr ⟨lw_p41, List.forall_mem_cons.mpr ⟨lw_p42, List.forall_mem_cons.mpr ⟨lw_p43, List.forall_mem_cons.mpr ⟨lw_p44, List.forall_mem_cons.mpr ⟨lw_p45, List.forall_mem_cons.mpr ⟨lw_p46, List.forall_mem_cons.mpr ⟨lw_p47, fun _ h => absurd h List.not_mem_nil⟩⟩⟩⟩⟩⟩⟩⟩⟩⟩⟩⟩⟩⟩⟩⟩
theorem lw_p48 : lw_okq (⟨"FoamArmsModel", "readName", "(I)Z"⟩, 35) := ⟨⟨by decide +kernel, by decide +kernel⟩, List.mem_of_getElem? (i := 1011) (by decide +kernel), List.mem_of_getElem? (i := 1197) (by decide +kernel), List.mem_of_getElem? (i := 1198) (by decide +kernel)⟩
theorem lw_p49 : lw_okq (⟨"FoamArmsModel", "isTaken", "()Z"⟩, 35) := ⟨⟨by decide +kernel, by decide +kernel⟩, List.mem_of_getElem? (i := 1011) (by decide +kernel), List.mem_of_getElem? (i := 1201) (by decide +kernel), List.mem_of_getElem? (i := 1202) (by decide +kernel)⟩
theorem lw_p50 : lw_okq (⟨"FoamArmsModel", "isThing", "()Z"⟩, 35) := ⟨⟨by decide +kernel, by decide +kernel⟩, List.mem_of_getElem? (i := 1011) (by decide +kernel), List.mem_of_getElem? (i := 1205) (by decide +kernel), List.mem_of_getElem? (i := 1206) (by decide +kernel)⟩
theorem lw_p51 : lw_okq (⟨"FoamArmsModel", "isBox", "()Z"⟩, 35) := ⟨⟨by decide +kernel, by decide +kernel⟩, List.mem_of_getElem? (i := 1011) (by decide +kernel), List.mem_of_getElem? (i := 1209) (by decide +kernel), List.mem_of_getElem? (i := 1210) (by decide +kernel)⟩
theorem lw_p52 : lw_okq (⟨"FoamArmsModel", "isPad", "()Z"⟩, 35) := ⟨⟨by decide +kernel, by decide +kernel⟩, List.mem_of_getElem? (i := 1011) (by decide +kernel), List.mem_of_getElem? (i := 1213) (by decide +kernel), List.mem_of_getElem? (i := 1214) (by decide +kernel)⟩
theorem lw_p53 : lw_okq (⟨"FoamArmsModel", "isDrop", "()Z"⟩, 35) := ⟨⟨by decide +kernel, by decide +kernel⟩, List.mem_of_getElem? (i := 1011) (by decide +kernel), List.mem_of_getElem? (i := 1217) (by decide +kernel), List.mem_of_getElem? (i := 1218) (by decide +kernel)⟩
theorem lw_p54 : lw_okq (⟨"FoamArmsModel", "find", "(I)I"⟩, 35) := ⟨⟨by decide +kernel, by decide +kernel⟩, List.mem_of_getElem? (i := 1011) (by decide +kernel), List.mem_of_getElem? (i := 1225) (by decide +kernel), List.mem_of_getElem? (i := 1226) (by decide +kernel)⟩
theorem lw_p55 : lw_okq (⟨"FoamArmsModel", "readPoint", "(II)Z"⟩, 35) := ⟨⟨by decide +kernel, by decide +kernel⟩, List.mem_of_getElem? (i := 1011) (by decide +kernel), List.mem_of_getElem? (i := 1229) (by decide +kernel), List.mem_of_getElem? (i := 1230) (by decide +kernel)⟩
theorem lw_p56 : lw_okq (⟨"FoamArmsModel", "readNumber", "(II)Z"⟩, 35) := ⟨⟨by decide +kernel, by decide +kernel⟩, List.mem_of_getElem? (i := 1011) (by decide +kernel), List.mem_of_getElem? (i := 1233) (by decide +kernel), List.mem_of_getElem? (i := 1234) (by decide +kernel)⟩
theorem lw_p57 : lw_okq (⟨"FoamArmsModel", "readInto", "(III)Z"⟩, 35) := ⟨⟨by decide +kernel, by decide +kernel⟩, List.mem_of_getElem? (i := 1011) (by decide +kernel), List.mem_of_getElem? (i := 1237) (by decide +kernel), List.mem_of_getElem? (i := 1238) (by decide +kernel)⟩
theorem lw_p58 : lw_okq (⟨"FoamArmsModel", "isSign", "(I)Z"⟩, 35) := ⟨⟨by decide +kernel, by decide +kernel⟩, List.mem_of_getElem? (i := 1011) (by decide +kernel), List.mem_of_getElem? (i := 1241) (by decide +kernel), List.mem_of_getElem? (i := 1242) (by decide +kernel)⟩
theorem lw_p59 : lw_okq (⟨"FoamArmsModel", "readKey", "(J)Z"⟩, 35) := ⟨⟨by decide +kernel, by decide +kernel⟩, List.mem_of_getElem? (i := 1011) (by decide +kernel), List.mem_of_getElem? (i := 1246) (by decide +kernel), List.mem_of_getElem? (i := 1247) (by decide +kernel)⟩
theorem lw_p60 : lw_okq (⟨"FoamArmsModel", "readThing", "()Z"⟩, 35) := ⟨⟨by decide +kernel, by decide +kernel⟩, List.mem_of_getElem? (i := 1011) (by decide +kernel), List.mem_of_getElem? (i := 1250) (by decide +kernel), List.mem_of_getElem? (i := 1251) (by decide +kernel)⟩
theorem lw_p61 : lw_okq (⟨"FoamArmsModel", "readBox", "()Z"⟩, 35) := ⟨⟨by decide +kernel, by decide +kernel⟩, List.mem_of_getElem? (i := 1011) (by decide +kernel), List.mem_of_getElem? (i := 1254) (by decide +kernel), List.mem_of_getElem? (i := 1255) (by decide +kernel)⟩
theorem lw_p62 : lw_okq (⟨"FoamArmsModel", "readPad", "()Z"⟩, 35) := ⟨⟨by decide +kernel, by decide +kernel⟩, List.mem_of_getElem? (i := 1011) (by decide +kernel), List.mem_of_getElem? (i := 1258) (by decide +kernel), List.mem_of_getElem? (i := 1259) (by decide +kernel)⟩
theorem lw_p63 : lw_okq (⟨"FoamArmsModel", "readTold", "(I)Z"⟩, 35) := ⟨⟨by decide +kernel, by decide +kernel⟩, List.mem_of_getElem? (i := 1011) (by decide +kernel), List.mem_of_getElem? (i := 1262) (by decide +kernel), List.mem_of_getElem? (i := 1263) (by decide +kernel)⟩
def lw_privs_4 : List (MethodName × Nat) := [(⟨"FoamArmsModel", "readName", "(I)Z"⟩, 35), (⟨"FoamArmsModel", "isTaken", "()Z"⟩, 35), (⟨"FoamArmsModel", "isThing", "()Z"⟩, 35), (⟨"FoamArmsModel", "isBox", "()Z"⟩, 35), (⟨"FoamArmsModel", "isPad", "()Z"⟩, 35), (⟨"FoamArmsModel", "isDrop", "()Z"⟩, 35), (⟨"FoamArmsModel", "find", "(I)I"⟩, 35), (⟨"FoamArmsModel", "readPoint", "(II)Z"⟩, 35), (⟨"FoamArmsModel", "readNumber", "(II)Z"⟩, 35), (⟨"FoamArmsModel", "readInto", "(III)Z"⟩, 35), (⟨"FoamArmsModel", "isSign", "(I)Z"⟩, 35), (⟨"FoamArmsModel", "readKey", "(J)Z"⟩, 35), (⟨"FoamArmsModel", "readThing", "()Z"⟩, 35), (⟨"FoamArmsModel", "readBox", "()Z"⟩, 35), (⟨"FoamArmsModel", "readPad", "()Z"⟩, 35), (⟨"FoamArmsModel", "readTold", "(I)Z"⟩, 35)]
theorem lw_r4 : ∀ q ∈ lw_privs_4, lw_okq q := List.forall_mem_cons.mpr ⟨lw_p48, List.forall_mem_cons.mpr ⟨lw_p49, List.forall_mem_cons.mpr ⟨lw_p50, List.forall_mem_cons.mpr ⟨lw_p51, List.forall_mem_cons.mpr ⟨lw_p52, List.forall_mem_cons.mpr ⟨lw_p53, List.forall_mem_cons.mpr ⟨lw_p54, List.forall_mem_cons.mpr ⟨lw_p55, List.forall_mem_cons.mpr ⟨lw_p56, List.forall_mem_cons.mpr ⟨lw_p57, List.forall_mem_cons.mpr ⟨lw_p58, List.forall_mem_cons.mpr ⟨lw_p59, List.forall_mem_cons.mpr ⟨lw_p60, List.forall_mem_cons.mpr ⟨lw_p61, List.forall_mem_cons.mpr ⟨lw_p62, List.forall_mem_cons.mpr ⟨lw_p63, fun _ h => absurd h List.not_mem_nil⟩⟩⟩⟩⟩⟩⟩⟩⟩⟩⟩⟩⟩⟩⟩⟩
theorem lw_p64 : lw_okq (⟨"FoamArmsModel", "readDrop", "()Z"⟩, 35) := ⟨⟨by decide +kernel, by decide +kernel⟩, List.mem_of_getElem? (i := 1011) (by decide +kernel), List.mem_of_getElem? (i := 1266) (by decide +kernel), List.mem_of_getElem? (i := 1267) (by decide +kernel)⟩
theorem lw_p65 : lw_okq (⟨"FoamArmsModel", "isBooked", "(I)Z"⟩, 35) := ⟨⟨by decide +kernel, by decide +kernel⟩, List.mem_of_getElem? (i := 1011) (by decide +kernel), List.mem_of_getElem? (i := 1278) (by decide +kernel), List.mem_of_getElem? (i := 1279) (by decide +kernel)⟩
theorem lw_p66 : lw_okq (⟨"FoamArmsModel", "of", "(I)I"⟩, 35) := ⟨⟨by decide +kernel, by decide +kernel⟩, List.mem_of_getElem? (i := 1011) (by decide +kernel), List.mem_of_getElem? (i := 1282) (by decide +kernel), List.mem_of_getElem? (i := 1283) (by decide +kernel)⟩
theorem lw_p67 : lw_okq (⟨"FoamArmsModel", "has", "(III)Z"⟩, 35) := ⟨⟨by decide +kernel, by decide +kernel⟩, List.mem_of_getElem? (i := 1011) (by decide +kernel), List.mem_of_getElem? (i := 1290) (by decide +kernel), List.mem_of_getElem? (i := 1291) (by decide +kernel)⟩
theorem lw_p68 : lw_okq (⟨"FoamArmsModel", "lay", "(II)V"⟩, 35) := ⟨⟨by decide +kernel, by decide +kernel⟩, List.mem_of_getElem? (i := 1011) (by decide +kernel), List.mem_of_getElem? (i := 1294) (by decide +kernel), List.mem_of_getElem? (i := 1295) (by decide +kernel)⟩
theorem lw_p69 : lw_okq (⟨"FoamArmsModel", "isDropped", "(IIII)Z"⟩, 35) := ⟨⟨by decide +kernel, by decide +kernel⟩, List.mem_of_getElem? (i := 1011) (by decide +kernel), List.mem_of_getElem? (i := 1302) (by decide +kernel), List.mem_of_getElem? (i := 1303) (by decide +kernel)⟩
theorem lw_p70 : lw_okq (⟨"FoamArmsModel", "takePad", "(II)Z"⟩, 35) := ⟨⟨by decide +kernel, by decide +kernel⟩, List.mem_of_getElem? (i := 1011) (by decide +kernel), List.mem_of_getElem? (i := 1306) (by decide +kernel), List.mem_of_getElem? (i := 1307) (by decide +kernel)⟩
theorem lw_p71 : lw_okq (⟨"FoamArmsModel", "weightOf", "(I)I"⟩, 35) := ⟨⟨by decide +kernel, by decide +kernel⟩, List.mem_of_getElem? (i := 1011) (by decide +kernel), List.mem_of_getElem? (i := 1310) (by decide +kernel), List.mem_of_getElem? (i := 1311) (by decide +kernel)⟩
theorem lw_p72 : lw_okq (⟨"FoamArmsModel", "squeezed", "(JJJJ)I"⟩, 35) := ⟨⟨by decide +kernel, by decide +kernel⟩, List.mem_of_getElem? (i := 1011) (by decide +kernel), List.mem_of_getElem? (i := 1314) (by decide +kernel), List.mem_of_getElem? (i := 1315) (by decide +kernel)⟩
theorem lw_p73 : lw_okq (⟨"FoamArmsModel", "blowAt", "(IJJ)I"⟩, 35) := ⟨⟨by decide +kernel, by decide +kernel⟩, List.mem_of_getElem? (i := 1011) (by decide +kernel), List.mem_of_getElem? (i := 1325) (by decide +kernel), List.mem_of_getElem? (i := 1326) (by decide +kernel)⟩
theorem lw_p74 : lw_okq (⟨"FoamArmsModel", "markOf", "(I)I"⟩, 35) := ⟨⟨by decide +kernel, by decide +kernel⟩, List.mem_of_getElem? (i := 1011) (by decide +kernel), List.mem_of_getElem? (i := 1336) (by decide +kernel), List.mem_of_getElem? (i := 1337) (by decide +kernel)⟩
theorem lw_p75 : lw_okq (⟨"FoamArmsModel", "holds", "(III)Z"⟩, 35) := ⟨⟨by decide +kernel, by decide +kernel⟩, List.mem_of_getElem? (i := 1011) (by decide +kernel), List.mem_of_getElem? (i := 1340) (by decide +kernel), List.mem_of_getElem? (i := 1341) (by decide +kernel)⟩
theorem lw_p76 : lw_okq (⟨"FoamArmsModel", "keepsOf", "(I)I"⟩, 35) := ⟨⟨by decide +kernel, by decide +kernel⟩, List.mem_of_getElem? (i := 1011) (by decide +kernel), List.mem_of_getElem? (i := 1344) (by decide +kernel), List.mem_of_getElem? (i := 1345) (by decide +kernel)⟩
theorem lw_p77 : lw_okq (⟨"FoamArmsModel", "above", "(II)I"⟩, 35) := ⟨⟨by decide +kernel, by decide +kernel⟩, List.mem_of_getElem? (i := 1011) (by decide +kernel), List.mem_of_getElem? (i := 1368) (by decide +kernel), List.mem_of_getElem? (i := 1369) (by decide +kernel)⟩
theorem lw_p78 : lw_okq (⟨"FoamArmsModel", "costOf", "(II)I"⟩, 35) := ⟨⟨by decide +kernel, by decide +kernel⟩, List.mem_of_getElem? (i := 1011) (by decide +kernel), List.mem_of_getElem? (i := 1384) (by decide +kernel), List.mem_of_getElem? (i := 1385) (by decide +kernel)⟩
theorem lw_p79 : lw_okq (⟨"FoamArmsModel", "goesInto", "(III)Z"⟩, 35) := ⟨⟨by decide +kernel, by decide +kernel⟩, List.mem_of_getElem? (i := 1011) (by decide +kernel), List.mem_of_getElem? (i := 1388) (by decide +kernel), List.mem_of_getElem? (i := 1389) (by decide +kernel)⟩
def lw_privs_5 : List (MethodName × Nat) := [(⟨"FoamArmsModel", "readDrop", "()Z"⟩, 35), (⟨"FoamArmsModel", "isBooked", "(I)Z"⟩, 35), (⟨"FoamArmsModel", "of", "(I)I"⟩, 35), (⟨"FoamArmsModel", "has", "(III)Z"⟩, 35), (⟨"FoamArmsModel", "lay", "(II)V"⟩, 35), (⟨"FoamArmsModel", "isDropped", "(IIII)Z"⟩, 35), (⟨"FoamArmsModel", "takePad", "(II)Z"⟩, 35), (⟨"FoamArmsModel", "weightOf", "(I)I"⟩, 35), (⟨"FoamArmsModel", "squeezed", "(JJJJ)I"⟩, 35), (⟨"FoamArmsModel", "blowAt", "(IJJ)I"⟩, 35), (⟨"FoamArmsModel", "markOf", "(I)I"⟩, 35), (⟨"FoamArmsModel", "holds", "(III)Z"⟩, 35), (⟨"FoamArmsModel", "keepsOf", "(I)I"⟩, 35), (⟨"FoamArmsModel", "above", "(II)I"⟩, 35), (⟨"FoamArmsModel", "costOf", "(II)I"⟩, 35), (⟨"FoamArmsModel", "goesInto", "(III)Z"⟩, 35)]
theorem lw_r5 : ∀ q ∈ lw_privs_5, lw_okq q := List.forall_mem_cons.mpr ⟨lw_p64, List.forall_mem_cons.mpr ⟨lw_p65, List.forall_mem_cons.mpr ⟨lw_p66, List.forall_mem_cons.mpr ⟨lw_p67, List.forall_mem_cons.mpr ⟨lw_p68, List.forall_mem_cons.mpr ⟨lw_p69, List.forall_mem_cons.mpr ⟨lw_p70, List.forall_mem_cons.mpr ⟨lw_p71, List.forall_mem_cons.mpr ⟨lw_p72, List.forall_mem_cons.mpr ⟨lw_p73, List.forall_mem_cons.mpr ⟨lw_p74, List.forall_mem_cons.mpr ⟨lw_p75, List.forall_mem_cons.mpr ⟨lw_p76, List.forall_mem_cons.mpr ⟨lw_p77, List.forall_mem_cons.mpr ⟨lw_p78, List.forall_mem_cons.mpr ⟨lw_p79, fun _ h => absurd h List.not_mem_nil⟩⟩⟩⟩⟩⟩⟩⟩⟩⟩⟩⟩⟩⟩⟩⟩
theorem lw_p80 : lw_okq (⟨"FoamArmsModel", "fits", "(IIII)Z"⟩, 35) := ⟨⟨by decide +kernel, by decide +kernel⟩, List.mem_of_getElem? (i := 1011) (by decide +kernel), List.mem_of_getElem? (i := 1392) (by decide +kernel), List.mem_of_getElem? (i := 1393) (by decide +kernel)⟩
theorem lw_p81 : lw_okq (⟨"FoamArmsModel", "heightAt", "(II)I"⟩, 35) := ⟨⟨by decide +kernel, by decide +kernel⟩, List.mem_of_getElem? (i := 1011) (by decide +kernel), List.mem_of_getElem? (i := 1408) (by decide +kernel), List.mem_of_getElem? (i := 1409) (by decide +kernel)⟩
def lw_privs_6 : List (MethodName × Nat) := [(⟨"FoamArmsModel", "fits", "(IIII)Z"⟩, 35), (⟨"FoamArmsModel", "heightAt", "(II)I"⟩, 35)]
theorem lw_r6 : ∀ q ∈ lw_privs_6, lw_okq q := List.forall_mem_cons.mpr ⟨lw_p80, List.forall_mem_cons.mpr ⟨lw_p81, fun _ h => absurd h List.not_mem_nil⟩⟩
def lw_privs : List (MethodName × Nat) := lw_privs_1 ++ (lw_privs_2 ++ (lw_privs_3 ++ (lw_privs_4 ++ (lw_privs_5 ++ (lw_privs_6)))))
def lw_tbl : List Cond := k2_sels lw_privs ++ tables_1
theorem lw_privs_ok : ∀ q ∈ lw_privs, lw_okq q := by
  show ∀ q ∈ lw_privs_1 ++ (lw_privs_2 ++ (lw_privs_3 ++ (lw_privs_4 ++ (lw_privs_5 ++ (lw_privs_6))))), lw_okq q
  exact List.forall_mem_append.mpr ⟨lw_r1, List.forall_mem_append.mpr ⟨lw_r2, List.forall_mem_append.mpr ⟨lw_r3, List.forall_mem_append.mpr ⟨lw_r4, List.forall_mem_append.mpr ⟨lw_r5, lw_r6⟩⟩⟩⟩⟩
end
section
def RX0 : String := "FoamArms$Book"
def TX0 : u_T := fun k => match k with
  | 0 => ("FoamArms$Book", "foams", "[LFoamArms$Foam;", true)
  | 1 => ("FoamArms$Book", "things", "[LFoamArms$Thing;", true)
  | 2 => ("FoamArms$Book", "boxed", "[LFoamArms$Box;", true)
  | 3 => ("FoamArms$Book", "drops", "[LFoamArms$Drop;", true)
  | 4 => ("FoamArms$Book", "foamCount", "I", false)
  | 5 => ("FoamArms$Book", "thingCount", "I", false)
  | 6 => ("FoamArms$Book", "boxCount", "I", false)
  | 7 => ("FoamArms$Book", "dropCount", "I", false)
  | 8 => ("FoamArms$Book", "lines", "I", false)
  | _ => ("FoamArms$Book", "day", "I", false)
def tyX0 : Nat → FieldType := fun k => match k with
  | 0 => .array (.object "FoamArms$Foam")
  | 1 => .array (.object "FoamArms$Thing")
  | 2 => .array (.object "FoamArms$Box")
  | 3 => .array (.object "FoamArms$Drop")
  | 4 => .int
  | 5 => .int
  | 6 => .int
  | 7 => .int
  | 8 => .int
  | _ => .int
abbrev wsX00 : List Cond := u_ws RX0 TX0 10
theorem nmX0 : ∀ a, a < 10 → ∀ b, b < 10 → a ≠ b → (TX0 a).2.1 ≠ (TX0 b).2.1 := by decide +kernel
theorem tyX0_ok : ∀ k, k < 10 → parseFieldDescriptor (TX0 k).2.2.1 = some (tyX0 k) := by decide +kernel
abbrev cX0_init : ByteArray := prog_2_method_1_code
def yX0_init : MethodName := ⟨RX0, "<init>", "()V"⟩
abbrev cX0_foamAt : ByteArray := prog_2_method_2_code
def yX0_foamAt : MethodName := ⟨RX0, "foamAt", "(I)LFoamArms$Foam;"⟩
abbrev cX0_thingAt : ByteArray := prog_2_method_3_code
def yX0_thingAt : MethodName := ⟨RX0, "thingAt", "(I)LFoamArms$Thing;"⟩
abbrev cX0_boxAt : ByteArray := prog_2_method_4_code
def yX0_boxAt : MethodName := ⟨RX0, "boxAt", "(I)LFoamArms$Box;"⟩
abbrev cX0_dropAt : ByteArray := prog_2_method_5_code
def yX0_dropAt : MethodName := ⟨RX0, "dropAt", "(I)LFoamArms$Drop;"⟩
abbrev cX0_addFoam : ByteArray := prog_2_method_6_code
def yX0_addFoam : MethodName := ⟨RX0, "addFoam", "(LFoamArms$Foam;)V"⟩
abbrev cX0_addThing : ByteArray := prog_2_method_7_code
def yX0_addThing : MethodName := ⟨RX0, "addThing", "(LFoamArms$Thing;)V"⟩
abbrev cX0_addBox : ByteArray := prog_2_method_8_code
def yX0_addBox : MethodName := ⟨RX0, "addBox", "(LFoamArms$Box;)V"⟩
abbrev cX0_addDrop : ByteArray := prog_2_method_9_code
def yX0_addDrop : MethodName := ⟨RX0, "addDrop", "(LFoamArms$Drop;)V"⟩
def RX1 : String := "FoamArms$BookReader"
def TX1 : u_T := fun k => match k with
  | 0 => ("FoamArms$BookReader", "tokens", "LFoamArms$Tokens;", true)
  | 1 => ("FoamArms$BookReader", "names", "[J", true)
  | 2 => ("FoamArms$BookReader", "nameKinds", "[I", true)
  | 3 => ("FoamArms$BookReader", "nameNumbers", "[I", true)
  | 4 => ("FoamArms$BookReader", "nameCount", "I", false)
  | 5 => ("FoamArms$BookReader", "at", "I", false)
  | 6 => ("FoamArms$BookReader", "value", "I", false)
  | 7 => ("FoamArms$BookReader", "faultToken", "I", false)
  | _ => ("FoamArms$BookReader", "faultKind", "I", false)
def tyX1 : Nat → FieldType := fun k => match k with
  | 0 => .object "FoamArms$Tokens"
  | 1 => .array .long
  | 2 => .array .int
  | 3 => .array .int
  | 4 => .int
  | 5 => .int
  | 6 => .int
  | 7 => .int
  | _ => .int
abbrev wsX10 : List Cond := u_ws RX1 TX1 9
theorem nmX1 : ∀ a, a < 9 → ∀ b, b < 9 → a ≠ b → (TX1 a).2.1 ≠ (TX1 b).2.1 := by decide +kernel
theorem tyX1_ok : ∀ k, k < 9 → parseFieldDescriptor (TX1 k).2.2.1 = some (tyX1 k) := by decide +kernel
abbrev cX1_init : ByteArray := prog_3_method_1_code
def yX1_init : MethodName := ⟨RX1, "<init>", "()V"⟩
abbrev cX1_readBook : ByteArray := prog_3_method_2_code
def yX1_readBook : MethodName := ⟨RX1, "readBook", "(LFoamArms$Tape;)LFoamArms$Book;"⟩
abbrev cX1_placeOfFault : ByteArray := prog_3_method_3_code
def yX1_placeOfFault : MethodName := ⟨RX1, "placeOfFault", "()I"⟩
abbrev cX1_refuse : ByteArray := prog_3_method_4_code
def yX1_refuse : MethodName := ⟨RX1, "refuse", "(II)Z"⟩
abbrev cX1_isNow : ByteArray := prog_3_method_5_code
def yX1_isNow : MethodName := ⟨RX1, "isNow", "(I)Z"⟩
abbrev cX1_readLine : ByteArray := prog_3_method_6_code
def yX1_readLine : MethodName := ⟨RX1, "readLine", "(LFoamArms$Book;)Z"⟩
abbrev cX1_readFoam : ByteArray := prog_3_method_7_code
def yX1_readFoam : MethodName := ⟨RX1, "readFoam", "(LFoamArms$Book;)Z"⟩
abbrev cX1_readPoint : ByteArray := prog_3_method_8_code
def yX1_readPoint : MethodName := ⟨RX1, "readPoint", "(LFoamArms$Foam;)Z"⟩
abbrev cX1_readThing : ByteArray := prog_3_method_9_code
def yX1_readThing : MethodName := ⟨RX1, "readThing", "(LFoamArms$Book;)Z"⟩
abbrev cX1_readBox : ByteArray := prog_3_method_10_code
def yX1_readBox : MethodName := ⟨RX1, "readBox", "(LFoamArms$Book;)Z"⟩
abbrev cX1_readPad : ByteArray := prog_3_method_11_code
def yX1_readPad : MethodName := ⟨RX1, "readPad", "(LFoamArms$Book;)Z"⟩
abbrev cX1_readDrop : ByteArray := prog_3_method_12_code
def yX1_readDrop : MethodName := ⟨RX1, "readDrop", "(LFoamArms$Book;)Z"⟩
abbrev cX1_readFirstWord : ByteArray := prog_3_method_13_code
def yX1_readFirstWord : MethodName := ⟨RX1, "readFirstWord", "(II)Z"⟩
abbrev cX1_readNewName : ByteArray := prog_3_method_14_code
def yX1_readNewName : MethodName := ⟨RX1, "readNewName", "(II)Z"⟩
abbrev cX1_readToldName : ByteArray := prog_3_method_15_code
def yX1_readToldName : MethodName := ⟨RX1, "readToldName", "(I)Z"⟩
abbrev cX1_placeOfName : ByteArray := prog_3_method_16_code
def yX1_placeOfName : MethodName := ⟨RX1, "placeOfName", "(J)I"⟩
abbrev cX1_readSizesOf : ByteArray := prog_3_method_17_code
def yX1_readSizesOf : MethodName := ⟨RX1, "readSizesOf", "(I[I)Z"⟩
abbrev cX1_readNumberOf : ByteArray := prog_3_method_18_code
def yX1_readNumberOf : MethodName := ⟨RX1, "readNumberOf", "(III)Z"⟩
abbrev cX1_readNumber : ByteArray := prog_3_method_19_code
def yX1_readNumber : MethodName := ⟨RX1, "readNumber", "(II)Z"⟩
abbrev cX1_readToken : ByteArray := prog_3_method_20_code
def yX1_readToken : MethodName := ⟨RX1, "readToken", "(I)Z"⟩
def RX2 : String := "FoamArms$Box"
def TX2 : u_T := fun k => match k with
  | 0 => ("FoamArms$Box", "room", "[I", true)
  | 1 => ("FoamArms$Box", "price", "I", false)
  | _ => ("FoamArms$Box", "bears", "I", false)
def tyX2 : Nat → FieldType := fun k => match k with
  | 0 => .array .int
  | 1 => .int
  | _ => .int
abbrev wsX20 : List Cond := u_ws RX2 TX2 3
theorem nmX2 : ∀ a, a < 3 → ∀ b, b < 3 → a ≠ b → (TX2 a).2.1 ≠ (TX2 b).2.1 := by decide +kernel
theorem tyX2_ok : ∀ k, k < 3 → parseFieldDescriptor (TX2 k).2.2.1 = some (tyX2 k) := by decide +kernel
abbrev cX2_init : ByteArray := prog_4_method_1_code
def yX2_init : MethodName := ⟨RX2, "<init>", "()V"⟩
def RX3 : String := "FoamArms$BoxChoice"
def TX3 : u_T := fun k => match k with
  | 0 => ("FoamArms$BoxChoice", "fitting", "[I", true)
  | 1 => ("FoamArms$BoxChoice", "prices", "[I", true)
  | 2 => ("FoamArms$BoxChoice", "thingCount", "I", false)
  | 3 => ("FoamArms$BoxChoice", "boxCount", "I", false)
  | _ => ("FoamArms$BoxChoice", "latestSet", "I", false)
def tyX3 : Nat → FieldType := fun k => match k with
  | 0 => .array .int
  | 1 => .array .int
  | 2 => .int
  | 3 => .int
  | _ => .int
abbrev wsX30 : List Cond := u_ws RX3 TX3 5
theorem nmX3 : ∀ a, a < 5 → ∀ b, b < 5 → a ≠ b → (TX3 a).2.1 ≠ (TX3 b).2.1 := by decide +kernel
theorem tyX3_ok : ∀ k, k < 5 → parseFieldDescriptor (TX3 k).2.2.1 = some (tyX3 k) := by decide +kernel
abbrev cX3_init : ByteArray := prog_5_method_1_code
def yX3_init : MethodName := ⟨RX3, "<init>", "()V"⟩
abbrev cX3_take : ByteArray := prog_5_method_2_code
def yX3_take : MethodName := ⟨RX3, "take", "(LFoamArms$Book;I)V"⟩
abbrev cX3_choose : ByteArray := prog_5_method_3_code
def yX3_choose : MethodName := ⟨RX3, "choose", "(I)I"⟩
abbrev cX3_costOf : ByteArray := prog_5_method_4_code
def yX3_costOf : MethodName := ⟨RX3, "costOf", "(I)I"⟩
abbrev cX3_cheapestOf : ByteArray := prog_5_method_5_code
def yX3_cheapestOf : MethodName := ⟨RX3, "cheapestOf", "(I)I"⟩
def RX4 : String := "FoamArms$Cushion"
def TX4 : u_T := fun k => match k with
  | 0 => ("FoamArms$Cushion", "fresh", "[I", true)
  | 1 => ("FoamArms$Cushion", "pushes", "[I", true)
  | 2 => ("FoamArms$Cushion", "stored", "[J", true)
  | 3 => ("FoamArms$Cushion", "last", "I", false)
  | 4 => ("FoamArms$Cushion", "thick", "J", false)
  | 5 => ("FoamArms$Cushion", "area", "J", false)
  | 6 => ("FoamArms$Cushion", "keeps", "I", false)
  | _ => ("FoamArms$Cushion", "kept", "I", false)
def tyX4 : Nat → FieldType := fun k => match k with
  | 0 => .array .int
  | 1 => .array .int
  | 2 => .array .long
  | 3 => .int
  | 4 => .long
  | 5 => .long
  | 6 => .int
  | _ => .int
abbrev wsX40 : List Cond := u_ws RX4 TX4 8
theorem nmX4 : ∀ a, a < 8 → ∀ b, b < 8 → a ≠ b → (TX4 a).2.1 ≠ (TX4 b).2.1 := by decide +kernel
theorem tyX4_ok : ∀ k, k < 8 → parseFieldDescriptor (TX4 k).2.2.1 = some (tyX4 k) := by decide +kernel
abbrev cX4_init : ByteArray := prog_6_method_1_code
def yX4_init : MethodName := ⟨RX4, "<init>", "()V"⟩
abbrev cX4_layPad : ByteArray := prog_6_method_2_code
def yX4_layPad : MethodName := ⟨RX4, "layPad", "(LFoamArms$Thing;I)V"⟩
abbrev cX4_layFoam : ByteArray := prog_6_method_3_code
def yX4_layFoam : MethodName := ⟨RX4, "layFoam", "(LFoamArms$Foam;II)V"⟩
abbrev cX4_wearTo : ByteArray := prog_6_method_4_code
def yX4_wearTo : MethodName := ⟨RX4, "wearTo", "(I)V"⟩
abbrev cX4_wearByBlow : ByteArray := prog_6_method_5_code
def yX4_wearByBlow : MethodName := ⟨RX4, "wearByBlow", "()V"⟩
abbrev cX4_squeezeOf : ByteArray := prog_6_method_6_code
def yX4_squeezeOf : MethodName := ⟨RX4, "squeezeOf", "(III)I"⟩
abbrev cX4_blowOf : ByteArray := prog_6_method_7_code
def yX4_blowOf : MethodName := ⟨RX4, "blowOf", "(II)I"⟩
abbrev cX4_blowAt : ByteArray := prog_6_method_8_code
def yX4_blowAt : MethodName := ⟨RX4, "blowAt", "(II)I"⟩
abbrev cX4_holds : ByteArray := prog_6_method_9_code
def yX4_holds : MethodName := ⟨RX4, "holds", "(LFoamArms$Thing;I)Z"⟩
abbrev cX4_greatestHeight : ByteArray := prog_6_method_10_code
def yX4_greatestHeight : MethodName := ⟨RX4, "greatestHeight", "(IJ)I"⟩
abbrev cX4_isWithin : ByteArray := prog_6_method_11_code
def yX4_isWithin : MethodName := ⟨RX4, "isWithin", "(IIJ)Z"⟩
def RX5 : String := "FoamArms$Drop"
def TX5 : u_T := fun k => match k with
  | 0 => ("FoamArms$Drop", "thing", "I", false)
  | 1 => ("FoamArms$Drop", "side", "I", false)
  | 2 => ("FoamArms$Drop", "height", "I", false)
  | _ => ("FoamArms$Drop", "times", "I", false)
def tyX5 : Nat → FieldType := fun k => match k with
  | 0 => .int
  | 1 => .int
  | 2 => .int
  | _ => .int
abbrev wsX50 : List Cond := u_ws RX5 TX5 4
theorem nmX5 : ∀ a, a < 4 → ∀ b, b < 4 → a ≠ b → (TX5 a).2.1 ≠ (TX5 b).2.1 := by decide +kernel
theorem tyX5_ok : ∀ k, k < 4 → parseFieldDescriptor (TX5 k).2.2.1 = some (tyX5 k) := by decide +kernel
abbrev cX5_init : ByteArray := prog_7_method_1_code
def yX5_init : MethodName := ⟨RX5, "<init>", "()V"⟩
def RX6 : String := "FoamArms$Foam"
def TX6 : u_T := fun k => match k with
  | 0 => ("FoamArms$Foam", "percents", "[I", true)
  | 1 => ("FoamArms$Foam", "pushes", "[I", true)
  | 2 => ("FoamArms$Foam", "points", "I", false)
  | 3 => ("FoamArms$Foam", "keeps", "I", false)
  | _ => ("FoamArms$Foam", "price", "I", false)
def tyX6 : Nat → FieldType := fun k => match k with
  | 0 => .array .int
  | 1 => .array .int
  | 2 => .int
  | 3 => .int
  | _ => .int
abbrev wsX60 : List Cond := u_ws RX6 TX6 5
theorem nmX6 : ∀ a, a < 5 → ∀ b, b < 5 → a ≠ b → (TX6 a).2.1 ≠ (TX6 b).2.1 := by decide +kernel
theorem tyX6_ok : ∀ k, k < 5 → parseFieldDescriptor (TX6 k).2.2.1 = some (tyX6 k) := by decide +kernel
abbrev cX6_init : ByteArray := prog_8_method_1_code
def yX6_init : MethodName := ⟨RX6, "<init>", "()V"⟩
abbrev cX6_addPoint : ByteArray := prog_8_method_2_code
def yX6_addPoint : MethodName := ⟨RX6, "addPoint", "(II)V"⟩
abbrev cX6_leastPercent : ByteArray := prog_8_method_3_code
def yX6_leastPercent : MethodName := ⟨RX6, "leastPercent", "()I"⟩
abbrev cX6_leastPush : ByteArray := prog_8_method_4_code
def yX6_leastPush : MethodName := ⟨RX6, "leastPush", "()I"⟩
abbrev cX6_lastPercent : ByteArray := prog_8_method_5_code
def yX6_lastPercent : MethodName := ⟨RX6, "lastPercent", "()I"⟩
abbrev cX6_pushAt : ByteArray := prog_8_method_6_code
def yX6_pushAt : MethodName := ⟨RX6, "pushAt", "(I)I"⟩
def RX7 : String := "FoamArms$PadChoice"
def TX7 : u_T := fun k => match k with
  | 0 => ("FoamArms$PadChoice", "foams", "[I", true)
  | 1 => ("FoamArms$PadChoice", "thicks", "[I", true)
  | 2 => ("FoamArms$PadChoice", "prices", "[I", true)
  | 3 => ("FoamArms$PadChoice", "costs", "[I", true)
  | 4 => ("FoamArms$PadChoice", "chosen", "[I", true)
  | 5 => ("FoamArms$PadChoice", "latest", "[I", true)
  | _ => ("FoamArms$PadChoice", "kinds", "I", false)
def tyX7 : Nat → FieldType := fun k => match k with
  | 0 => .array .int
  | 1 => .array .int
  | 2 => .array .int
  | 3 => .array .int
  | 4 => .array .int
  | 5 => .array .int
  | _ => .int
abbrev wsX70 : List Cond := u_ws RX7 TX7 7
theorem nmX7 : ∀ a, a < 7 → ∀ b, b < 7 → a ≠ b → (TX7 a).2.1 ≠ (TX7 b).2.1 := by decide +kernel
theorem tyX7_ok : ∀ k, k < 7 → parseFieldDescriptor (TX7 k).2.2.1 = some (tyX7 k) := by decide +kernel
abbrev cX7_init : ByteArray := prog_9_method_1_code
def yX7_init : MethodName := ⟨RX7, "<init>", "()V"⟩
abbrev cX7_readKinds : ByteArray := prog_9_method_2_code
def yX7_readKinds : MethodName := ⟨RX7, "readKinds", "(LFoamArms$Tape;LFoamArms$Book;)Z"⟩
abbrev cX7_foamOf : ByteArray := prog_9_method_3_code
def yX7_foamOf : MethodName := ⟨RX7, "foamOf", "(I)I"⟩
abbrev cX7_thickOf : ByteArray := prog_9_method_4_code
def yX7_thickOf : MethodName := ⟨RX7, "thickOf", "(I)I"⟩
abbrev cX7_judge : ByteArray := prog_9_method_5_code
def yX7_judge : MethodName := ⟨RX7, "judge", "(IIZ)V"⟩
abbrev cX7_choose : ByteArray := prog_9_method_6_code
def yX7_choose : MethodName := ⟨RX7, "choose", "(LFoamArms$Thing;LFoamArms$Box;)I"⟩
abbrev cX7_choosePair : ByteArray := prog_9_method_7_code
def yX7_choosePair : MethodName := ⟨RX7, "choosePair", "(II)I"⟩
def RX8 : String := "FoamArms$Tape"
def TX8 : u_T := fun k => match k with
  | 0 => ("FoamArms$Tape", "bytes", "[B", true)
  | _ => ("FoamArms$Tape", "length", "I", false)
def tyX8 : Nat → FieldType := fun k => match k with
  | 0 => .array .byte
  | _ => .int
abbrev wsX80 : List Cond := u_ws RX8 TX8 2
theorem nmX8 : ∀ a, a < 2 → ∀ b, b < 2 → a ≠ b → (TX8 a).2.1 ≠ (TX8 b).2.1 := by decide +kernel
theorem tyX8_ok : ∀ k, k < 2 → parseFieldDescriptor (TX8 k).2.2.1 = some (tyX8 k) := by decide +kernel
abbrev cX8_init : ByteArray := prog_10_method_1_code
def yX8_init : MethodName := ⟨RX8, "<init>", "()V"⟩
abbrev cX8_add : ByteArray := prog_10_method_2_code
def yX8_add : MethodName := ⟨RX8, "add", "(I)V"⟩
abbrev cX8_byteAt : ByteArray := prog_10_method_3_code
def yX8_byteAt : MethodName := ⟨RX8, "byteAt", "(I)I"⟩
def RX9 : String := "FoamArms$Thing"
def TX9 : u_T := fun k => match k with
  | 0 => ("FoamArms$Thing", "sizes", "[I", true)
  | 1 => ("FoamArms$Thing", "padFoams", "[LFoamArms$Foam;", true)
  | 2 => ("FoamArms$Thing", "padThicks", "[I", true)
  | 3 => ("FoamArms$Thing", "padAreas", "[I", true)
  | 4 => ("FoamArms$Thing", "weight", "I", false)
  | _ => ("FoamArms$Thing", "mark", "I", false)
def tyX9 : Nat → FieldType := fun k => match k with
  | 0 => .array .int
  | 1 => .array (.object "FoamArms$Foam")
  | 2 => .array .int
  | 3 => .array .int
  | 4 => .int
  | _ => .int
abbrev wsX90 : List Cond := u_ws RX9 TX9 6
theorem nmX9 : ∀ a, a < 6 → ∀ b, b < 6 → a ≠ b → (TX9 a).2.1 ≠ (TX9 b).2.1 := by decide +kernel
theorem tyX9_ok : ∀ k, k < 6 → parseFieldDescriptor (TX9 k).2.2.1 = some (tyX9 k) := by decide +kernel
abbrev cX9_init : ByteArray := prog_11_method_1_code
def yX9_init : MethodName := ⟨RX9, "<init>", "()V"⟩
abbrev cX9_foamOn : ByteArray := prog_11_method_2_code
def yX9_foamOn : MethodName := ⟨RX9, "foamOn", "(I)LFoamArms$Foam;"⟩
abbrev cX9_putPad : ByteArray := prog_11_method_3_code
def yX9_putPad : MethodName := ⟨RX9, "putPad", "(ILFoamArms$Foam;II)V"⟩
abbrev cX9_goesInto : ByteArray := prog_11_method_4_code
def yX9_goesInto : MethodName := ⟨RX9, "goesInto", "(LFoamArms$Box;I)Z"⟩
abbrev cX9_fits : ByteArray := prog_11_method_5_code
def yX9_fits : MethodName := ⟨RX9, "fits", "(III)Z"⟩
def RX10 : String := "FoamArms$Tokens"
def TX10 : u_T := fun k => match k with
  | 0 => ("FoamArms$Tokens", "reserved", "[J", true)
  | 1 => ("FoamArms$Tokens", "kinds", "[I", true)
  | 2 => ("FoamArms$Tokens", "places", "[I", true)
  | 3 => ("FoamArms$Tokens", "values", "[J", true)
  | 4 => ("FoamArms$Tokens", "length", "I", false)
  | _ => ("FoamArms$Tokens", "endPlace", "I", false)
def tyX10 : Nat → FieldType := fun k => match k with
  | 0 => .array .long
  | 1 => .array .int
  | 2 => .array .int
  | 3 => .array .long
  | 4 => .int
  | _ => .int
abbrev wsX100 : List Cond := u_ws RX10 TX10 6
theorem nmX10 : ∀ a, a < 6 → ∀ b, b < 6 → a ≠ b → (TX10 a).2.1 ≠ (TX10 b).2.1 := by decide +kernel
theorem tyX10_ok : ∀ k, k < 6 → parseFieldDescriptor (TX10 k).2.2.1 = some (tyX10 k) := by decide +kernel
abbrev cX10_init : ByteArray := prog_12_method_1_code
def yX10_init : MethodName := ⟨RX10, "<init>", "()V"⟩
abbrev cX10_scan : ByteArray := prog_12_method_2_code
def yX10_scan : MethodName := ⟨RX10, "scan", "(LFoamArms$Tape;)V"⟩
abbrev cX10_kindAt : ByteArray := prog_12_method_3_code
def yX10_kindAt : MethodName := ⟨RX10, "kindAt", "(I)I"⟩
abbrev cX10_placeAt : ByteArray := prog_12_method_4_code
def yX10_placeAt : MethodName := ⟨RX10, "placeAt", "(I)I"⟩
abbrev cX10_valueAt : ByteArray := prog_12_method_5_code
def yX10_valueAt : MethodName := ⟨RX10, "valueAt", "(I)J"⟩
abbrev cX10_add : ByteArray := prog_12_method_6_code
def yX10_add : MethodName := ⟨RX10, "add", "(IIJ)V"⟩
abbrev cX10_scanRun : ByteArray := prog_12_method_7_code
def yX10_scanRun : MethodName := ⟨RX10, "scanRun", "(LFoamArms$Tape;I)I"⟩
abbrev cX10_kindOfWord : ByteArray := prog_12_method_8_code
def yX10_kindOfWord : MethodName := ⟨RX10, "kindOfWord", "(J)I"⟩
abbrev cX10_kindOfSign : ByteArray := prog_12_method_9_code
def yX10_kindOfSign : MethodName := ⟨RX10, "kindOfSign", "(I)I"⟩
abbrev cX10_withLetter : ByteArray := prog_12_method_10_code
def yX10_withLetter : MethodName := ⟨RX10, "withLetter", "(JI)J"⟩
abbrev cX10_isBlank : ByteArray := prog_12_method_11_code
def yX10_isBlank : MethodName := ⟨RX10, "isBlank", "(I)Z"⟩
abbrev cX10_isLetter : ByteArray := prog_12_method_12_code
def yX10_isLetter : MethodName := ⟨RX10, "isLetter", "(I)Z"⟩
abbrev cX10_isDigit : ByteArray := prog_12_method_13_code
def yX10_isDigit : MethodName := ⟨RX10, "isDigit", "(I)Z"⟩
def RX11 : String := "FoamArms"
def TX11 : u_T := fun k => match k with
  | 0 => ("FoamArms", "tape", "LFoamArms$Tape;", true)
  | 1 => ("FoamArms", "reader", "LFoamArms$BookReader;", true)
  | 2 => ("FoamArms", "books", "[LFoamArms$Book;", true)
  | 3 => ("FoamArms", "emptyBook", "LFoamArms$Book;", true)
  | 4 => ("FoamArms", "cushion", "LFoamArms$Cushion;", true)
  | 5 => ("FoamArms", "padChoice", "LFoamArms$PadChoice;", true)
  | 6 => ("FoamArms", "boxChoice", "LFoamArms$BoxChoice;", true)
  | 7 => ("FoamArms", "keptOnSide", "[I", true)
  | 8 => ("FoamArms", "bookCount", "I", false)
  | 9 => ("FoamArms", "today", "I", false)
  | 10 => ("FoamArms", "faultKind", "I", false)
  | _ => ("FoamArms", "brokenTime", "I", false)
def tyX11 : Nat → FieldType := fun k => match k with
  | 0 => .object "FoamArms$Tape"
  | 1 => .object "FoamArms$BookReader"
  | 2 => .array (.object "FoamArms$Book")
  | 3 => .object "FoamArms$Book"
  | 4 => .object "FoamArms$Cushion"
  | 5 => .object "FoamArms$PadChoice"
  | 6 => .object "FoamArms$BoxChoice"
  | 7 => .array .int
  | 8 => .int
  | 9 => .int
  | 10 => .int
  | _ => .int
abbrev wsX110 : List Cond := u_ws RX11 TX11 12
theorem nmX11 : ∀ a, a < 12 → ∀ b, b < 12 → a ≠ b → (TX11 a).2.1 ≠ (TX11 b).2.1 := by decide +kernel
theorem tyX11_ok : ∀ k, k < 12 → parseFieldDescriptor (TX11 k).2.2.1 = some (tyX11 k) := by decide +kernel
abbrev cX11_init : ByteArray := prog_1_method_1_code
def yX11_init : MethodName := ⟨RX11, "<init>", "()V"⟩
abbrev cX11_feed : ByteArray := prog_1_method_2_code
def yX11_feed : MethodName := ⟨RX11, "feed", "(IIIII)I"⟩
abbrev cX11_end : ByteArray := prog_1_method_3_code
def yX11_end : MethodName := ⟨RX11, "end", "(I)Z"⟩
abbrev cX11_next : ByteArray := prog_1_method_4_code
def yX11_next : MethodName := ⟨RX11, "next", "(I)I"⟩
abbrev cX11_book : ByteArray := prog_1_method_5_code
def yX11_book : MethodName := ⟨RX11, "book", "()I"⟩
abbrev cX11_fault : ByteArray := prog_1_method_6_code
def yX11_fault : MethodName := ⟨RX11, "fault", "()I"⟩
abbrev cX11_many : ByteArray := prog_1_method_7_code
def yX11_many : MethodName := ⟨RX11, "many", "(II)I"⟩
abbrev cX11_push : ByteArray := prog_1_method_8_code
def yX11_push : MethodName := ⟨RX11, "push", "(IIII)I"⟩
abbrev cX11_squeeze : ByteArray := prog_1_method_9_code
def yX11_squeeze : MethodName := ⟨RX11, "squeeze", "(IIIII)I"⟩
abbrev cX11_blow : ByteArray := prog_1_method_10_code
def yX11_blow : MethodName := ⟨RX11, "blow", "(IIIII)I"⟩
abbrev cX11_again : ByteArray := prog_1_method_11_code
def yX11_again : MethodName := ⟨RX11, "again", "(IIII)I"⟩
abbrev cX11_breaks : ByteArray := prog_1_method_12_code
def yX11_breaks : MethodName := ⟨RX11, "breaks", "(II)I"⟩
abbrev cX11_breaksAt : ByteArray := prog_1_method_13_code
def yX11_breaksAt : MethodName := ⟨RX11, "breaksAt", "()I"⟩
abbrev cX11_spans : ByteArray := prog_1_method_14_code
def yX11_spans : MethodName := ⟨RX11, "spans", "(IIII)I"⟩
abbrev cX11_highest : ByteArray := prog_1_method_15_code
def yX11_highest : MethodName := ⟨RX11, "highest", "(III)I"⟩
abbrev cX11_recorded : ByteArray := prog_1_method_16_code
def yX11_recorded : MethodName := ⟨RX11, "recorded", "(IIIIII)I"⟩
abbrev cX11_pads : ByteArray := prog_1_method_17_code
def yX11_pads : MethodName := ⟨RX11, "pads", "(IIIII)I"⟩
abbrev cX11_padAt : ByteArray := prog_1_method_18_code
def yX11_padAt : MethodName := ⟨RX11, "padAt", "(I)I"⟩
abbrev cX11_boxes : ByteArray := prog_1_method_19_code
def yX11_boxes : MethodName := ⟨RX11, "boxes", "(III)I"⟩
abbrev cX11_boxSet : ByteArray := prog_1_method_20_code
def yX11_boxSet : MethodName := ⟨RX11, "boxSet", "()I"⟩
abbrev cX11_stack : ByteArray := prog_1_method_21_code
def yX11_stack : MethodName := ⟨RX11, "stack", "(IIII)I"⟩
abbrev cX11_journey : ByteArray := prog_1_method_22_code
def yX11_journey : MethodName := ⟨RX11, "journey", "(II)J"⟩
abbrev cX11_proved : ByteArray := prog_1_method_23_code
def yX11_proved : MethodName := ⟨RX11, "proved", "(II)I"⟩
abbrev cX11_needed : ByteArray := prog_1_method_24_code
def yX11_needed : MethodName := ⟨RX11, "needed", "(II)I"⟩
abbrev cX11_count : ByteArray := prog_1_method_25_code
def yX11_count : MethodName := ⟨RX11, "count", "(I)I"⟩
abbrev cX11_isSide : ByteArray := prog_1_method_26_code
def yX11_isSide : MethodName := ⟨RX11, "isSide", "(I)Z"⟩
abbrev cX11_isHeight : ByteArray := prog_1_method_27_code
def yX11_isHeight : MethodName := ⟨RX11, "isHeight", "(I)Z"⟩
abbrev cX11_isKept : ByteArray := prog_1_method_28_code
def yX11_isKept : MethodName := ⟨RX11, "isKept", "(I)Z"⟩
abbrev cX11_power : ByteArray := prog_1_method_29_code
def yX11_power : MethodName := ⟨RX11, "power", "(JI)J"⟩
abbrev cX11_keepBook : ByteArray := prog_1_method_30_code
def yX11_keepBook : MethodName := ⟨RX11, "keepBook", "(LFoamArms$Book;)V"⟩
abbrev cX11_asOf : ByteArray := prog_1_method_31_code
def yX11_asOf : MethodName := ⟨RX11, "asOf", "(I)LFoamArms$Book;"⟩
abbrev cX11_putOnPad : ByteArray := prog_1_method_32_code
def yX11_putOnPad : MethodName := ⟨RX11, "putOnPad", "(III)LFoamArms$Thing;"⟩
abbrev cX11_timeThatBreaks : ByteArray := prog_1_method_33_code
def yX11_timeThatBreaks : MethodName := ⟨RX11, "timeThatBreaks", "(LFoamArms$Thing;LFoamArms$Drop;)I"⟩
abbrev cX11_tapeTellsSpans : ByteArray := prog_1_method_34_code
def yX11_tapeTellsSpans : MethodName := ⟨RX11, "tapeTellsSpans", "()Z"⟩
abbrev cX11_weightsThatHold : ByteArray := prog_1_method_35_code
def yX11_weightsThatHold : MethodName := ⟨RX11, "weightsThatHold", "(LFoamArms$Thing;III)I"⟩
abbrev cX11_layKind : ByteArray := prog_1_method_36_code
def yX11_layKind : MethodName := ⟨RX11, "layKind", "(LFoamArms$Book;II)V"⟩
abbrev cX11_dayOfFall : ByteArray := prog_1_method_37_code
def yX11_dayOfFall : MethodName := ⟨RX11, "dayOfFall", "(II)I"⟩
abbrev cX11_tapeTellsLegs : ByteArray := prog_1_method_38_code
def yX11_tapeTellsLegs : MethodName := ⟨RX11, "tapeTellsLegs", "()Z"⟩
abbrev cX11_heightOfLeg : ByteArray := prog_1_method_39_code
def yX11_heightOfLeg : MethodName := ⟨RX11, "heightOfLeg", "(II)I"⟩
abbrev cX11_shareOfLeg : ByteArray := prog_1_method_40_code
def yX11_shareOfLeg : MethodName := ⟨RX11, "shareOfLeg", "(II)I"⟩
abbrev cX11_sharesOfLeg : ByteArray := prog_1_method_41_code
def yX11_sharesOfLeg : MethodName := ⟨RX11, "sharesOfLeg", "(I)I"⟩
abbrev cX11_heldSharesOfLeg : ByteArray := prog_1_method_42_code
def yX11_heldSharesOfLeg : MethodName := ⟨RX11, "heldSharesOfLeg", "(LFoamArms$Thing;I)I"⟩
def RX12 : String := "FoamArmsModel"
def TX12 : u_T := fun k => match k with
  | 0 => ("FoamArmsModel", "thrown", "I", false)
  | 1 => ("FoamArmsModel", "tape", "[I", true)
  | 2 => ("FoamArmsModel", "book", "[I", true)
  | 3 => ("FoamArmsModel", "dayOf", "[I", true)
  | 4 => ("FoamArmsModel", "taped", "I", false)
  | 5 => ("FoamArmsModel", "today", "I", false)
  | 6 => ("FoamArmsModel", "books", "I", false)
  | 7 => ("FoamArmsModel", "size", "I", false)
  | 8 => ("FoamArmsModel", "to", "I", false)
  | 9 => ("FoamArmsModel", "from", "I", false)
  | 10 => ("FoamArmsModel", "kind", "I", false)
  | 11 => ("FoamArmsModel", "number", "I", false)
  | 12 => ("FoamArmsModel", "sign", "I", false)
  | 13 => ("FoamArmsModel", "fault", "I", false)
  | 14 => ("FoamArmsModel", "place", "I", false)
  | 15 => ("FoamArmsModel", "word", "J", false)
  | 16 => ("FoamArmsModel", "told", "I", false)
  | 17 => ("FoamArmsModel", "names", "[J", true)
  | 18 => ("FoamArmsModel", "now", "I", false)
  | 19 => ("FoamArmsModel", "curve", "[I", true)
  | 20 => ("FoamArmsModel", "stored", "[J", true)
  | 21 => ("FoamArmsModel", "last", "I", false)
  | 22 => ("FoamArmsModel", "padFoam", "I", false)
  | 23 => ("FoamArmsModel", "thick", "I", false)
  | 24 => ("FoamArmsModel", "area", "I", false)
  | 25 => ("FoamArmsModel", "brokeAt", "I", false)
  | 26 => ("FoamArmsModel", "keptOf", "[I", true)
  | 27 => ("FoamArmsModel", "kindFoam", "[I", true)
  | 28 => ("FoamArmsModel", "kindThick", "[I", true)
  | 29 => ("FoamArmsModel", "kindCost", "[I", true)
  | 30 => ("FoamArmsModel", "padKind", "[I", true)
  | 31 => ("FoamArmsModel", "tryKind", "[I", true)
  | 32 => ("FoamArmsModel", "kindHolds", "[Z", true)
  | 33 => ("FoamArmsModel", "isPadded", "Z", false)
  | _ => ("FoamArmsModel", "boxSet", "I", false)
def tyX12 : Nat → FieldType := fun k => match k with
  | 0 => .int
  | 1 => .array .int
  | 2 => .array .int
  | 3 => .array .int
  | 4 => .int
  | 5 => .int
  | 6 => .int
  | 7 => .int
  | 8 => .int
  | 9 => .int
  | 10 => .int
  | 11 => .int
  | 12 => .int
  | 13 => .int
  | 14 => .int
  | 15 => .long
  | 16 => .int
  | 17 => .array .long
  | 18 => .int
  | 19 => .array .int
  | 20 => .array .long
  | 21 => .int
  | 22 => .int
  | 23 => .int
  | 24 => .int
  | 25 => .int
  | 26 => .array .int
  | 27 => .array .int
  | 28 => .array .int
  | 29 => .array .int
  | 30 => .array .int
  | 31 => .array .int
  | 32 => .array .boolean
  | 33 => .boolean
  | _ => .int
abbrev wsX120 : List Cond := u_ws RX12 TX12 35
theorem nmX12 : ∀ a, a < 35 → ∀ b, b < 35 → a ≠ b → (TX12 a).2.1 ≠ (TX12 b).2.1 := by decide +kernel
theorem tyX12_ok : ∀ k, k < 35 → parseFieldDescriptor (TX12 k).2.2.1 = some (tyX12 k) := by decide +kernel
abbrev cX12_init : ByteArray := prog_14_method_1_code
def yX12_init : MethodName := ⟨RX12, "<init>", "()V"⟩
abbrev cX12_thrown : ByteArray := prog_14_method_2_code
def yX12_thrown : MethodName := ⟨RX12, "thrown", "()I"⟩
abbrev cX12_come : ByteArray := prog_14_method_3_code
def yX12_come : MethodName := ⟨RX12, "come", "(I)V"⟩
abbrev cX12_feed : ByteArray := prog_14_method_4_code
def yX12_feed : MethodName := ⟨RX12, "feed", "(IIIII)I"⟩
abbrev cX12_end : ByteArray := prog_14_method_5_code
def yX12_end : MethodName := ⟨RX12, "end", "(I)Z"⟩
abbrev cX12_take : ByteArray := prog_14_method_6_code
def yX12_take : MethodName := ⟨RX12, "take", "()I"⟩
abbrev cX12_isIn : ByteArray := prog_14_method_7_code
def yX12_isIn : MethodName := ⟨RX12, "isIn", "(III)Z"⟩
abbrev cX12_next : ByteArray := prog_14_method_8_code
def yX12_next : MethodName := ⟨RX12, "next", "(I)I"⟩
abbrev cX12_byteAt : ByteArray := prog_14_method_9_code
def yX12_byteAt : MethodName := ⟨RX12, "byteAt", "(I)I"⟩
abbrev cX12_isDigit : ByteArray := prog_14_method_10_code
def yX12_isDigit : MethodName := ⟨RX12, "isDigit", "(I)Z"⟩
abbrev cX12_isLetter : ByteArray := prog_14_method_11_code
def yX12_isLetter : MethodName := ⟨RX12, "isLetter", "(I)Z"⟩
abbrev cX12_go : ByteArray := prog_14_method_12_code
def yX12_go : MethodName := ⟨RX12, "go", "()V"⟩
abbrev cX12_spelt : ByteArray := prog_14_method_13_code
def yX12_spelt : MethodName := ⟨RX12, "spelt", "(IIIII)J"⟩
abbrev cX12_isKey : ByteArray := prog_14_method_14_code
def yX12_isKey : MethodName := ⟨RX12, "isKey", "(J)Z"⟩
abbrev cX12_isFoam : ByteArray := prog_14_method_15_code
def yX12_isFoam : MethodName := ⟨RX12, "isFoam", "()Z"⟩
abbrev cX12_isThing : ByteArray := prog_14_method_16_code
def yX12_isThing : MethodName := ⟨RX12, "isThing", "()Z"⟩
abbrev cX12_isBox : ByteArray := prog_14_method_17_code
def yX12_isBox : MethodName := ⟨RX12, "isBox", "()Z"⟩
abbrev cX12_isPad : ByteArray := prog_14_method_18_code
def yX12_isPad : MethodName := ⟨RX12, "isPad", "()Z"⟩
abbrev cX12_isDrop : ByteArray := prog_14_method_19_code
def yX12_isDrop : MethodName := ⟨RX12, "isDrop", "()Z"⟩
abbrev cX12_weighs : ByteArray := prog_14_method_20_code
def yX12_weighs : MethodName := ⟨RX12, "weighs", "()J"⟩
abbrev cX12_isTaken : ByteArray := prog_14_method_21_code
def yX12_isTaken : MethodName := ⟨RX12, "isTaken", "()Z"⟩
abbrev cX12_bad : ByteArray := prog_14_method_22_code
def yX12_bad : MethodName := ⟨RX12, "bad", "(I)Z"⟩
abbrev cX12_isSign : ByteArray := prog_14_method_23_code
def yX12_isSign : MethodName := ⟨RX12, "isSign", "(I)Z"⟩
abbrev cX12_readKey : ByteArray := prog_14_method_24_code
def yX12_readKey : MethodName := ⟨RX12, "readKey", "(J)Z"⟩
abbrev cX12_readNumber : ByteArray := prog_14_method_25_code
def yX12_readNumber : MethodName := ⟨RX12, "readNumber", "(II)Z"⟩
abbrev cX12_at : ByteArray := prog_14_method_26_code
def yX12_at : MethodName := ⟨RX12, "at", "(I)I"⟩
abbrev cX12_find : ByteArray := prog_14_method_27_code
def yX12_find : MethodName := ⟨RX12, "find", "(I)I"⟩
abbrev cX12_readName : ByteArray := prog_14_method_28_code
def yX12_readName : MethodName := ⟨RX12, "readName", "(I)Z"⟩
abbrev cX12_readTold : ByteArray := prog_14_method_29_code
def yX12_readTold : MethodName := ⟨RX12, "readTold", "(I)Z"⟩
abbrev cX12_readInto : ByteArray := prog_14_method_30_code
def yX12_readInto : MethodName := ⟨RX12, "readInto", "(III)Z"⟩
abbrev cX12_readPoint : ByteArray := prog_14_method_31_code
def yX12_readPoint : MethodName := ⟨RX12, "readPoint", "(II)Z"⟩
abbrev cX12_readFoam : ByteArray := prog_14_method_32_code
def yX12_readFoam : MethodName := ⟨RX12, "readFoam", "()Z"⟩
abbrev cX12_readThing : ByteArray := prog_14_method_33_code
def yX12_readThing : MethodName := ⟨RX12, "readThing", "()Z"⟩
abbrev cX12_readBox : ByteArray := prog_14_method_34_code
def yX12_readBox : MethodName := ⟨RX12, "readBox", "()Z"⟩
abbrev cX12_readPad : ByteArray := prog_14_method_35_code
def yX12_readPad : MethodName := ⟨RX12, "readPad", "()Z"⟩
abbrev cX12_readDrop : ByteArray := prog_14_method_36_code
def yX12_readDrop : MethodName := ⟨RX12, "readDrop", "()Z"⟩
abbrev cX12_readLine : ByteArray := prog_14_method_37_code
def yX12_readLine : MethodName := ⟨RX12, "readLine", "()Z"⟩
abbrev cX12_book : ByteArray := prog_14_method_38_code
def yX12_book : MethodName := ⟨RX12, "book", "()I"⟩
abbrev cX12_fault : ByteArray := prog_14_method_39_code
def yX12_fault : MethodName := ⟨RX12, "fault", "()I"⟩
abbrev cX12_isBooked : ByteArray := prog_14_method_40_code
def yX12_isBooked : MethodName := ⟨RX12, "isBooked", "(I)Z"⟩
abbrev cX12_of : ByteArray := prog_14_method_41_code
def yX12_of : MethodName := ⟨RX12, "of", "(I)I"⟩
abbrev cX12_has : ByteArray := prog_14_method_42_code
def yX12_has : MethodName := ⟨RX12, "has", "(III)Z"⟩
abbrev cX12_many : ByteArray := prog_14_method_43_code
def yX12_many : MethodName := ⟨RX12, "many", "(II)I"⟩
abbrev cX12_lay : ByteArray := prog_14_method_44_code
def yX12_lay : MethodName := ⟨RX12, "lay", "(II)V"⟩
abbrev cX12_push : ByteArray := prog_14_method_45_code
def yX12_push : MethodName := ⟨RX12, "push", "(IIII)I"⟩
abbrev cX12_squeezed : ByteArray := prog_14_method_46_code
def yX12_squeezed : MethodName := ⟨RX12, "squeezed", "(JJJJ)I"⟩
abbrev cX12_blowAt : ByteArray := prog_14_method_47_code
def yX12_blowAt : MethodName := ⟨RX12, "blowAt", "(IJJ)I"⟩
abbrev cX12_takePad : ByteArray := prog_14_method_48_code
def yX12_takePad : MethodName := ⟨RX12, "takePad", "(II)Z"⟩
abbrev cX12_weightOf : ByteArray := prog_14_method_49_code
def yX12_weightOf : MethodName := ⟨RX12, "weightOf", "(I)I"⟩
abbrev cX12_markOf : ByteArray := prog_14_method_50_code
def yX12_markOf : MethodName := ⟨RX12, "markOf", "(I)I"⟩
abbrev cX12_isDropped : ByteArray := prog_14_method_51_code
def yX12_isDropped : MethodName := ⟨RX12, "isDropped", "(IIII)Z"⟩
abbrev cX12_squeeze : ByteArray := prog_14_method_52_code
def yX12_squeeze : MethodName := ⟨RX12, "squeeze", "(IIIII)I"⟩
abbrev cX12_blow : ByteArray := prog_14_method_53_code
def yX12_blow : MethodName := ⟨RX12, "blow", "(IIIII)I"⟩
abbrev cX12_holds : ByteArray := prog_14_method_54_code
def yX12_holds : MethodName := ⟨RX12, "holds", "(III)Z"⟩
abbrev cX12_keepsOf : ByteArray := prog_14_method_55_code
def yX12_keepsOf : MethodName := ⟨RX12, "keepsOf", "(I)I"⟩
abbrev cX12_again : ByteArray := prog_14_method_56_code
def yX12_again : MethodName := ⟨RX12, "again", "(IIII)I"⟩
abbrev cX12_breaks : ByteArray := prog_14_method_57_code
def yX12_breaks : MethodName := ⟨RX12, "breaks", "(II)I"⟩
abbrev cX12_breaksAt : ByteArray := prog_14_method_58_code
def yX12_breaksAt : MethodName := ⟨RX12, "breaksAt", "()I"⟩
abbrev cX12_spans : ByteArray := prog_14_method_59_code
def yX12_spans : MethodName := ⟨RX12, "spans", "(IIII)I"⟩
abbrev cX12_highest : ByteArray := prog_14_method_60_code
def yX12_highest : MethodName := ⟨RX12, "highest", "(III)I"⟩
abbrev cX12_above : ByteArray := prog_14_method_61_code
def yX12_above : MethodName := ⟨RX12, "above", "(II)I"⟩
abbrev cX12_recorded : ByteArray := prog_14_method_62_code
def yX12_recorded : MethodName := ⟨RX12, "recorded", "(IIIIII)I"⟩
abbrev cX12_pads : ByteArray := prog_14_method_63_code
def yX12_pads : MethodName := ⟨RX12, "pads", "(IIIII)I"⟩
abbrev cX12_padAt : ByteArray := prog_14_method_64_code
def yX12_padAt : MethodName := ⟨RX12, "padAt", "(I)I"⟩
abbrev cX12_fits : ByteArray := prog_14_method_65_code
def yX12_fits : MethodName := ⟨RX12, "fits", "(IIII)Z"⟩
abbrev cX12_goesInto : ByteArray := prog_14_method_66_code
def yX12_goesInto : MethodName := ⟨RX12, "goesInto", "(III)Z"⟩
abbrev cX12_boxes : ByteArray := prog_14_method_67_code
def yX12_boxes : MethodName := ⟨RX12, "boxes", "(III)I"⟩
abbrev cX12_costOf : ByteArray := prog_14_method_68_code
def yX12_costOf : MethodName := ⟨RX12, "costOf", "(II)I"⟩
abbrev cX12_boxSet : ByteArray := prog_14_method_69_code
def yX12_boxSet : MethodName := ⟨RX12, "boxSet", "()I"⟩
abbrev cX12_stack : ByteArray := prog_14_method_70_code
def yX12_stack : MethodName := ⟨RX12, "stack", "(IIII)I"⟩
abbrev cX12_journey : ByteArray := prog_14_method_71_code
def yX12_journey : MethodName := ⟨RX12, "journey", "(II)J"⟩
abbrev cX12_heightAt : ByteArray := prog_14_method_72_code
def yX12_heightAt : MethodName := ⟨RX12, "heightAt", "(II)I"⟩
abbrev cX12_power : ByteArray := prog_14_method_73_code
def yX12_power : MethodName := ⟨RX12, "power", "(JI)J"⟩
abbrev cX12_proved : ByteArray := prog_14_method_74_code
def yX12_proved : MethodName := ⟨RX12, "proved", "(II)I"⟩
abbrev cX12_needed : ByteArray := prog_14_method_75_code
def yX12_needed : MethodName := ⟨RX12, "needed", "(II)I"⟩
abbrev cX12_count : ByteArray := prog_14_method_76_code
def yX12_count : MethodName := ⟨RX12, "count", "(I)I"⟩
def RJ6 : String := "java/lang/Integer"
abbrev cJ6_bitCount_0f7a4 : ByteArray := prog_16_method_49_code
def yJ6_bitCount_0f7a4 : MethodName := ⟨RJ6, "bitCount", "(I)I"⟩
def RJ9 : String := "java/lang/Math"
abbrev cJ9_max_7cf53 : ByteArray := prog_17_method_65_code
def yJ9_max_7cf53 : MethodName := ⟨RJ9, "max", "(II)I"⟩
abbrev cJ9_min_7cf53 : ByteArray := prog_17_method_69_code
def yJ9_min_7cf53 : MethodName := ⟨RJ9, "min", "(II)I"⟩
abbrev cJ9_min_f86c9 : ByteArray := prog_17_method_70_code
def yJ9_min_f86c9 : MethodName := ⟨RJ9, "min", "(JJ)J"⟩
def RJ0 : String := "java/lang/String"
abbrev cJ0_length_8abf5 : ByteArray := prog_19_method_54_code
def yJ0_length_8abf5 : MethodName := ⟨RJ0, "length", "()I"⟩
abbrev cJ0_charAt_5068e : ByteArray := prog_19_method_56_code
def yJ0_charAt_5068e : MethodName := ⟨RJ0, "charAt", "(I)C"⟩
abbrev cJ0_coder_7d493 : ByteArray := prog_19_method_152_code
def yJ0_coder_7d493 : MethodName := ⟨RJ0, "coder", "()B"⟩
abbrev cJ0_isLatin1_aae02 : ByteArray := prog_19_method_154_code
def yJ0_isLatin1_aae02 : MethodName := ⟨RJ0, "isLatin1", "()Z"⟩
abbrev cJ0_checkIndex_df160 : ByteArray := prog_19_method_155_code
def yJ0_checkIndex_df160 : MethodName := ⟨RJ0, "checkIndex", "(II)V"⟩
def RJ1 : String := "java/lang/StringLatin1"
abbrev cJ1_charAt_3b067 : ByteArray := prog_20_method_2_code
def yJ1_charAt_3b067 : MethodName := ⟨RJ1, "charAt", "([BI)C"⟩
def RJ2 : String := "java/lang/StringUTF16"
abbrev cJ2_getChar_3b067 : ByteArray := prog_21_method_5_code
def yJ2_getChar_3b067 : MethodName := ⟨RJ2, "getChar", "([BI)C"⟩
abbrev cJ2_length_9d52b : ByteArray := prog_21_method_6_code
def yJ2_length_9d52b : MethodName := ⟨RJ2, "length", "([B)I"⟩
abbrev cJ2_charAt_3b067 : ByteArray := prog_21_method_83_code
def yJ2_charAt_3b067 : MethodName := ⟨RJ2, "charAt", "([BI)C"⟩
abbrev cJ2_checkIndex_2214a : ByteArray := prog_21_method_91_code
def yJ2_checkIndex_2214a : MethodName := ⟨RJ2, "checkIndex", "(I[B)V"⟩
def RJ3 : String := "jdk/internal/util/Preconditions"
abbrev cJ3_checkIndex_8e157 : ByteArray := prog_24_method_11_code
def yJ3_checkIndex_8e157 : MethodName := ⟨RJ3, "checkIndex", "(IILjava/util/function/BiFunction;)I"⟩
def RL : String := "FoamArmsLaw"
abbrev cL_journey : ByteArray := method_3_code
def yL_journey : MethodName := ⟨RL, "journey", "(LFoamArms;II[J)I"⟩
abbrev cL_law : ByteArray := code
def yL_law : MethodName := ⟨RL, "law", "([I)Z"⟩
end
section
/-! A small machine over the kit's rows: a heap is a list of cells (place 0 the script, 1 and 2 kept free, from 3 on what was made, in order); X: from this place of this method the machine comes to an end that has Q -/
abbrev vwCl : List vw_C := [(RX0, TX0, 10), (RX1, TX1, 9), (RX2, TX2, 3), (RX3, TX3, 5), (RX4, TX4, 8), (RX5, TX5, 4), (RX6, TX6, 5), (RX7, TX7, 7), (RX8, TX8, 2), (RX9, TX9, 6), (RX10, TX10, 6), (RX11, TX11, 12), (RX12, TX12, 35)]
abbrev PE : Type := (Nat × vp_A) ⊕ (Nat × List Value)
/-- launch, class numbers, array classes, where new cells begin, the three old places, the law's start, its arguments, the script -/
abbrev GT : Type := Launch × va_G × (Nat → ClassId) × Nat × (Nat → Nat) × State × Array Value × Nat × (Nat → Int32)
abbrev MT : Type := MethodName × ByteArray × Nat × Option FieldType
abbrev g_B (G : GT) : Nat := G.2.2.2.1
abbrev g_aC (G : GT) : Nat → ClassId := G.2.2.1
abbrev g_s0 (G : GT) : State := G.2.2.2.2.2.1
abbrev g_ar (G : GT) : Array Value := G.2.2.2.2.2.2.1
abbrev g_L (G : GT) : Nat := G.2.2.2.2.2.2.2.1
abbrev g_xs (G : GT) : Nat → Int32 := G.2.2.2.2.2.2.2.2
abbrev g_o3 (G : GT) : Nat → Nat := G.2.2.2.2.1
def g_ad (G : GT) (k : Nat) : Nat := if k < 3 then g_o3 G k else g_B G + (k - 3)
def g_v (G : GT) (v : Value) : Value := match v with
  | .ref k => .ref (g_ad G k)
  | .int x => .int x
  | .long x => .long x
  | .float x => .float x
  | .double x => .double x
  | .null => .null
  | .retAddr k => .retAddr k
def g_A (G : GT) (x : vp_A) : vp_A := (x.1, Sum.map id (Sum.map id (Sum.map id (Sum.map id (fun f j => (f j).map (g_ad G))))) x.2)
def g_c (G : GT) (c : PE) : va_E := match c with
  | .inl a => .inl (g_aC G a.1, g_A G a.2)
  | .inr o => .inr (o.1, o.2.map (g_v G))
def g_w (G : GT) (h : List PE) : va_W := (h.drop 3).mapIdx (fun i c => (g_B G + i, g_c G c))
def g_n (c : PE) : Nat := match c with
  | .inl a => a.2.1
  | .inr o => o.2.length
def g_s (h : List PE) : Nat := (h.map g_n).sum
abbrev g_ty (G : GT) : List (ClassId × FieldType) := [(g_aC G 0, .int), (g_aC G 1, .long), (g_aC G 2, .byte), (g_aC G 3, .boolean), (g_aC G 4, .object "FoamArms$Foam"), (g_aC G 5, .object "FoamArms$Thing"), (g_aC G 6, .object "FoamArms$Box"), (g_aC G 7, .object "FoamArms$Drop"), (g_aC G 8, .object "FoamArms$Book")]
theorem g_v_cat (G : GT) (v : Value) : (g_v G v).category = v.category := by cases v <;> rfl
theorem g_ad_ge {G : GT} {a : Nat} (ha : 3 ≤ a) : g_ad G a = g_B G + (a - 3) := by
  unfold g_ad
  rw [if_neg (by omega)]
theorem g_w_len (G : GT) (h : List PE) : (g_w G h).length = h.length - 3 := by simp [g_w]
theorem g_w_at (G : GT) (h : List PE) (i : Nat) : (g_w G h)[i]? = (h[3 + i]?).map (fun c => (g_B G + i, g_c G c)) := by
  simp [g_w, List.getElem?_mapIdx, List.getElem?_drop]
theorem g_w_get {G : GT} {h : List PE} {a : Nat} {c : PE} (hh : h[a]? = some c) (ha : 3 ≤ a) : (g_w G h)[a - 3]? = some (g_ad G a, g_c G c) := by
  rw [g_w_at, show 3 + (a - 3) = a by omega, hh, g_ad_ge ha]
  rfl
theorem g_w_set {G : GT} {h : List PE} {a : Nat} (ha : 3 ≤ a) (c : PE) : (g_w G h).set (a - 3) (g_ad G a, g_c G c) = g_w G (h.set a c) := by
  apply List.ext_getElem?
  intro i
  by_cases hi : i = a - 3
  · subst hi
    by_cases hl : a < h.length
    · rw [List.getElem?_set_self (by rw [g_w_len]; omega), g_w_at, show 3 + (a - 3) = a by omega, List.getElem?_set_self hl, g_ad_ge ha]
      rfl
    · rw [List.set_eq_of_length_le (by rw [g_w_len]; omega), List.set_eq_of_length_le (by omega)]
  · rw [List.getElem?_set_ne (by omega), g_w_at, g_w_at, List.getElem?_set_ne (by omega)]
theorem g_w_push {G : GT} {h : List PE} (hl : 3 ≤ h.length) (c : PE) : g_w G h ++ [(g_ad G h.length, g_c G c)] = g_w G (h ++ [c]) := by
  apply List.ext_getElem?
  intro i
  rw [g_w_at]
  by_cases hi : i < h.length - 3
  · rw [List.getElem?_append_left (by rw [g_w_len]; exact hi), g_w_at, List.getElem?_append_left (by omega)]
  · rw [List.getElem?_append_right (by rw [g_w_len]; omega), List.getElem?_append_right (by omega), g_w_len]
    by_cases hj : i = h.length - 3
    · subst hj
      rw [Nat.sub_self, show 3 + (h.length - 3) - h.length = 0 by omega, g_ad_ge hl]
      rfl
    · rw [show i - (h.length - 3) = (i - (h.length - 3) - 1) + 1 by omega, show 3 + i - h.length = (3 + i - h.length - 1) + 1 by omega]
      simp
theorem g_w_D (G : GT) (h : List PE) : va_D (fun q => g_B G ≤ q) (g_w G h) := by
  refine ⟨fun i j p q hi hj e => ?_, fun k q hk => ?_⟩
  · rw [g_w_at] at hi hj
    obtain ⟨c1, -, rfl⟩ := Option.map_eq_some_iff.mp hi
    obtain ⟨c2, -, rfl⟩ := Option.map_eq_some_iff.mp hj
    dsimp only at e
    omega
  · rw [g_w_at] at hk
    obtain ⟨c1, -, rfl⟩ := Option.map_eq_some_iff.mp hk
    exact Nat.le_add_right _ _
theorem g_s_set {h : List PE} {a : Nat} {c c' : PE} (hh : h[a]? = some c) (hn : g_n c' = g_n c) : g_s (h.set a c') = g_s h := by
  unfold g_s
  rw [List.map_set]
  congr 1
  apply List.ext_getElem?
  intro i
  by_cases hi : i = a
  · subst hi
    have hl := (List.getElem?_eq_some_iff.mp hh).1
    rw [List.getElem?_set_self (by simpa using hl), List.getElem?_map, hh, hn]
    rfl
  · rw [List.getElem?_set_ne (fun q => hi q.symm)]
theorem g_s_push (h : List PE) (c : PE) : g_s (h ++ [c]) = g_s h + g_n c := by simp [g_s]
/-- the law's start is as the Statement has it -/
def GOK (G : GT) : Prop := (∀ w ∈ lw_tbl, w.before (g_ar G) (g_s0 G) = true) ∧ (Jvm.Cond.and given_1 narrow_1).before (g_ar G) (g_s0 G) = true ∧ va_K G.2.1 vwCl (g_ty G) (g_s0 G) ∧ va_X (g_o3 G 0) (g_L G) (g_xs G) (g_s0 G) (g_s0 G).heap ∧ g_B G = (g_s0 G).heap.size ∧ (∀ k, k < 3 → g_o3 G k < g_B G) ∧ G.1.flags = flags0
/-- the real heap holds the pure one -/
def Hr (G : GT) (h : List PE) (H : Heap) : Prop := va_P G.2.1 vwCl (g_w G h) H ∧ H.size + 3 = g_B G + h.length ∧ 3 ≤ h.length ∧ h[0]? = some (.inl (0, (g_L G, .inl (g_xs G))))
/-- since the law's start: tables warmed, old cells as they were -/
def Od (G : GT) (s : State) : Prop := (g_s0 G).WarmedH s.vm ∧ (∀ q, q < g_B G → s.heap[q]? = (g_s0 G).heap[q]?) ∧ g_B G ≤ s.heap.size
def Cx (G : GT) (M : MT) (p : Program) (s : State) (m : MethodId) (meth : Method) (c : Code) : Prop :=
  GOK G ∧ p.tables.exec = Jvm.exec ∧ c.code = M.2.1 ∧ meth.sig.returnType = M.2.2.2 ∧ c.maxLocals = M.2.2.1 ∧ s.vm.findClass M.1.cls = some m.cls ∧ meth.locks = false ∧ meth.name = M.1.name ∧ Od G s
abbrev g_l (G : GT) (lv : List (Nat × Value)) : List (Nat × Value) := lv.map (fun q => (q.1, g_v G q.2))
/-- an end: the heap behind it, and what the machine owes there -/
abbrev FT (Ω : Type) : Type := (Ω → List PE) × (Ω → List Frame → Array Value → State → Nat → Nat → State → Prop)
def XC (G : GT) (M : MT) (rf rl oN oS : Nat) (h : List PE) (lv : List (Nat × Value)) (p : Program) (R : Room) (s : State) (m : MethodId) (meth : Method) (c : Code) (H : Heap) (locs : List Loc) (n0 s0 : Nat) (ls : Array Slot) : Prop :=
  Cx G M p s m meth c ∧ rf ≤ R.frames ∧ rl ≤ R.locals ∧ oN - n0 ≤ R.cells ∧ oS - s0 ≤ R.slots ∧ n0 ≤ h.length ∧ s0 ≤ g_s h ∧ Hr G h H ∧ va_S (fun q => g_B G ≤ q) s.heap H locs ∧ lv_has ls M.2.2.1 (g_l G lv)
def X {Ω : Type} (F : FT Ω) (G : GT) (M : MT) (rf rl pc : Nat) (lv : List (Nat × Value)) (st : List Value) (h : List PE) (Q : Ω → Prop) : Prop :=
  ∃ o : Ω, Q o ∧ h.length ≤ (F.1 o).length ∧ g_s h ≤ g_s (F.1 o) ∧
    ∀ (p : Program) (e : Env) (R : Room) (s : State) (m : MethodId) (args : Array Value) (below : List Frame) (meth : Method) (c : Code) (H : Heap) (locs : List Loc) (n0 s0 : Nat) (ls : Array Slot),
      XC G M rf rl (F.1 o).length (g_s (F.1 o)) h lv p R s m meth c H locs n0 s0 ls →
      W p G.1 e R s m args below meth c H locs (h.length - n0) (g_s h - s0) (F.2 o below args s n0 s0) (F0 m pc ls (st.map (g_v G)))
/-- the usual end: the method returns -/
abbrev OT : Type := Option Value × List PE
def g_Q (G : GT) (o : OT) : Array Value → State → Outcome → State → Prop := fun _ st oc t => oc = .returned (o.1.map (g_v G)) ∧ Hr G o.2 t.heap ∧ va_F (fun q => g_B G ≤ q) st t
def NF (G : GT) : FT OT := (fun o => o.2, fun o below args s n0 s0 => MQ below (g_Q G o) args s (o.2.length - n0) (g_s o.2 - s0) (fun q => g_B G ≤ q))
section XR
variable {Ω : Type} {F : FT Ω} {G : GT} {M : MT} {rf rl pc : Nat} {lv : List (Nat × Value)} {st : List Value} {h : List PE} {Q : Ω → Prop}
/-- a word of the tables, at any state since the start -/
theorem g_word {s : State} (hG : GOK G) (ho : Od G s) {w : Cond} (hw : w ∈ lw_tbl) (hg : goodWord w = true) {args : Array Value} : w.before args s = true := word_at ho.1 (good_of_word hg) (hG.1 w hw)
theorem g_K {s : State} (hG : GOK G) (ho : Od G s) : va_K G.2.1 vwCl (g_ty G) s := va_K.moved ho.1.alike hG.2.2.1
theorem X.weaken {Q' : Ω → Prop} (k : X F G M rf rl pc lv st h Q) (hq : ∀ o, Q o → Q' o) : X F G M rf rl pc lv st h Q' := by
  obtain ⟨o, q, h1, h2, w⟩ := k
  exact ⟨o, hq o q, h1, h2, w⟩
/-- nothing but pc and stack -/
theorem X.step {pc2 : Nat} {st2 : List Value}
    (f : ∀ (p : Program) (e : Env) (R : Room) (s : State) (m : MethodId) (args : Array Value) (below : List Frame) (meth : Method) (c : Code) (H : Heap) (locs : List Loc) (k n : Nat) (ls : Array Slot) (Z : State → Prop), Cx G M p s m meth c → lv_has ls M.2.2.1 (g_l G lv) → Hr G h H → va_S (fun q => g_B G ≤ q) s.heap H locs →
      W p G.1 e R s m args below meth c H locs k n Z (F0 m pc2 ls (st2.map (g_v G))) → W p G.1 e R s m args below meth c H locs k n Z (F0 m pc ls (st.map (g_v G))))
    (k : X F G M rf rl pc2 lv st2 h Q) : X F G M rf rl pc lv st h Q := by
  obtain ⟨o, q, h1, h2, w⟩ := k
  exact ⟨o, q, h1, h2, fun p e R s m args below meth c H locs n0 s0 ls C => f p e R s m args below meth c H locs _ _ ls _ C.1 C.2.2.2.2.2.2.2.2.2 C.2.2.2.2.2.2.2.1 C.2.2.2.2.2.2.2.2.1 (w p e R s m args below meth c H locs n0 s0 ls C)⟩
/-- and the locals -/
theorem X.stepL {pc2 : Nat} {st2 : List Value} {lv2 : List (Nat × Value)}
    (f : ∀ (p : Program) (e : Env) (R : Room) (s : State) (m : MethodId) (args : Array Value) (below : List Frame) (meth : Method) (c : Code) (H : Heap) (locs : List Loc) (k n : Nat) (ls : Array Slot) (Z : State → Prop), Cx G M p s m meth c → lv_has ls M.2.2.1 (g_l G lv) →
      (∀ ls2 : Array Slot, lv_has ls2 M.2.2.1 (g_l G lv2) → W p G.1 e R s m args below meth c H locs k n Z (F0 m pc2 ls2 (st2.map (g_v G)))) → W p G.1 e R s m args below meth c H locs k n Z (F0 m pc ls (st.map (g_v G))))
    (k : X F G M rf rl pc2 lv2 st2 h Q) : X F G M rf rl pc lv st h Q := by
  obtain ⟨o, q, h1, h2, w⟩ := k
  refine ⟨o, q, h1, h2, fun p e R s m args below meth c H locs n0 s0 ls C => ?_⟩
  obtain ⟨c1, c2, c3, c4, c5, c6, c7, c8, c9, c10⟩ := C
  exact f p e R s m args below meth c H locs _ _ ls _ c1 c10 (fun ls2 hl2 => w p e R s m args below meth c H locs n0 s0 ls2 ⟨c1, c2, c3, c4, c5, c6, c7, c8, c9, hl2⟩)
/-- and a cell -/
theorem X.stepH {pc2 : Nat} {st2 : List Value} {h2 : List PE} (hlen : h2.length = h.length) (hsl : g_s h2 = g_s h)
    (f : ∀ (p : Program) (e : Env) (R : Room) (s : State) (m : MethodId) (args : Array Value) (below : List Frame) (meth : Method) (c : Code) (H : Heap) (locs : List Loc) (k n : Nat) (ls : Array Slot) (Z : State → Prop), Cx G M p s m meth c → Hr G h H → va_S (fun q => g_B G ≤ q) s.heap H locs →
      (∀ (H2 : Heap) (locs2 : List Loc), Hr G h2 H2 → va_S (fun q => g_B G ≤ q) s.heap H2 locs2 → W p G.1 e R s m args below meth c H2 locs2 k n Z (F0 m pc2 ls (st2.map (g_v G)))) → W p G.1 e R s m args below meth c H locs k n Z (F0 m pc ls (st.map (g_v G))))
    (k : X F G M rf rl pc2 lv st2 h2 Q) : X F G M rf rl pc lv st h Q := by
  obtain ⟨o, q, h1, h3, w⟩ := k
  refine ⟨o, q, hlen ▸ h1, hsl ▸ h3, fun p e R s m args below meth c H locs n0 s0 ls C => ?_⟩
  obtain ⟨c1, c2, c3, c4, c5, c6, c7, c8, c9, c10⟩ := C
  refine f p e R s m args below meth c H locs _ _ ls _ c1 c8 c9 (fun H2 locs2 hr hS => ?_)
  rw [← hlen, ← hsl]
  exact w p e R s m args below meth c H2 locs2 n0 s0 ls ⟨c1, c2, c3, c4, c5, by rw [hlen]; exact c6, by rw [hsl]; exact c7, hr, hS, c10⟩
end XR
end
section
section XS
variable {Ω : Type} {F : FT Ω} {G : GT} {M : MT} {rf rl pc : Nat} {lv : List (Nat × Value)} {st : List Value} {h : List PE} {Q : Ω → Prop}
theorem g_l_at {i k : Nat} {v : Value} (hk : lv[k]? = some (i, v)) : (g_l G lv)[k]? = some (i, g_v G v) := by rw [List.getElem?_map, hk]; rfl
theorem x_iconst {n : Int} {v : Int32} (hd : decode M.2.1 pc = .ok (.iconst n, 1)) (hv : Int32.ofInt n = v) (k : X F G M rf rl (pc + 1) lv (.int v :: st) h Q) : X F G M rf rl pc lv (st) h Q := X.step (fun p e R s m args below meth c H locs a n ls Z C hv hr hS w => lv_iconst C.2.1 C.2.2.1 hd (by assumption) w) k
theorem x_bipush {n : Int} {v : Int32} (hd : decode M.2.1 pc = .ok (.bipush n, 2)) (hv : (Int8.ofInt n).toInt32 = v) (k : X F G M rf rl (pc + 2) lv (.int v :: st) h Q) : X F G M rf rl pc lv (st) h Q := X.step (fun p e R s m args below meth c H locs a n ls Z C hv hr hS w => lv_bipush C.2.1 C.2.2.1 hd (by assumption) w) k
theorem x_sipush {n : Int} {v : Int32} (hd : decode M.2.1 pc = .ok (.sipush n, 3)) (hv : (Int16.ofInt n).toInt32 = v) (k : X F G M rf rl (pc + 3) lv (.int v :: st) h Q) : X F G M rf rl pc lv (st) h Q := X.step (fun p e R s m args below meth c H locs a n ls Z C hv hr hS w => lv_sipush C.2.1 C.2.2.1 hd (by assumption) w) k
theorem x_lconst {n : Fin 2} {v : Int64} (hd : decode M.2.1 pc = .ok (.lconst n, 1)) (hv : Int64.ofNat (n : Nat) = v) (k : X F G M rf rl (pc + 1) lv (.long v :: st) h Q) : X F G M rf rl pc lv (st) h Q := X.step (fun p e R s m args below meth c H locs a n ls Z C hv hr hS w => lv_lconst C.2.1 C.2.2.1 hd (by assumption) w) k
theorem x_iload_n {q : Fin 4} {x : Int32} (hd : decode M.2.1 pc = .ok (.iload_n q, 1)) (j : Nat) (hj : lv[j]? = some ((q : Nat), .int x)) (k : X F G M rf rl (pc + 1) lv (.int x :: st) h Q) : X F G M rf rl pc lv (st) h Q := X.step (fun p e R s m args below meth c H locs a n ls Z C hv hr hS w => lv_iload_n C.2.1 C.2.2.1 hd rfl (lv_at hv j (g_l_at hj)) w) k
theorem x_iload {i : Nat} {x : Int32} (hd : decode M.2.1 pc = .ok (.iload i, 2)) (j : Nat) (hj : lv[j]? = some (i, .int x)) (k : X F G M rf rl (pc + 2) lv (.int x :: st) h Q) : X F G M rf rl pc lv (st) h Q := X.step (fun p e R s m args below meth c H locs a n ls Z C hv hr hS w => lv_iload C.2.1 C.2.2.1 hd (lv_at hv j (g_l_at hj)) w) k
theorem x_lload_n {q : Fin 4} {x : Int64} (hd : decode M.2.1 pc = .ok (.lload_n q, 1)) (j : Nat) (hj : lv[j]? = some ((q : Nat), .long x)) (k : X F G M rf rl (pc + 1) lv (.long x :: st) h Q) : X F G M rf rl pc lv (st) h Q := X.step (fun p e R s m args below meth c H locs a n ls Z C hv hr hS w => lv_lload_n C.2.1 C.2.2.1 hd rfl (lv_at hv j (g_l_at hj)) w) k
theorem x_lload {i : Nat} {x : Int64} (hd : decode M.2.1 pc = .ok (.lload i, 2)) (j : Nat) (hj : lv[j]? = some (i, .long x)) (k : X F G M rf rl (pc + 2) lv (.long x :: st) h Q) : X F G M rf rl pc lv (st) h Q := X.step (fun p e R s m args below meth c H locs a n ls Z C hv hr hS w => lv_lload C.2.1 C.2.2.1 hd (lv_at hv j (g_l_at hj)) w) k
theorem x_aload_n {q : Fin 4} {x : Nat} (hd : decode M.2.1 pc = .ok (.aload_n q, 1)) (j : Nat) (hj : lv[j]? = some ((q : Nat), .ref x)) (k : X F G M rf rl (pc + 1) lv (.ref x :: st) h Q) : X F G M rf rl pc lv (st) h Q := X.step (fun p e R s m args below meth c H locs a n ls Z C hv hr hS w => lv_aload_n C.2.1 C.2.2.1 hd rfl (lv_at hv j (g_l_at hj)) w) k
theorem x_aload {i : Nat} {x : Nat} (hd : decode M.2.1 pc = .ok (.aload i, 2)) (j : Nat) (hj : lv[j]? = some (i, .ref x)) (k : X F G M rf rl (pc + 2) lv (.ref x :: st) h Q) : X F G M rf rl pc lv (st) h Q := X.step (fun p e R s m args below meth c H locs a n ls Z C hv hr hS w => lv_aload C.2.1 C.2.2.1 hd (lv_at hv j (g_l_at hj)) w) k
theorem x_aload_nN {q : Fin 4} (hd : decode M.2.1 pc = .ok (.aload_n q, 1)) (j : Nat) (hj : lv[j]? = some ((q : Nat), .null)) (k : X F G M rf rl (pc + 1) lv (.null :: st) h Q) : X F G M rf rl pc lv (st) h Q := X.step (fun p e R s m args below meth c H locs a n ls Z C hv hr hS w => lv_aload_nN C.2.1 C.2.2.1 hd rfl (lv_at hv j (g_l_at hj)) w) k
theorem x_aloadN {i : Nat} (hd : decode M.2.1 pc = .ok (.aload i, 2)) (j : Nat) (hj : lv[j]? = some (i, .null)) (k : X F G M rf rl (pc + 2) lv (.null :: st) h Q) : X F G M rf rl pc lv (st) h Q := X.step (fun p e R s m args below meth c H locs a n ls Z C hv hr hS w => lv_aloadN C.2.1 C.2.2.1 hd (lv_at hv j (g_l_at hj)) w) k
theorem x_iadd {x y : Int32} (hd : decode M.2.1 pc = .ok (.iadd, 1)) (k : X F G M rf rl (pc + 1) lv (.int (x + y) :: st) h Q) : X F G M rf rl pc lv (.int y :: .int x :: st) h Q := X.step (fun p e R s m args below meth c H locs a n ls Z C hv hr hS w => lv_iadd C.2.1 C.2.2.1 hd w) k
theorem x_isub {x y : Int32} (hd : decode M.2.1 pc = .ok (.isub, 1)) (k : X F G M rf rl (pc + 1) lv (.int (x - y) :: st) h Q) : X F G M rf rl pc lv (.int y :: .int x :: st) h Q := X.step (fun p e R s m args below meth c H locs a n ls Z C hv hr hS w => lv_isub C.2.1 C.2.2.1 hd w) k
theorem x_imul {x y : Int32} (hd : decode M.2.1 pc = .ok (.imul, 1)) (k : X F G M rf rl (pc + 1) lv (.int (x * y) :: st) h Q) : X F G M rf rl pc lv (.int y :: .int x :: st) h Q := X.step (fun p e R s m args below meth c H locs a n ls Z C hv hr hS w => lv_imul C.2.1 C.2.2.1 hd w) k
theorem x_iand {x y : Int32} (hd : decode M.2.1 pc = .ok (.iand, 1)) (k : X F G M rf rl (pc + 1) lv (.int (x &&& y) :: st) h Q) : X F G M rf rl pc lv (.int y :: .int x :: st) h Q := X.step (fun p e R s m args below meth c H locs a n ls Z C hv hr hS w => lv_iand C.2.1 C.2.2.1 hd w) k
theorem x_ior {x y : Int32} (hd : decode M.2.1 pc = .ok (.ior, 1)) (k : X F G M rf rl (pc + 1) lv (.int (x ||| y) :: st) h Q) : X F G M rf rl pc lv (.int y :: .int x :: st) h Q := X.step (fun p e R s m args below meth c H locs a n ls Z C hv hr hS w => lv_ior C.2.1 C.2.2.1 hd w) k
theorem x_ishl {x y : Int32} (hd : decode M.2.1 pc = .ok (.ishl, 1)) (k : X F G M rf rl (pc + 1) lv (.int (x <<< (y &&& 31)) :: st) h Q) : X F G M rf rl pc lv (.int y :: .int x :: st) h Q := X.step (fun p e R s m args below meth c H locs a n ls Z C hv hr hS w => lv_ishl C.2.1 C.2.2.1 hd w) k
theorem x_ishr {x y : Int32} (hd : decode M.2.1 pc = .ok (.ishr, 1)) (k : X F G M rf rl (pc + 1) lv (.int (x >>> (y &&& 31)) :: st) h Q) : X F G M rf rl pc lv (.int y :: .int x :: st) h Q := X.step (fun p e R s m args below meth c H locs a n ls Z C hv hr hS w => lv_ishr C.2.1 C.2.2.1 hd w) k
theorem x_idiv {x y : Int32} (hd : decode M.2.1 pc = .ok (.idiv, 1)) (hn : ¬ y = 0) (k : X F G M rf rl (pc + 1) lv (.int (x / y) :: st) h Q) : X F G M rf rl pc lv (.int y :: .int x :: st) h Q := X.step (fun p e R s m args below meth c H locs a n ls Z C hv hr hS w => lv_idiv C.2.1 C.2.2.1 hd hn w) k
theorem x_irem {x y : Int32} (hd : decode M.2.1 pc = .ok (.irem, 1)) (hn : ¬ y = 0) (k : X F G M rf rl (pc + 1) lv (.int (x - x / y * y) :: st) h Q) : X F G M rf rl pc lv (.int y :: .int x :: st) h Q := X.step (fun p e R s m args below meth c H locs a n ls Z C hv hr hS w => lv_irem C.2.1 C.2.2.1 hd hn w) k
theorem x_ladd {x y : Int64} (hd : decode M.2.1 pc = .ok (.ladd, 1)) (k : X F G M rf rl (pc + 1) lv (.long (x + y) :: st) h Q) : X F G M rf rl pc lv (.long y :: .long x :: st) h Q := X.step (fun p e R s m args below meth c H locs a n ls Z C hv hr hS w => lv_ladd C.2.1 C.2.2.1 hd w) k
theorem x_lsub {x y : Int64} (hd : decode M.2.1 pc = .ok (.lsub, 1)) (k : X F G M rf rl (pc + 1) lv (.long (x - y) :: st) h Q) : X F G M rf rl pc lv (.long y :: .long x :: st) h Q := X.step (fun p e R s m args below meth c H locs a n ls Z C hv hr hS w => lv_lsub C.2.1 C.2.2.1 hd w) k
theorem x_lmul {x y : Int64} (hd : decode M.2.1 pc = .ok (.lmul, 1)) (k : X F G M rf rl (pc + 1) lv (.long (x * y) :: st) h Q) : X F G M rf rl pc lv (.long y :: .long x :: st) h Q := X.step (fun p e R s m args below meth c H locs a n ls Z C hv hr hS w => lv_lmul C.2.1 C.2.2.1 hd w) k
theorem x_ldiv {x y : Int64} (hd : decode M.2.1 pc = .ok (.ldiv, 1)) (hn : ¬ y = 0) (k : X F G M rf rl (pc + 1) lv (.long (x / y) :: st) h Q) : X F G M rf rl pc lv (.long y :: .long x :: st) h Q := X.step (fun p e R s m args below meth c H locs a n ls Z C hv hr hS w => lv_ldiv C.2.1 C.2.2.1 hd hn w) k
theorem x_iushr {x y : Int32} (hd : decode M.2.1 pc = .ok (.iushr, 1)) (k : X F G M rf rl (pc + 1) lv (.int (x.toUInt32 >>> (y.toUInt32 &&& Int32.toUInt32 31)).toInt32 :: st) h Q) : X F G M rf rl pc lv (.int y :: .int x :: st) h Q := X.step (fun p e R s m args below meth c H locs a n ls Z C hv hr hS w => lv_iushr C.2.1 C.2.2.1 hd rfl w) k
theorem x_i2l {x : Int32} (hd : decode M.2.1 pc = .ok (.i2l, 1)) (k : X F G M rf rl (pc + 1) lv (.long x.toInt64 :: st) h Q) : X F G M rf rl pc lv (.int x :: st) h Q := X.step (fun p e R s m args below meth c H locs a n ls Z C hv hr hS w => lv_i2l C.2.1 C.2.2.1 hd rfl w) k
theorem x_l2i {x : Int64} (hd : decode M.2.1 pc = .ok (.l2i, 1)) (k : X F G M rf rl (pc + 1) lv (.int x.toInt32 :: st) h Q) : X F G M rf rl pc lv (.long x :: st) h Q := X.step (fun p e R s m args below meth c H locs a n ls Z C hv hr hS w => lv_l2i C.2.1 C.2.2.1 hd rfl w) k
theorem x_i2b {x : Int32} (hd : decode M.2.1 pc = .ok (.i2b, 1)) (k : X F G M rf rl (pc + 1) lv (.int x.toInt8.toInt32 :: st) h Q) : X F G M rf rl pc lv (.int x :: st) h Q := X.step (fun p e R s m args below meth c H locs a n ls Z C hv hr hS w => lv_i2b C.2.1 C.2.2.1 hd rfl w) k
theorem x_lcmp {x y : Int64} (hd : decode M.2.1 pc = .ok (.lcmp, 1)) (k : X F G M rf rl (pc + 1) lv (.int (lg_cmp x y) :: st) h Q) : X F G M rf rl pc lv (.long y :: .long x :: st) h Q := X.step (fun p e R s m args below meth c H locs a n ls Z C hv hr hS w => W.lcmp C.2.1 C.2.2.1 hd w) k
theorem x_dup {v : Value} (hd : decode M.2.1 pc = .ok (.dup, 1)) (hc : v.category = 1) (k : X F G M rf rl (pc + 1) lv (v :: v :: st) h Q) : X F G M rf rl pc lv (v :: st) h Q := X.step (fun p e R s m args below meth c H locs a n ls Z C hv hr hS w => lv_dup C.2.1 C.2.2.1 hd ((g_v_cat G _).trans hc) w) k
theorem x_pop {v : Value} (hd : decode M.2.1 pc = .ok (.pop, 1)) (hc : v.category = 1) (k : X F G M rf rl (pc + 1) lv (st) h Q) : X F G M rf rl pc lv (v :: st) h Q := X.step (fun p e R s m args below meth c H locs a n ls Z C hv hr hS w => lv_pop C.2.1 C.2.2.1 hd ((g_v_cat G _).trans hc) w) k
theorem x_dup2 {v u : Value} (hd : decode M.2.1 pc = .ok (.dup2, 1)) (hc : v.category = 1) (hc2 : u.category = 1) (k : X F G M rf rl (pc + 1) lv (v :: u :: v :: u :: st) h Q) : X F G M rf rl pc lv (v :: u :: st) h Q := X.step (fun p e R s m args below meth c H locs a n ls Z C hv hr hS w => lv_dup2_11 C.2.1 C.2.2.1 hd ((g_v_cat G _).trans hc) ((g_v_cat G _).trans hc2) w) k
theorem x_null  (hd : decode M.2.1 pc = .ok (.aconst_null, 1)) (k : X F G M rf rl (pc + 1) lv (.null :: st) h Q) : X F G M rf rl pc lv (st) h Q := X.step (fun p e R s m args below meth c H locs a n ls Z C hv hr hS w => lv_null C.2.1 C.2.2.1 hd w) k
theorem x_ldc {n : Nat} {v : Int32} (hd : decode M.2.1 pc = .ok (.ldc n, 2)) (hw : Cond.constant M.1.cls n v ∈ lw_tbl) (k : X F G M rf rl (pc + 2) lv (.int v :: st) h Q) : X F G M rf rl pc lv (st) h Q := X.step (fun p e R s m args below meth c H locs a n ls Z C hv hr hS w => lv_ldc C.2.1 C.2.2.1 C.2.2.2.2.2.1 (g_word C.1 C.2.2.2.2.2.2.2.2 hw rfl) hd w) k
theorem x_ldcw {n : Nat} {v : Int32} (hd : decode M.2.1 pc = .ok (.ldc_w n, 3)) (hw : Cond.constant M.1.cls n v ∈ lw_tbl) (k : X F G M rf rl (pc + 3) lv (.int v :: st) h Q) : X F G M rf rl pc lv (st) h Q := X.step (fun p e R s m args below meth c H locs a n ls Z C hv hr hS w => lv_ldcw C.2.1 C.2.2.1 C.2.2.2.2.2.1 (g_word C.1 C.2.2.2.2.2.2.2.2 hw rfl) hd w) k
theorem x_ldc2 {n : Nat} {v : Int64} (hd : decode M.2.1 pc = .ok (.ldc2_w n, 3)) (hw : Cond.constantLong M.1.cls n v ∈ lw_tbl) (k : X F G M rf rl (pc + 3) lv (.long v :: st) h Q) : X F G M rf rl pc lv (st) h Q := X.step (fun p e R s m args below meth c H locs a n ls Z C hv hr hS w => lv_ldc2 C.2.1 C.2.2.1 C.2.2.2.2.2.1 (g_word C.1 C.2.2.2.2.2.2.2.2 hw rfl) hd w) k
theorem x_goto  {off : Int} {tgt : Nat} (hd : decode M.2.1 pc = .ok (.goto off, 3)) (ht : (pc : Int) + off = (tgt : Int)) (k : X F G M rf rl tgt lv st h Q) : X F G M rf rl pc lv (st) h Q := X.step (fun p e R s m args below meth c H locs a n ls Z C hv hr hS w => lv_goto C.2.1 C.2.2.1 hd ht w) k
theorem x_ifnullN  {off : Int} {tgt : Nat} (hd : decode M.2.1 pc = .ok (.ifnull off, 3)) (ht : (pc : Int) + off = (tgt : Int)) (k : X F G M rf rl tgt lv st h Q) : X F G M rf rl pc lv (.null :: st) h Q := X.step (fun p e R s m args below meth c H locs a n ls Z C hv hr hS w => lv_ifnullN C.2.1 C.2.2.1 hd ht w) k
theorem x_ifnonnull {x : Nat} {off : Int} {tgt : Nat} (hd : decode M.2.1 pc = .ok (.ifnonnull off, 3)) (ht : (pc : Int) + off = (tgt : Int)) (k : X F G M rf rl tgt lv st h Q) : X F G M rf rl pc lv (.ref x :: st) h Q := X.step (fun p e R s m args below meth c H locs a n ls Z C hv hr hS w => lv_ifnonnull C.2.1 C.2.2.1 hd ht w) k
theorem x_ifnull {x : Nat} {off : Int} (hd : decode M.2.1 pc = .ok (.ifnull off, 3)) (k : X F G M rf rl (pc + 3) lv st h Q) : X F G M rf rl pc lv (.ref x :: st) h Q := X.step (fun p e R s m args below meth c H locs a n ls Z C hv hr hS w => lv_ifnull C.2.1 C.2.2.1 hd w) k
theorem x_ifnonnullN {off : Int} (hd : decode M.2.1 pc = .ok (.ifnonnull off, 3)) (k : X F G M rf rl (pc + 3) lv st h Q) : X F G M rf rl pc lv (.null :: st) h Q := X.step (fun p e R s m args below meth c H locs a n ls Z C hv hr hS w => lv_ifnonnullN C.2.1 C.2.2.1 hd w) k
theorem x_if_eq {x : Int32} {off : Int} {tgt : Nat} (hd : decode M.2.1 pc = .ok (.ifCond .eq off, 3)) (ht : (pc : Int) + off = (tgt : Int)) (kt : x = 0 → X F G M rf rl tgt lv st h Q) (kf : ¬ (x = 0) → X F G M rf rl (pc + 3) lv st h Q) : X F G M rf rl pc lv (.int x :: st) h Q := by
  by_cases hP : x = 0
  · exact X.step (fun p e R s m args below meth c H locs a n ls Z C hv hr hS w => lv_if_eq C.2.1 C.2.2.1 hd ht (fun _ => w) (fun q => absurd hP q)) (kt hP)
  · exact X.step (fun p e R s m args below meth c H locs a n ls Z C hv hr hS w => lv_if_eq C.2.1 C.2.2.1 hd ht (fun q => absurd q hP) (fun _ => w)) (kf hP)
theorem x_icmp_eq {x y : Int32} {off : Int} {tgt : Nat} (hd : decode M.2.1 pc = .ok (.if_icmp .eq off, 3)) (ht : (pc : Int) + off = (tgt : Int)) (kt : x = y → X F G M rf rl tgt lv st h Q) (kf : ¬ (x = y) → X F G M rf rl (pc + 3) lv st h Q) : X F G M rf rl pc lv (.int y :: .int x :: st) h Q := by
  by_cases hP : x = y
  · exact X.step (fun p e R s m args below meth c H locs a n ls Z C hv hr hS w => lv_icmp_eq C.2.1 C.2.2.1 hd ht (fun _ => w) (fun q => absurd hP q)) (kt hP)
  · exact X.step (fun p e R s m args below meth c H locs a n ls Z C hv hr hS w => lv_icmp_eq C.2.1 C.2.2.1 hd ht (fun q => absurd q hP) (fun _ => w)) (kf hP)
theorem x_if_ne {x : Int32} {off : Int} {tgt : Nat} (hd : decode M.2.1 pc = .ok (.ifCond .ne off, 3)) (ht : (pc : Int) + off = (tgt : Int)) (kt : ¬ x = 0 → X F G M rf rl tgt lv st h Q) (kf : x = 0 → X F G M rf rl (pc + 3) lv st h Q) : X F G M rf rl pc lv (.int x :: st) h Q := by
  by_cases hP : x = 0
  · exact X.step (fun p e R s m args below meth c H locs a n ls Z C hv hr hS w => lv_if_ne C.2.1 C.2.2.1 hd ht (fun q => absurd hP q) (fun _ => w)) (kf hP)
  · exact X.step (fun p e R s m args below meth c H locs a n ls Z C hv hr hS w => lv_if_ne C.2.1 C.2.2.1 hd ht (fun _ => w) (fun q => absurd q hP)) (kt hP)
theorem x_icmp_ne {x y : Int32} {off : Int} {tgt : Nat} (hd : decode M.2.1 pc = .ok (.if_icmp .ne off, 3)) (ht : (pc : Int) + off = (tgt : Int)) (kt : ¬ x = y → X F G M rf rl tgt lv st h Q) (kf : x = y → X F G M rf rl (pc + 3) lv st h Q) : X F G M rf rl pc lv (.int y :: .int x :: st) h Q := by
  by_cases hP : x = y
  · exact X.step (fun p e R s m args below meth c H locs a n ls Z C hv hr hS w => lv_icmp_ne C.2.1 C.2.2.1 hd ht (fun q => absurd hP q) (fun _ => w)) (kf hP)
  · exact X.step (fun p e R s m args below meth c H locs a n ls Z C hv hr hS w => lv_icmp_ne C.2.1 C.2.2.1 hd ht (fun _ => w) (fun q => absurd q hP)) (kt hP)
theorem x_if_lt {x : Int32} {off : Int} {tgt : Nat} (hd : decode M.2.1 pc = .ok (.ifCond .lt off, 3)) (ht : (pc : Int) + off = (tgt : Int)) (kt : x < 0 → X F G M rf rl tgt lv st h Q) (kf : ¬ (x < 0) → X F G M rf rl (pc + 3) lv st h Q) : X F G M rf rl pc lv (.int x :: st) h Q := by
  by_cases hP : x < 0
  · exact X.step (fun p e R s m args below meth c H locs a n ls Z C hv hr hS w => lv_if_lt C.2.1 C.2.2.1 hd ht (fun _ => w) (fun q => absurd hP q)) (kt hP)
  · exact X.step (fun p e R s m args below meth c H locs a n ls Z C hv hr hS w => lv_if_lt C.2.1 C.2.2.1 hd ht (fun q => absurd q hP) (fun _ => w)) (kf hP)
theorem x_icmp_lt {x y : Int32} {off : Int} {tgt : Nat} (hd : decode M.2.1 pc = .ok (.if_icmp .lt off, 3)) (ht : (pc : Int) + off = (tgt : Int)) (kt : x < y → X F G M rf rl tgt lv st h Q) (kf : ¬ (x < y) → X F G M rf rl (pc + 3) lv st h Q) : X F G M rf rl pc lv (.int y :: .int x :: st) h Q := by
  by_cases hP : x < y
  · exact X.step (fun p e R s m args below meth c H locs a n ls Z C hv hr hS w => lv_icmp_lt C.2.1 C.2.2.1 hd ht (fun _ => w) (fun q => absurd hP q)) (kt hP)
  · exact X.step (fun p e R s m args below meth c H locs a n ls Z C hv hr hS w => lv_icmp_lt C.2.1 C.2.2.1 hd ht (fun q => absurd q hP) (fun _ => w)) (kf hP)
theorem x_if_ge {x : Int32} {off : Int} {tgt : Nat} (hd : decode M.2.1 pc = .ok (.ifCond .ge off, 3)) (ht : (pc : Int) + off = (tgt : Int)) (kt : 0 ≤ x → X F G M rf rl tgt lv st h Q) (kf : ¬ (0 ≤ x) → X F G M rf rl (pc + 3) lv st h Q) : X F G M rf rl pc lv (.int x :: st) h Q := by
  by_cases hP : 0 ≤ x
  · exact X.step (fun p e R s m args below meth c H locs a n ls Z C hv hr hS w => lv_if_ge C.2.1 C.2.2.1 hd ht (fun _ => w) (fun q => absurd hP q)) (kt hP)
  · exact X.step (fun p e R s m args below meth c H locs a n ls Z C hv hr hS w => lv_if_ge C.2.1 C.2.2.1 hd ht (fun q => absurd q hP) (fun _ => w)) (kf hP)
theorem x_icmp_ge {x y : Int32} {off : Int} {tgt : Nat} (hd : decode M.2.1 pc = .ok (.if_icmp .ge off, 3)) (ht : (pc : Int) + off = (tgt : Int)) (kt : y ≤ x → X F G M rf rl tgt lv st h Q) (kf : ¬ (y ≤ x) → X F G M rf rl (pc + 3) lv st h Q) : X F G M rf rl pc lv (.int y :: .int x :: st) h Q := by
  by_cases hP : y ≤ x
  · exact X.step (fun p e R s m args below meth c H locs a n ls Z C hv hr hS w => lv_icmp_ge C.2.1 C.2.2.1 hd ht (fun _ => w) (fun q => absurd hP q)) (kt hP)
  · exact X.step (fun p e R s m args below meth c H locs a n ls Z C hv hr hS w => lv_icmp_ge C.2.1 C.2.2.1 hd ht (fun q => absurd q hP) (fun _ => w)) (kf hP)
theorem x_if_gt {x : Int32} {off : Int} {tgt : Nat} (hd : decode M.2.1 pc = .ok (.ifCond .gt off, 3)) (ht : (pc : Int) + off = (tgt : Int)) (kt : 0 < x → X F G M rf rl tgt lv st h Q) (kf : ¬ (0 < x) → X F G M rf rl (pc + 3) lv st h Q) : X F G M rf rl pc lv (.int x :: st) h Q := by
  by_cases hP : 0 < x
  · exact X.step (fun p e R s m args below meth c H locs a n ls Z C hv hr hS w => lv_if_gt C.2.1 C.2.2.1 hd ht (fun _ => w) (fun q => absurd hP q)) (kt hP)
  · exact X.step (fun p e R s m args below meth c H locs a n ls Z C hv hr hS w => lv_if_gt C.2.1 C.2.2.1 hd ht (fun q => absurd q hP) (fun _ => w)) (kf hP)
theorem x_icmp_gt {x y : Int32} {off : Int} {tgt : Nat} (hd : decode M.2.1 pc = .ok (.if_icmp .gt off, 3)) (ht : (pc : Int) + off = (tgt : Int)) (kt : y < x → X F G M rf rl tgt lv st h Q) (kf : ¬ (y < x) → X F G M rf rl (pc + 3) lv st h Q) : X F G M rf rl pc lv (.int y :: .int x :: st) h Q := by
  by_cases hP : y < x
  · exact X.step (fun p e R s m args below meth c H locs a n ls Z C hv hr hS w => lv_icmp_gt C.2.1 C.2.2.1 hd ht (fun _ => w) (fun q => absurd hP q)) (kt hP)
  · exact X.step (fun p e R s m args below meth c H locs a n ls Z C hv hr hS w => lv_icmp_gt C.2.1 C.2.2.1 hd ht (fun q => absurd q hP) (fun _ => w)) (kf hP)
theorem x_if_le {x : Int32} {off : Int} {tgt : Nat} (hd : decode M.2.1 pc = .ok (.ifCond .le off, 3)) (ht : (pc : Int) + off = (tgt : Int)) (kt : x ≤ 0 → X F G M rf rl tgt lv st h Q) (kf : ¬ (x ≤ 0) → X F G M rf rl (pc + 3) lv st h Q) : X F G M rf rl pc lv (.int x :: st) h Q := by
  by_cases hP : x ≤ 0
  · exact X.step (fun p e R s m args below meth c H locs a n ls Z C hv hr hS w => lv_if_le C.2.1 C.2.2.1 hd ht (fun _ => w) (fun q => absurd hP q)) (kt hP)
  · exact X.step (fun p e R s m args below meth c H locs a n ls Z C hv hr hS w => lv_if_le C.2.1 C.2.2.1 hd ht (fun q => absurd q hP) (fun _ => w)) (kf hP)
theorem x_icmp_le {x y : Int32} {off : Int} {tgt : Nat} (hd : decode M.2.1 pc = .ok (.if_icmp .le off, 3)) (ht : (pc : Int) + off = (tgt : Int)) (kt : x ≤ y → X F G M rf rl tgt lv st h Q) (kf : ¬ (x ≤ y) → X F G M rf rl (pc + 3) lv st h Q) : X F G M rf rl pc lv (.int y :: .int x :: st) h Q := by
  by_cases hP : x ≤ y
  · exact X.step (fun p e R s m args below meth c H locs a n ls Z C hv hr hS w => lv_icmp_le C.2.1 C.2.2.1 hd ht (fun _ => w) (fun q => absurd hP q)) (kt hP)
  · exact X.step (fun p e R s m args below meth c H locs a n ls Z C hv hr hS w => lv_icmp_le C.2.1 C.2.2.1 hd ht (fun q => absurd q hP) (fun _ => w)) (kf hP)
theorem x_tableIn {dflt lo hi : Int} {offs : Array Int} {len : Nat} {x : Int32} {off : Int} {tgt : Nat} (hd : decode M.2.1 pc = .ok (.tableswitch dflt lo hi offs, len)) (h1 : ¬ x.toInt < lo) (h2 : ¬ hi < x.toInt) (ho : offs[(x.toInt - lo).toNat]? = some off) (ht : (pc : Int) + off = (tgt : Int)) (k : X F G M rf rl tgt lv st h Q) : X F G M rf rl pc lv (.int x :: st) h Q := X.step (fun p e R s m args below meth c H locs a n ls Z C hv hr hS w => lv_tableIn C.2.1 C.2.2.1 hd h1 h2 ho ht w) k
theorem x_tableOut {dflt lo hi : Int} {offs : Array Int} {len : Nat} {x : Int32} {tgt : Nat} (hd : decode M.2.1 pc = .ok (.tableswitch dflt lo hi offs, len)) (h1 : x.toInt < lo ∨ hi < x.toInt) (ht : (pc : Int) + dflt = (tgt : Int)) (k : X F G M rf rl tgt lv st h Q) : X F G M rf rl pc lv (.int x :: st) h Q := X.step (fun p e R s m args below meth c H locs a n ls Z C hv hr hS w => lv_tableOut C.2.1 C.2.2.1 hd h1 ht w) k
def l_set (lv : List (Nat × Value)) (i : Nat) (v : Value) : List (Nat × Value) := (i, v) :: lv.filter (fun q => !(q.1 == i) && !(q.1 + 1 == i && q.2.category == 2))
def l_set2 (lv : List (Nat × Value)) (i : Nat) (v : Value) : List (Nat × Value) := (i, v) :: lv.filter (fun q => !(q.1 == i) && (!(q.1 == i + 1) && !(q.1 + 1 == i && q.2.category == 2)))
theorem l_set_g (i : Nat) (v : Value) : (i, g_v G v) :: (g_l G lv).filter (fun q => !(q.1 == i) && !(q.1 + 1 == i && q.2.category == 2)) = g_l G (l_set lv i v) := by
  simp only [g_l, l_set, List.map_cons, List.filter_map]
  congr 3
  funext q
  simp only [Function.comp, g_v_cat]
theorem l_set2_g (i : Nat) (v : Value) : (i, g_v G v) :: (g_l G lv).filter (fun q => !(q.1 == i) && (!(q.1 == i + 1) && !(q.1 + 1 == i && q.2.category == 2))) = g_l G (l_set2 lv i v) := by
  simp only [g_l, l_set2, List.map_cons, List.filter_map]
  congr 3
  funext q
  simp only [Function.comp, g_v_cat]
theorem x_istore_n {q : Fin 4} {x : Int32} {lv2 : List (Nat × Value)} (hd : decode M.2.1 pc = .ok (.istore_n q, 1)) (hb : (q : Nat) < M.2.2.1) (hl : l_set lv (q : Nat) (.int x) = lv2) (k : X F G M rf rl (pc + 1) lv2 st h Q) : X F G M rf rl pc lv (.int x :: st) h Q := by
  subst hl
  exact X.stepL (fun p e R s m args below meth c H locs a n ls Z C hv w => lv_istore_n C.2.1 C.2.2.1 hd rfl hv hb (l_set_g (q : Nat) (.int x)) w) k
theorem x_istore {q : Nat} {x : Int32} {lv2 : List (Nat × Value)} (hd : decode M.2.1 pc = .ok (.istore q, 2)) (hb : q < M.2.2.1) (hl : l_set lv q (.int x) = lv2) (k : X F G M rf rl (pc + 2) lv2 st h Q) : X F G M rf rl pc lv (.int x :: st) h Q := by
  subst hl
  exact X.stepL (fun p e R s m args below meth c H locs a n ls Z C hv w => lv_istore C.2.1 C.2.2.1 hd hv hb (l_set_g q (.int x)) w) k
theorem x_lstore_n {q : Fin 4} {x : Int64} {lv2 : List (Nat × Value)} (hd : decode M.2.1 pc = .ok (.lstore_n q, 1)) (hb : (q : Nat) + 1 < M.2.2.1) (hl : l_set2 lv (q : Nat) (.long x) = lv2) (k : X F G M rf rl (pc + 1) lv2 st h Q) : X F G M rf rl pc lv (.long x :: st) h Q := by
  subst hl
  exact X.stepL (fun p e R s m args below meth c H locs a n ls Z C hv w => lv_lstore_n C.2.1 C.2.2.1 hd rfl hv hb (l_set2_g (q : Nat) (.long x)) w) k
theorem x_lstore {q : Nat} {x : Int64} {lv2 : List (Nat × Value)} (hd : decode M.2.1 pc = .ok (.lstore q, 2)) (hb : q + 1 < M.2.2.1) (hl : l_set2 lv q (.long x) = lv2) (k : X F G M rf rl (pc + 2) lv2 st h Q) : X F G M rf rl pc lv (.long x :: st) h Q := by
  subst hl
  exact X.stepL (fun p e R s m args below meth c H locs a n ls Z C hv w => lv_lstore C.2.1 C.2.2.1 hd hv hb (l_set2_g q (.long x)) w) k
theorem x_astore_n {q : Fin 4} {x : Nat} {lv2 : List (Nat × Value)} (hd : decode M.2.1 pc = .ok (.astore_n q, 1)) (hb : (q : Nat) < M.2.2.1) (hl : l_set lv (q : Nat) (.ref x) = lv2) (k : X F G M rf rl (pc + 1) lv2 st h Q) : X F G M rf rl pc lv (.ref x :: st) h Q := by
  subst hl
  exact X.stepL (fun p e R s m args below meth c H locs a n ls Z C hv w => lv_astore_n C.2.1 C.2.2.1 hd rfl hv hb (l_set_g (q : Nat) (.ref x)) w) k
theorem x_astore {q : Nat} {x : Nat} {lv2 : List (Nat × Value)} (hd : decode M.2.1 pc = .ok (.astore q, 2)) (hb : q < M.2.2.1) (hl : l_set lv q (.ref x) = lv2) (k : X F G M rf rl (pc + 2) lv2 st h Q) : X F G M rf rl pc lv (.ref x :: st) h Q := by
  subst hl
  exact X.stepL (fun p e R s m args below meth c H locs a n ls Z C hv w => lv_astore C.2.1 C.2.2.1 hd hv hb (l_set_g q (.ref x)) w) k
theorem x_astore_nN {q : Fin 4}  {lv2 : List (Nat × Value)} (hd : decode M.2.1 pc = .ok (.astore_n q, 1)) (hb : (q : Nat) < M.2.2.1) (hl : l_set lv (q : Nat) (.null) = lv2) (k : X F G M rf rl (pc + 1) lv2 st h Q) : X F G M rf rl pc lv (.null :: st) h Q := by
  subst hl
  exact X.stepL (fun p e R s m args below meth c H locs a n ls Z C hv w => lv_astore_nN C.2.1 C.2.2.1 hd rfl hv hb (l_set_g (q : Nat) (.null)) w) k
theorem x_astoreN {q : Nat}  {lv2 : List (Nat × Value)} (hd : decode M.2.1 pc = .ok (.astore q, 2)) (hb : q < M.2.2.1) (hl : l_set lv q (.null) = lv2) (k : X F G M rf rl (pc + 2) lv2 st h Q) : X F G M rf rl pc lv (.null :: st) h Q := by
  subst hl
  exact X.stepL (fun p e R s m args below meth c H locs a n ls Z C hv w => lv_astoreN C.2.1 C.2.2.1 hd hv hb (l_set_g q (.null)) w) k
theorem x_iinc {i : Nat} {n : Int} {x v : Int32} {lv2 : List (Nat × Value)} (hd : decode M.2.1 pc = .ok (.iinc i n, 3)) (j : Nat) (hj : lv[j]? = some (i, .int x)) (hv : x + Int32.ofInt n = v) (hb : i < M.2.2.1) (hl : l_set lv i (.int v) = lv2) (k : X F G M rf rl (pc + 3) lv2 st h Q) : X F G M rf rl pc lv st h Q := by
  subst hl
  exact X.stepL (fun p e R s m args below meth c H locs a n ls Z C hv9 w => lv_iinc C.2.1 C.2.2.1 hd hv9 (g_l_at hj) hv hb (l_set_g i (.int v)) w) k
end XS
end
section
abbrev cI (n : Nat) (f : Nat → Int32) : PE := .inl (0, (n, .inl f))
abbrev cJ (n : Nat) (f : Nat → Int64) : PE := .inl (1, (n, .inr (.inl f)))
abbrev cB (n : Nat) (f : Nat → Int32) : PE := .inl (2, (n, .inl f))
abbrev cZ (n : Nat) (f : Nat → Int32) : PE := .inl (3, (n, .inl f))
abbrev cR (t n : Nat) (f : Nat → Option Nat) : PE := .inl (t, (n, .inr (.inr (.inr (.inr f)))))
abbrev cO (ci : Nat) (fs : List Value) : PE := .inr (ci, fs)
/-- a field, by the class of the code that names it and the pool's number -/
def FL (own : String) (idx ci k : Nat) (ty : FieldType) (fin : Bool) : Prop := ∃ (C : String) (T : u_T) (N : Nat) (ty0 : Nat → FieldType), vwCl[ci]? = some (C, T, N) ∧ k < N ∧ (∀ w ∈ u_ws C T N, w ∈ lw_tbl) ∧ (∀ k, k < N → parseFieldDescriptor (T k).2.2.1 = some (ty0 k)) ∧ (∀ a, a < N → ∀ b, b < N → a ≠ b → (T a).2.1 ≠ (T b).2.1) ∧ Cond.fieldLink own idx (T k).1 (T k).2.1 (T k).2.2.1 ∈ lw_tbl ∧ parseFieldDescriptor (T k).2.2.1 = some ty ∧ (T k).2.2.2 = fin ∧ (T k).1 = C
theorem u_good {C : String} {T : u_T} {N : Nat} {w : Cond} (h : w ∈ u_ws C T N) : goodWord w = true := by
  obtain ⟨k, -, rfl⟩ := List.mem_map.mp h
  unfold u_lay
  split <;> rfl
section XH
variable {Ω : Type} {F : FT Ω} {G : GT} {M : MT} {rf rl pc : Nat} {lv : List (Nat × Value)} {st : List Value} {h : List PE} {Q : Ω → Prop}
theorem Hr.put {H H1 : Heap} {a : Nat} {c c' : PE} (hr : Hr G h H) (hh : h[a]? = some c) (ha : 3 ≤ a) (he : va_at G.2.1 vwCl (g_ad G a, g_c G c') H1) (hz : H1.size = H.size) (oq : ∀ q, q ≠ g_ad G a → H1[q]? = H[q]?) : Hr G (h.set a c') H1 :=
  ⟨by rw [← g_w_set ha]; exact hr.1.set (g_w_D G h) (g_w_get hh ha) he oq, by rw [hz, List.length_set]; exact hr.2.1, by rw [List.length_set]; exact hr.2.2.1, by rw [List.getElem?_set_ne (by omega)]; exact hr.2.2.2⟩
theorem g_ad_B {a : Nat} (ha : 3 ≤ a) : g_B G ≤ g_ad G a := by rw [g_ad_ge ha]; exact Nat.le_add_right _ _
theorem x_get {idx ci i a : Nat} {ty : FieldType} {fin : Bool} {fs : List Value} {v : Value} (hd : decode M.2.1 pc = .ok (.getfield idx, 3)) (hF : FL M.1.cls idx ci i ty fin) (hh : h[a]? = some (cO ci fs)) (ha : 3 ≤ a) (hv : fs[i]? = some v) (k : X F G M rf rl (pc + 3) lv (v :: st) h Q) : X F G M rf rl pc lv (.ref a :: st) h Q := by
  obtain ⟨C0, T, N, ty0, hc, hk, hin, -, -, hl, -⟩ := hF
  refine X.step (fun p e R s m args below meth c H locs a' n ls Z C hv9 hr hS w => ?_) k
  exact va_get (D := G.2.1) (cl := vwCl) (tys := g_ty G) (Ts := u_ws C0 T N) C.2.1 C.2.2.1 (fun w' hw' => g_word C.1 C.2.2.2.2.2.2.2.2 (hin w' hw') (u_good hw')) (fun _ h => h) C.2.2.2.2.2.1 (g_K C.1 C.2.2.2.2.2.2.2.2) hr.1 (a - 3) (g_w_get hh ha) hc i hk (g_word C.1 C.2.2.2.2.2.2.2.2 hl rfl) (fun _ h9 => h9) (by rw [List.getElem?_map, hv]; rfl) hd w
theorem x_put0 {idx ci i a : Nat} {ty : FieldType} {fin : Bool} {fs : List Value} {v : Value} (hd : decode M.2.1 pc = .ok (.putfield idx, 3)) (hF : FL M.1.cls idx ci i ty fin) (hfin : fin = false ∨ (M.1.name = "<init>" ∧ ∃ q, vwCl[ci]? = some q ∧ q.1 = M.1.cls)) (hh : h[a]? = some (cO ci fs)) (ha : 3 ≤ a) (hn : narrow ty (g_v G v) = g_v G v) (hfit : fits ty (g_v G v) = true) (hi : i < fs.length) (k : X F G M rf rl (pc + 3) lv st (h.set a (cO ci (fs.set i v))) Q) : X F G M rf rl pc lv (v :: .ref a :: st) h Q := by
  obtain ⟨C0, T, N, ty0, hc, hk, hin, hty, hnm, hl, hty2, hfn, hdc⟩ := hF
  refine X.stepH (by simp) (g_s_set hh (by simp [g_n])) (fun p e R s m args below meth c H locs a' n ls Z C hr hS w => ?_) k
  have hO := C.2.2.2.2.2.2.2.2
  have hK := g_K C.1 hO
  have hown := C.2.2.2.2.2.1
  have hts : ∀ w' ∈ u_ws C0 T N, w'.before args s = true := fun w' hw' => g_word C.1 hO (hin w' hw') (u_good hw')
  have hap := va_apart (own := M.1.cls) hts (fun _ h => h) ty0 hty hnm hK hc
  obtain ⟨r, h1, cell, q1, q2, q3, q4⟩ := hr.1 (a - 3) _ (g_w_get hh ha)
  have hr9 : r = (C0, T, N) := Option.some.inj (h1.symm.trans hc)
  subst hr9
  obtain ⟨hS9, hfc, kC, hkC, hkind⟩ := hK.1 ci _ hc
  obtain ⟨cf, kf, fi, f, hi9, hsl⟩ := hS9 i hk
  have hst := (u_facts hfc hkC (u_lays hts (fun _ h => h) hk) hi9).1
  have hlay := hts _ (u_in_lay hk)
  have hlink : (Cond.fieldLink M.1.cls idx (T i).1 (T i).2.1 (T i).2.2.1).before args s = true := g_word C.1 hO hl rfl
  have fin9 : ∀ H' : Heap, H'[g_ad G a]? = some (cell.setSlot (G.2.1.2 ci i) (g_v G v)) → H'.size = H.size → (∀ q, q ≠ g_ad G a → H'[q]? = H[q]?) → Hr G (h.set a (cO ci (fs.set i v))) H' := by
    intro H' e1 e2 e3
    refine hr.put hh ha ?_ e2 e3
    refine ⟨_, hc, ?_⟩
    show t_OB (g_ad G a) (G.2.1.1 ci) N (G.2.1.2 ci) H' (vp_V ((fs.set i v).map (g_v G)))
    rw [List.map_set]
    exact t_OB.to (V := updV (vp_V (fs.map (g_v G))) i (g_v G v)) ⟨_, e1, q2, q3, t_set q4 hap hk (g_v G v)⟩ (fun j _ => vp_updV_set (fs := fs.map (g_v G)) (by rw [List.length_map]; exact hi) (g_v G v) j)
  cases hfb : (T i).2.2.2 with
  | false =>
    unfold u_lay at hlay
    rw [if_neg (by rw [hfb]; decide)] at hlay
    have h6 := u_store hfc hkC hkind hlay hi9 hty2 hn hfit
    refine W.putK C.2.1 C.2.2.1 (f := f) ⟨hown, hlink, ⟨_, _, _, hi9⟩, hst⟩ (by rw [q2]; exact h6) q1 q3 (by rw [hsl]; exact k2_hasslot (q4 i hk)) rfl rfl hd fun H' e1 e2 e3 => ?_
    rw [hsl] at e1 ⊢
    exact w H' _ (fin9 H' e1 e2 e3) (hS.put e2 e3 (g_ad_B ha))
  | true =>
    rcases hfin with h0 | ⟨hin2, q, hq1, hq2⟩
    · exact absurd (hfb.symm.trans (hfn.trans h0)) (by decide)
    · have hCo : C0 = M.1.cls := by
        have := hq1.symm.trans hc
        have h9 := Option.some.inj this
        rw [← hq2, h9]
      unfold u_lay at hlay
      rw [if_pos hfb] at hlay
      have hcf : m.cls = cf := by
        obtain ⟨_, _, c', _, _, _, -, -, hf', -, -, -, hown2, -⟩ := Cond.laysFinal_spec hlay
        have e1 : c' = cf := by have := hi9.symm.trans hf'; simp at this; exact this.1.symm
        rw [hdc, hCo] at hown2
        rw [← e1]; exact Option.some.inj (hown.symm.trans hown2)
      have h6 := u_fits hfc hkC hkind (Or.inr hlay) hi9 hty2 hn hfit
      refine W.putFinK C.2.1 C.2.2.1 hown hlink hi9 hst hcf (C.2.2.2.2.2.2.2.1.trans hin2) (by rw [q2]; exact h6) q1 q3 (by rw [hsl]; exact k2_hasslot (q4 i hk)) rfl rfl hd fun H' e1 e2 e3 => ?_
      rw [hsl] at e1 ⊢
      exact w H' _ (fin9 H' e1 e2 e3) (hS.put e2 e3 (g_ad_B ha))
/-- behind a store: the cell, the others, the length, the slots -/
theorem at_set9 {a : Nat} {c c' : PE} (hh : h[a]? = some c) (hn : g_n c' = g_n c) {P : List PE → Prop} (k : ∀ h2 : List PE, h2[a]? = some c' → (∀ j, j ≠ a → h2[j]? = h[j]?) → h2.length = h.length → g_s h2 = g_s h → P h2) : P (h.set a c') :=
  k _ (List.getElem?_set_self (List.getElem?_eq_some_iff.mp hh).1) (fun j hj => List.getElem?_set_ne (Ne.symm hj)) (List.length_set ..) (g_s_set hh hn)
theorem x_put {idx ci i a : Nat} {ty : FieldType} {fin : Bool} {fs fs2 : List Value} {v : Value} (hd : decode M.2.1 pc = .ok (.putfield idx, 3)) (hF : FL M.1.cls idx ci i ty fin) (hfin : fin = false ∨ (M.1.name = "<init>" ∧ ∃ q, vwCl[ci]? = some q ∧ q.1 = M.1.cls)) (hh : h[a]? = some (cO ci fs)) (ha : 3 ≤ a) (hn : narrow ty (g_v G v) = g_v G v) (hfit : fits ty (g_v G v) = true) (hi : i < fs.length) (hf2 : fs.set i v = fs2) (k : ∀ h2 : List PE, h2[a]? = some (cO ci fs2) → (∀ j, j ≠ a → h2[j]? = h[j]?) → h2.length = h.length → g_s h2 = g_s h → X F G M rf rl (pc + 3) lv st h2 Q) : X F G M rf rl pc lv (v :: .ref a :: st) h Q := by
  subst hf2
  exact x_put0 hd hF hfin hh ha hn hfit hi (at_set9 hh (by simp [g_n]) k)
theorem g_arr {s : State} (hG : GOK G) (ho : Od G s) {t : Nat} {ty : FieldType} (ht : (g_ty G)[t]? = some (g_aC G t, ty)) (n : Nat) (z : Nat → Value) : s.isArrayOf (arrV (g_aC G t) n z) ty := ((g_K hG ho).2 t _ ht).1 n z
theorem x_iald {a n : Nat} {f : Nat → Int32} {i : Int32} (hd : decode M.2.1 pc = .ok (.iaload, 1)) (hh : h[a]? = some (cI n f)) (ha : 3 ≤ a) (hin : vp_in i n) (k : X F G M rf rl (pc + 1) lv (.int (f i.toNatClampNeg) :: st) h Q) : X F G M rf rl pc lv (.int i :: .ref a :: st) h Q :=
  X.step (fun p e R s m args below meth c H locs a' n ls Z C hv9 hr hS w => va_iald (D := G.2.1) (cl := vwCl) (tys := g_ty G) C.2.1 C.2.2.1 (g_K C.1 C.2.2.2.2.2.2.2.2) hr.1 (a - 3) 0 (g_w_get hh ha) rfl hin hd w) k
theorem x_bald {a n : Nat} {f : Nat → Int32} {i : Int32} (hd : decode M.2.1 pc = .ok (.baload, 1)) (hh : h[a]? = some (cB n f)) (ha : 3 ≤ a) (hin : vp_in i n) (k : X F G M rf rl (pc + 1) lv (.int (f i.toNatClampNeg) :: st) h Q) : X F G M rf rl pc lv (.int i :: .ref a :: st) h Q :=
  X.step (fun p e R s m args below meth c H locs a' n ls Z C hv9 hr hS w => va_bald (D := G.2.1) (cl := vwCl) (tys := g_ty G) C.2.1 C.2.2.1 (g_K C.1 C.2.2.2.2.2.2.2.2) hr.1 (a - 3) 2 (g_w_get hh ha) rfl hin hd w) k
theorem x_zald {a n : Nat} {f : Nat → Int32} {i : Int32} (hd : decode M.2.1 pc = .ok (.baload, 1)) (hh : h[a]? = some (cZ n f)) (ha : 3 ≤ a) (hin : vp_in i n) (k : X F G M rf rl (pc + 1) lv (.int (f i.toNatClampNeg) :: st) h Q) : X F G M rf rl pc lv (.int i :: .ref a :: st) h Q :=
  X.step (fun p e R s m args below meth c H locs a' n ls Z C hv9 hr hS w => va_zald (D := G.2.1) (cl := vwCl) (tys := g_ty G) C.2.1 C.2.2.1 (g_K C.1 C.2.2.2.2.2.2.2.2) hr.1 (a - 3) 3 (g_w_get hh ha) rfl hin hd w) k
theorem x_lald {a n : Nat} {f : Nat → Int64} {i : Int32} (hd : decode M.2.1 pc = .ok (.laload, 1)) (hh : h[a]? = some (cJ n f)) (ha : 3 ≤ a) (hin : vp_in i n) (k : X F G M rf rl (pc + 1) lv (.long (f i.toNatClampNeg) :: st) h Q) : X F G M rf rl pc lv (.int i :: .ref a :: st) h Q :=
  X.step (fun p e R s m args below meth c H locs a' n ls Z C hv9 hr hS w => va_lald (D := G.2.1) (cl := vwCl) (tys := g_ty G) C.2.1 C.2.2.1 (g_K C.1 C.2.2.2.2.2.2.2.2) hr.1 (a - 3) 1 (g_w_get hh ha) rfl hin hd w) k
theorem g_v_rf (r : Option Nat) : g_v G (va_rf r) = va_rf (r.map (g_ad G)) := by cases r <;> rfl
theorem x_aald {a n t : Nat} {C0 : String} {f : Nat → Option Nat} {i : Int32} {r : Option Nat} (ht : (g_ty G)[t]? = some (g_aC G t, .object C0)) (hd : decode M.2.1 pc = .ok (.aaload, 1)) (hh : h[a]? = some (cR t n f)) (ha : 3 ≤ a) (hin : vp_in i n) (hf : f i.toNatClampNeg = r) (k : X F G M rf rl (pc + 1) lv (va_rf r :: st) h Q) : X F G M rf rl pc lv (.int i :: .ref a :: st) h Q := by
  subst hf
  refine X.step (fun p e R s m args below meth c H locs a' n ls Z C hv9 hr hS w => ?_) k
  rw [List.map_cons, g_v_rf] at w
  exact va_aldq (D := G.2.1) (cl := vwCl) (tys := g_ty G) (C := C0) C.2.1 C.2.2.1 (g_K C.1 C.2.2.2.2.2.2.2.2) hr.1 (a - 3) t (g_w_get hh ha) ht hin hd w
theorem x_alen {a t : Nat} {x : vp_A} {ty : FieldType} {v : Int32} (ht : (g_ty G)[t]? = some (g_aC G t, ty)) (hd : decode M.2.1 pc = .ok (.arraylength, 1)) (hh : h[a]? = some (.inl (t, x))) (ha : 3 ≤ a) (hv : Int32.ofNat x.1 = v) (k : X F G M rf rl (pc + 1) lv (.int v :: st) h Q) : X F G M rf rl pc lv (.ref a :: st) h Q :=
  X.step (fun p e R s m args below meth c H locs a' n ls Z C hv9 hr hS w => va_alen (D := G.2.1) (cl := vwCl) (tys := g_ty G) C.2.1 C.2.2.1 (g_K C.1 C.2.2.2.2.2.2.2.2) hr.1 (a - 3) t (g_w_get hh ha) ht (by exact hv) hd w) k
theorem g_scr {s : State} (hG : GOK G) (ho : Od G s) : va_X (g_o3 G 0) (g_L G) (g_xs G) s s.heap := (va_X.moved ho.1.alike hG.2.2.2.1).kept (ho.2.1 _ (hG.2.2.2.2.2.1 0 (by decide)))
theorem x_sld {i : Int32} (hd : decode M.2.1 pc = .ok (.iaload, 1)) (hin : vp_in i (g_L G)) (k : X F G M rf rl (pc + 1) lv (.int (g_xs G i.toNatClampNeg) :: st) h Q) : X F G M rf rl pc lv (.int i :: .ref 0 :: st) h Q :=
  X.step (fun p e R s m args below meth c H locs a' n ls Z C hv9 hr hS w => va_sld C.2.1 C.2.2.1 (g_scr C.1 C.2.2.2.2.2.2.2.2) (Nat.lt_of_lt_of_le (C.1.2.2.2.2.2.1 0 (by decide)) C.2.2.2.2.2.2.2.2.2.2) (Nat.not_le.mpr (C.1.2.2.2.2.2.1 0 (by decide))) hS hin hd w) k
theorem x_slen (hd : decode M.2.1 pc = .ok (.arraylength, 1)) (k : X F G M rf rl (pc + 1) lv (.int (Int32.ofNat (g_L G)) :: st) h Q) : X F G M rf rl pc lv (.ref 0 :: st) h Q :=
  X.step (fun p e R s m args below meth c H locs a' n ls Z C hv9 hr hS w => va_slen C.2.1 C.2.2.1 (g_scr C.1 C.2.2.2.2.2.2.2.2) (Nat.lt_of_lt_of_le (C.1.2.2.2.2.2.1 0 (by decide)) C.2.2.2.2.2.2.2.2.2.2) (Nat.not_le.mpr (C.1.2.2.2.2.2.1 0 (by decide))) hS hd w) k
theorem arrV_upd (cA : ClassId) (n j : Nat) (f : Nat → Value) (g : Nat → Value) (x : Value) (hg : ∀ q, g q = if q = j then x else f q) : (arrV cA n f).setSlot j x = arrV cA n g := by
  rw [arrV_store]
  congr 1
  funext q
  rw [hg q]
  rfl
theorem x_iast {a n : Nat} {f : Nat → Int32} {i x : Int32} (hd : decode M.2.1 pc = .ok (.iastore, 1)) (hh : h[a]? = some (cI n f)) (ha : 3 ≤ a) (hin : vp_in i n) (k : ∀ h2 : List PE, h2[a]? = some (cI n (upd f i.toNatClampNeg x)) → (∀ j, j ≠ a → h2[j]? = h[j]?) → h2.length = h.length → g_s h2 = g_s h → X F G M rf rl (pc + 1) lv st h2 Q) : X F G M rf rl pc lv (.int x :: .int i :: .ref a :: st) h Q := by
  refine X.stepH (h2 := h.set a (cI n (upd f i.toNatClampNeg x))) (by simp) (g_s_set hh rfl) (fun p e R s m args below meth c H locs a' n9 ls Z C hr hS w => ?_) (at_set9 (c' := cI n (upd f i.toNatClampNeg x)) hh rfl k)
  refine W.iast C.2.1 C.2.2.1 (hr.1 (a - 3) _ (g_w_get hh ha)) (g_arr C.1 C.2.2.2.2.2.2.2.2 (t := 0) rfl n (fun j => .int (f j))) (fun q => by cases q) (by show ¬ (i < 0 ∨ (arrV _ _ _).slots.size ≤ _); rw [arrV_size]; exact hin) rfl rfl hd fun H1 e z oq => w H1 _ (hr.put hh ha ?_ z oq) (hS.put z oq (g_ad_B ha))
  exact e.trans (congrArg some (arrV_upd _ n i.toNatClampNeg (fun j => .int (f j)) (fun j => .int (upd f i.toNatClampNeg x j)) (.int x) (fun q => by unfold upd; split <;> rfl)))
theorem x_bast {a n : Nat} {f : Nat → Int32} {i x : Int32} (hd : decode M.2.1 pc = .ok (.bastore, 1)) (hh : h[a]? = some (cB n f)) (ha : 3 ≤ a) (hin : vp_in i n) (k : ∀ h2 : List PE, h2[a]? = some (cB n (upd f i.toNatClampNeg (x.toInt8.toInt32))) → (∀ j, j ≠ a → h2[j]? = h[j]?) → h2.length = h.length → g_s h2 = g_s h → X F G M rf rl (pc + 1) lv st h2 Q) : X F G M rf rl pc lv (.int x :: .int i :: .ref a :: st) h Q := by
  refine X.stepH (h2 := h.set a (cB n (upd f i.toNatClampNeg (x.toInt8.toInt32)))) (by simp) (g_s_set hh rfl) (fun p e R s m args below meth c H locs a' n9 ls Z C hr hS w => ?_) (at_set9 (c' := cB n (upd f i.toNatClampNeg (x.toInt8.toInt32))) hh rfl k)
  refine W.bast C.2.1 C.2.2.1 (hr.1 (a - 3) _ (g_w_get hh ha)) (g_arr C.1 C.2.2.2.2.2.2.2.2 (t := 2) rfl n (fun j => .int (f j))) (fun q => by cases q) (by show ¬ (i < 0 ∨ (arrV _ _ _).slots.size ≤ _); rw [arrV_size]; exact hin) rfl rfl hd fun H1 e z oq => w H1 _ (hr.put hh ha ?_ z oq) (hS.put z oq (g_ad_B ha))
  exact e.trans (congrArg some (arrV_upd _ n i.toNatClampNeg (fun j => .int (f j)) (fun j => .int (upd f i.toNatClampNeg x.toInt8.toInt32 j)) _ (fun q => by unfold upd; split <;> rfl)))
theorem x_zast {a n : Nat} {f : Nat → Int32} {i x : Int32} (hd : decode M.2.1 pc = .ok (.bastore, 1)) (hh : h[a]? = some (cZ n f)) (ha : 3 ≤ a) (hin : vp_in i n) (hx : x = 0 ∨ x = 1) (k : ∀ h2 : List PE, h2[a]? = some (cZ n (upd f i.toNatClampNeg x)) → (∀ j, j ≠ a → h2[j]? = h[j]?) → h2.length = h.length → g_s h2 = g_s h → X F G M rf rl (pc + 1) lv st h2 Q) : X F G M rf rl pc lv (.int x :: .int i :: .ref a :: st) h Q := by
  have hnx : narrow .boolean (.int x) = .int x := by rcases hx with rfl | rfl <;> rfl
  refine X.stepH (h2 := h.set a (cZ n (upd f i.toNatClampNeg x))) (by simp) (g_s_set hh rfl) (fun p e R s m args below meth c H locs a' n9 ls Z C hr hS w => ?_) (at_set9 (c' := cZ n (upd f i.toNatClampNeg x)) hh rfl k)
  refine W.zast C.2.1 C.2.2.1 (hr.1 (a - 3) _ (g_w_get hh ha)) (g_arr C.1 C.2.2.2.2.2.2.2.2 (t := 3) rfl n (fun j => .int (f j))) (fun q => by cases q) (by show ¬ (i < 0 ∨ (arrV _ _ _).slots.size ≤ _); rw [arrV_size]; exact hin) rfl rfl hd fun H1 e z oq => w H1 _ (hr.put hh ha ?_ z oq) (hS.put z oq (g_ad_B ha))
  rw [hnx] at e
  exact e.trans (congrArg some (arrV_upd _ n i.toNatClampNeg (fun j => .int (f j)) (fun j => .int (upd f i.toNatClampNeg x j)) (.int x) (fun q => by unfold upd; split <;> rfl)))
theorem x_last {a n : Nat} {f : Nat → Int64} {i : Int32} {x : Int64} (hd : decode M.2.1 pc = .ok (.lastore, 1)) (hh : h[a]? = some (cJ n f)) (ha : 3 ≤ a) (hin : vp_in i n) (k : ∀ h2 : List PE, h2[a]? = some (cJ n (vp_updL f i.toNatClampNeg x)) → (∀ j, j ≠ a → h2[j]? = h[j]?) → h2.length = h.length → g_s h2 = g_s h → X F G M rf rl (pc + 1) lv st h2 Q) : X F G M rf rl pc lv (.long x :: .int i :: .ref a :: st) h Q := by
  refine X.stepH (h2 := h.set a (cJ n (vp_updL f i.toNatClampNeg x))) (by simp) (g_s_set hh rfl) (fun p e R s m args below meth c H locs a' n9 ls Z C hr hS w => ?_) (at_set9 (c' := cJ n (vp_updL f i.toNatClampNeg x)) hh rfl k)
  refine W.last C.2.1 C.2.2.1 (hr.1 (a - 3) _ (g_w_get hh ha)) (g_arr C.1 C.2.2.2.2.2.2.2.2 (t := 1) rfl n (fun j => .long (f j))) (fun q => by cases q) (by show ¬ (i < 0 ∨ (arrV _ _ _).slots.size ≤ _); rw [arrV_size]; exact hin) rfl rfl hd fun H1 e z oq => w H1 _ (hr.put hh ha ?_ z oq) (hS.put z oq (g_ad_B ha))
  exact e.trans (congrArg some (arrV_upd _ n i.toNatClampNeg (fun j => .long (f j)) (fun j => .long (vp_updL f i.toNatClampNeg x j)) (.long x) (fun q => by unfold vp_updL; split <;> rfl)))
theorem x_aast {a n t v ci : Nat} {q : vw_C} {fs : List Value} {f : Nat → Option Nat} {i : Int32} (ht : (g_ty G)[t]? = some (g_aC G t, .object q.1)) (hc : vwCl[ci]? = some q) (hd : decode M.2.1 pc = .ok (.aastore, 1)) (hh : h[a]? = some (cR t n f)) (ha : 3 ≤ a) (hvv : h[v]? = some (cO ci fs)) (hv3 : 3 ≤ v) (hin : vp_in i n) (k : ∀ h2 : List PE, h2[a]? = some (cR t n (va_up f i.toNatClampNeg (some v))) → (∀ j, j ≠ a → h2[j]? = h[j]?) → h2.length = h.length → g_s h2 = g_s h → X F G M rf rl (pc + 1) lv st h2 Q) : X F G M rf rl pc lv (.ref v :: .int i :: .ref a :: st) h Q := by
  refine X.stepH (h2 := h.set a (cR t n (va_up f i.toNatClampNeg (some v)))) (by simp) (g_s_set hh rfl) (fun p e R s m args below meth c H locs a' n9 ls Z C hr hS w => ?_) (at_set9 (c' := cR t n (va_up f i.toNatClampNeg (some v))) hh rfl k)
  have hlt : i.toNatClampNeg < n := Nat.not_le.mp fun q => hin (Or.inr q)
  have h0 : ¬ i < 0 := fun q => hin (Or.inl q)
  have hK := g_K C.1 C.2.2.2.2.2.2.2.2
  obtain ⟨r', hr', cellV, g1, g2, g3, -⟩ := hr.1 (v - 3) _ (g_w_get hvv hv3)
  have hcls := (hK.1 ci q hc).2
  obtain ⟨kA, comp, k1, k2, k3, -⟩ := (hK.2 t _ ht).2
  have hcomp : comp = G.2.1.1 ci := Option.some.inj (k3.symm.trans hcls.1)
  subst hcomp
  obtain ⟨kC, hkC, -⟩ := hcls.2
  refine W.aast C.2.1 C.2.2.1 (hr.1 (a - 3) _ (g_w_get hh ha)) (fun q h => by cases h) (fun h => by cases h) k1 k2 rfl hkC ⟨h0, by show _ < (arrV _ _ _).slots.size; rw [arrV_size]; exact hlt⟩ g1 (fun q h => by rw [g3] at h; cases h) (by rw [g2]; exact hkC) (by rw [g2]; exact va_assign hcls) rfl rfl hd fun H1 e z oq => w H1 _ (hr.put hh ha ?_ z oq) (hS.put z oq (g_ad_B ha))
  exact e.trans (congrArg some (arrV_upd _ n i.toNatClampNeg (fun j => va_rf ((f j).map (g_ad G))) (fun j => va_rf ((va_up f i.toNatClampNeg (some v) j).map (g_ad G))) (.ref (g_ad G v)) (fun q => by unfold va_up; split <;> rfl)))
theorem x_aastN {a n t : Nat} {C0 : String} {f : Nat → Option Nat} {i : Int32} (ht : (g_ty G)[t]? = some (g_aC G t, .object C0)) (hd : decode M.2.1 pc = .ok (.aastore, 1)) (hh : h[a]? = some (cR t n f)) (ha : 3 ≤ a) (hin : vp_in i n) (k : ∀ h2 : List PE, h2[a]? = some (cR t n (va_up f i.toNatClampNeg none)) → (∀ j, j ≠ a → h2[j]? = h[j]?) → h2.length = h.length → g_s h2 = g_s h → X F G M rf rl (pc + 1) lv st h2 Q) : X F G M rf rl pc lv (.null :: .int i :: .ref a :: st) h Q := by
  refine X.stepH (h2 := h.set a (cR t n (va_up f i.toNatClampNeg none))) (by simp) (g_s_set hh rfl) (fun p e R s m args below meth c H locs a' n9 ls Z C hr hS w => ?_) (at_set9 (c' := cR t n (va_up f i.toNatClampNeg none)) hh rfl k)
  refine va_WaastN (C := C0) C.2.1 C.2.2.1 (hr.1 (a - 3) _ (g_w_get hh ha)) (g_arr C.1 C.2.2.2.2.2.2.2.2 ht n (fun j => va_rf ((f j).map (g_ad G)))) (fun h => by cases h) (by show ¬ (i < 0 ∨ (arrV _ _ _).slots.size ≤ _); rw [arrV_size]; exact hin) rfl rfl hd fun H1 e z oq => w H1 _ (hr.put hh ha ?_ z oq) (hS.put z oq (g_ad_B ha))
  exact e.trans (congrArg some (arrV_upd _ n i.toNatClampNeg (fun j => va_rf ((f j).map (g_ad G))) (fun j => va_rf ((va_up f i.toNatClampNeg none j).map (g_ad G))) .null (fun q => by unfold va_up; split <;> rfl)))
end XH
end
section
section XN
variable {Ω : Type} {F : FT Ω} {G : GT} {M : MT} {rf rl pc : Nat} {lv : List (Nat × Value)} {st : List Value} {h : List PE} {Q : Ω → Prop}
/-- a class that the code makes, by the pool's number -/
def NL (own : String) (idx ci N : Nat) (fs : List Value) : Prop := ∃ (C : String) (T : u_T) (ty0 : Nat → FieldType), vwCl[ci]? = some (C, T, N) ∧ (∀ w ∈ u_ws C T N, w ∈ lw_tbl) ∧ (∀ k, k < N → parseFieldDescriptor (T k).2.2.1 = some (ty0 k)) ∧ Cond.classLink own idx C ∈ lw_tbl ∧ Cond.instantiable C N ∈ lw_tbl ∧ Cond.initialized C ∈ lw_tbl ∧ fs.length = N ∧ (∀ j, j < N → defaultValue (ty0 j) = vp_V fs j) ∧ fs.all (fun v => match v with | .ref _ => false | _ => true) = true
theorem g_v_plain {fs : List Value} (h : fs.all (fun v => match v with | .ref _ => false | _ => true) = true) : fs.map (g_v G) = fs := by
  induction fs with
  | nil => rfl
  | cons v l ih =>
    rw [List.all_cons, Bool.and_eq_true] at h
    rw [List.map_cons, ih h.2]
    cases v <;> first | rfl | (exact absurd h.1 Bool.false_ne_true)
theorem Hr.push {H H1 : Heap} {c : PE} (hr : Hr G h H) (hz : H1.size = H.size + 1) (o1 : ∀ q, q < H.size → H1[q]? = H[q]?) (he : va_at G.2.1 vwCl (g_ad G h.length, g_c G c) H1) : Hr G (h ++ [c]) H1 := by
  refine ⟨?_, by rw [hz, List.length_append]; have := hr.2.1; simp; omega, by rw [List.length_append]; have := hr.2.2.1; omega, by rw [List.getElem?_append_left (by have := hr.2.2.1; omega)]; exact hr.2.2.2⟩
  rw [← g_w_push hr.2.2.1]
  refine (hr.1.kept (fun k x hx => o1 x.1 ((hr.1 k x hx).lt))).app (fun k x hx => ?_)
  have hz : k < 1 := (List.getElem?_eq_some_iff.mp hx).1
  rw [show k = 0 by omega] at hx
  cases hx
  exact he
theorem g_size {H : Heap} (hr : Hr G h H) : g_ad G h.length = H.size := by
  rw [g_ad_ge hr.2.2.1]
  have h1 := hr.2.1
  have h2 := hr.2.2.1
  omega
/-- a new cell -/
theorem X.stepN {pc2 : Nat} {st2 : List Value} {c : PE}
    (f : ∀ (p : Program) (e : Env) (R : Room) (s : State) (m : MethodId) (args : Array Value) (below : List Frame) (meth : Method) (c9 : Code) (H : Heap) (locs : List Loc) (k n : Nat) (ls : Array Slot) (Z : State → Prop), Cx G M p s m meth c9 → Hr G h H → va_S (fun q => g_B G ≤ q) s.heap H locs → k + 1 ≤ R.cells → n + g_n c ≤ R.slots →
      (∀ (H2 : Heap), Hr G (h ++ [c]) H2 → va_S (fun q => g_B G ≤ q) s.heap H2 locs → W p G.1 e R s m args below meth c9 H2 locs (k + 1) (n + g_n c) Z (F0 m pc2 ls (st2.map (g_v G)))) → W p G.1 e R s m args below meth c9 H locs k n Z (F0 m pc ls (st.map (g_v G))))
    (k : ∀ (h2 : List PE) (a : Nat), a = h.length → h2 = h ++ [c] → X F G M rf rl pc2 lv st2 h2 Q) : X F G M rf rl pc lv st h Q := by
  obtain ⟨o, q, h1, h3, w⟩ := k _ _ rfl rfl
  have hl : (h ++ [c]).length = h.length + 1 := by simp
  have hs := g_s_push h c
  refine ⟨o, q, by omega, by omega, fun p e R s m args below meth c9 H locs n0 s0 ls C => ?_⟩
  obtain ⟨c1, c2, c3, c4, c5, c6, c7, c8, c9', c10⟩ := C
  refine f p e R s m args below meth c9 H locs _ _ ls _ c1 c8 c9' (by omega) (by omega) (fun H2 hr hS => ?_)
  have w9 := w p e R s m args below meth c9 H2 locs n0 s0 ls ⟨c1, c2, c3, c4, c5, by omega, by omega, hr, hS, c10⟩
  rw [hl, hs, show h.length + 1 - n0 = h.length - n0 + 1 by omega, show g_s h + g_n c - s0 = g_s h - s0 + g_n c by omega] at w9
  exact w9
/-- behind a making: the new cell, the old ones, the length, the slots -/
theorem at_push9 {c : PE} {P : List PE → Nat → Prop} (k : ∀ (h2 : List PE) (a : Nat), a = h.length → h2[a]? = some c → (∀ j, j < a → h2[j]? = h[j]?) → h2.length = a + 1 → g_s h2 = g_s h + g_n c → P h2 a) : ∀ (h2 : List PE) (a : Nat), a = h.length → h2 = h ++ [c] → P h2 a := by
  rintro h2 a rfl rfl
  exact k _ _ rfl (by simp) (fun j hj => List.getElem?_append_left hj) (by simp) (g_s_push h c)
theorem x_new {idx ci N : Nat} {fs : List Value} (hd : decode M.2.1 pc = .ok (.new idx, 3)) (hN : NL M.1.cls idx ci N fs) (k : ∀ (h2 : List PE) (a : Nat), a = h.length → h2[a]? = some (cO ci fs) → (∀ j, j < a → h2[j]? = h[j]?) → h2.length = a + 1 → g_s h2 = g_s h + N → X F G M rf rl (pc + 3) lv (.ref a :: st) h2 Q) : X F G M rf rl pc lv st h Q := by
  obtain ⟨C0, T, ty0, hc, hin, hty, hcl, hins, hini, hlen, hfs, hall⟩ := hN
  have hmap := g_v_plain (G := G) hall
  have hgn : g_n (cO ci fs) = N := hlen
  refine X.stepN (c := cO ci fs) (pc2 := pc + 3) (st2 := .ref h.length :: st) (fun p e R s m args below meth c H locs a' n ls Z C hr hS hk hn w => ?_) (fun h2 a ha => ?_)
  · have hO := C.2.2.2.2.2.2.2.2
    have hts : ∀ w' ∈ u_ws C0 T N, w'.before args s = true := fun w' hw' => g_word C.1 hO (hin w' hw') (u_good hw')
    have hKn := (g_K C.1 hO).1 ci _ hc
    rw [hgn] at hn
    refine W.newcK C.2.1 C.2.2.1 C.2.2.2.2.2.1 (g_word C.1 hO hcl rfl) (g_word C.1 hO hins rfl) (g_word C.1 hO hini rfl) rfl hd hk hn hKn.2.1 rfl fun H1 kC hkC e1 z1 o1 => ?_
    have w9 := w H1 (hr.push z1 o1 ⟨_, hc, ?_⟩) ⟨Nat.le_trans hS.1 (by omega), fun x h1 h2 => (o1 x (Nat.lt_of_lt_of_le h1 hS.1)).trans (hS.2.1 x h1 h2), hS.2.2⟩
    · rw [hgn, List.map_cons, show g_v G (.ref h.length) = .ref H.size from congrArg Value.ref (g_size hr)] at w9
      exact w9
    · show t_OB (g_ad G h.length) _ N _ H1 (vp_V (fs.map (g_v G)))
      rw [hmap, g_size hr]
      exact (u_born ty0 hts (fun _ h => h) hKn hkC e1 hty).to hfs
  · subst ha
    rintro rfl
    exact k _ _ rfl (by simp) (fun j hj => List.getElem?_append_left hj) (by simp) ((g_s_push h _).trans (by rw [hgn]))
theorem x_newa {t N : Nat} {atype : ArrayType} {ty : FieldType} {x : vp_A} {n : Int32} (hd : decode M.2.1 pc = .ok (.newarray atype, 2)) (hty : newarray.typeOf atype = ty) (ht : (g_ty G)[t]? = some (g_aC G t, ty)) (hp : ty = .int ∨ ty = .long ∨ ty = .byte ∨ ty = .boolean) (hw : Cond.arrayClass ty ∈ lw_tbl) (hx : ∀ cA : ClassId, vp_cell cA (g_A G x) = arrV cA N (fun _ => defaultValue ty)) (hx1 : x.1 = N) (hn : ¬ n < 0) (hN : n.toNatClampNeg = N) (hbytes : N * componentBytes ty ≤ 536870912) (k : ∀ (h2 : List PE) (a : Nat), a = h.length → h2[a]? = some (.inl (t, x)) → (∀ j, j < a → h2[j]? = h[j]?) → h2.length = a + 1 → g_s h2 = g_s h + N → X F G M rf rl (pc + 2) lv (.ref a :: st) h2 Q) : X F G M rf rl pc lv (.int n :: st) h Q := by
  subst hty
  have hgn : g_n (.inl (t, x) : PE) = N := hx1
  refine X.stepN (c := .inl (t, x)) (pc2 := pc + 2) (st2 := .ref h.length :: st) (fun p e R s m args below meth c H locs a' n9 ls Z C hr hS hk hn9 w => ?_) (fun h2 a ha => ?_)
  · have hO := C.2.2.2.2.2.2.2.2
    rw [hgn] at hn9
    refine va_newaK C.2.1 C.2.2.1 (g_word C.1 hO hw rfl) rfl hd rfl hn hN hbytes hk hn9 rfl fun H1 cA e1 z1 o1 hAr hNm => ?_
    have hcA : cA = g_aC G t := by
      have h9 := ((g_K C.1 hO).2 t _ ht).2
      have h8 : s.vm.findClass ("[" ++ (newarray.typeOf atype).toString) = some (g_aC G t) := by
        rcases hp with hp | hp | hp | hp <;> (rw [hp] at h9 ⊢; exact h9)
      exact Option.some.inj (hNm.symm.trans h8)
    have w9 := w H1 (hr.push z1 o1 ?_) ⟨Nat.le_trans hS.1 (by omega), fun x h1 h2 => (o1 x (Nat.lt_of_lt_of_le h1 hS.1)).trans (hS.2.1 x h1 h2), hS.2.2⟩
    · rw [hgn, List.map_cons, show g_v G (.ref h.length) = .ref H.size from congrArg Value.ref (g_size hr)] at w9
      exact w9
    · show H1[g_ad G h.length]? = some (vp_cell (g_aC G t) (g_A G x))
      rw [hx, g_size hr, ← hcA]
      exact e1
  · subst ha
    rintro rfl
    exact k _ _ rfl (by simp) (fun j hj => List.getElem?_append_left hj) (by simp) ((g_s_push h _).trans (by rw [hgn]))
theorem x_newq {t N idx : Nat} {C0 : String} {n : Int32} (hd : decode M.2.1 pc = .ok (.anewarray idx, 3)) (ht : (g_ty G)[t]? = some (g_aC G t, .object C0)) (hcl : Cond.classLink M.1.cls idx C0 ∈ lw_tbl) (hov : Cond.arrayOver (.object C0) ∈ lw_tbl) (hn : ¬ n < 0) (hN : n.toNatClampNeg = N) (hbytes : N * 4 ≤ 536870912) (k : ∀ (h2 : List PE) (a : Nat), a = h.length → h2[a]? = some (cR t N (fun _ => none)) → (∀ j, j < a → h2[j]? = h[j]?) → h2.length = a + 1 → g_s h2 = g_s h + N → X F G M rf rl (pc + 3) lv (.ref a :: st) h2 Q) : X F G M rf rl pc lv (.int n :: st) h Q := by
  subst hN
  have hgn : g_n (cR t n.toNatClampNeg (fun _ => none)) = n.toNatClampNeg := rfl
  refine X.stepN (c := cR t n.toNatClampNeg (fun _ => none)) (pc2 := pc + 3) (st2 := .ref h.length :: st) (fun p e R s m args below meth c H locs a' n9 ls Z C hr hS hk hn9 w => ?_) (fun h2 a ha => ?_)
  · have hO := C.2.2.2.2.2.2.2.2
    rw [hgn] at hn9
    refine W.anew C.2.1 C.2.2.1 C.2.2.2.2.2.1 (g_word C.1 hO hcl rfl) (va_AO.use (va_AO.moved hO.1.alike (va_AO.of (C.1.1 _ hov)))) rfl hd rfl hn hbytes hk hn9 fun cA kA comp f1 f2 f3 f4 => ?_
    have hcA : cA = g_aC G t := by
      obtain ⟨kA', comp', -, -, -, h9⟩ := ((g_K C.1 hO).2 t _ ht).2
      exact Option.some.inj (f1.symm.trans h9)
    generalize hH1 : H.push ({ cls := cA, slots := Array.replicate n.toNatClampNeg .null, vm := .none } : Cell) = H1
    have z1 : H1.size = H.size + 1 := by rw [← hH1, Array.size_push]
    have e1 : H1[H.size]? = some (arrV cA n.toNatClampNeg (fun _ => .null)) := by rw [← hH1, Array.getElem?_push_size, ← arrV_new]
    have o1 : ∀ q : Nat, q < H.size → H1[q]? = H[q]? := fun q hq => by rw [← hH1, Array.getElem?_push, if_neg (Nat.ne_of_lt hq)]
    have w9 := w H1 (hr.push z1 o1 ?_) ⟨Nat.le_trans hS.1 (by omega), fun x h1 h2 => (o1 x (Nat.lt_of_lt_of_le h1 hS.1)).trans (hS.2.1 x h1 h2), hS.2.2⟩
    · rw [hgn, List.map_cons, show g_v G (.ref h.length) = .ref H.size from congrArg Value.ref (g_size hr)] at w9
      exact w9
    · show H1[g_ad G h.length]? = some (vp_cell (g_aC G t) (g_A G _))
      rw [g_size hr, ← hcA]
      exact e1
  · subst ha
    rintro rfl
    exact k _ _ rfl (by simp) (fun j hj => List.getElem?_append_left hj) (by simp) ((g_s_push h _).trans (by rw [hgn]))
theorem x_objInit {idx a : Nat} (hd : decode M.2.1 pc = .ok (.invokespecial idx, 3)) (hl : Cond.methodLink M.1.cls idx Lib.objectInit ∈ lw_tbl) (hi : Cond.instanceMethod Lib.objectInit ∈ lw_tbl) (hc : Cond.code Lib.objectInit ⟨#[0xb1]⟩ 1 none ∈ lw_tbl) (h1 : 1 ≤ rf) (h2 : (st.map fun v => v.category).sum + 12 ≤ rl) (k : X F G M rf rl (pc + 3) lv st h Q) : X F G M rf rl pc lv (.ref a :: st) h Q := by
  obtain ⟨o, q, h3, h4, w⟩ := k
  refine ⟨o, q, h3, h4, fun p e R s m args below meth c H locs n0 s0 ls C => ?_⟩
  have w9 := w p e R s m args below meth c H locs n0 s0 ls C
  obtain ⟨c1, c2, c3, c4, c5, c6, c7, c8, c9, c10⟩ := C
  have hO := c1.2.2.2.2.2.2.2.2
  have hsum : ((st.map (g_v G)).map fun v => v.category).sum = (st.map fun v => v.category).sum := by
    rw [List.map_map]
    congr 2
    funext v
    exact g_v_cat G v
  refine W.objInit c1.2.1 c1.2.2.1 c1.2.2.2.2.2.1 (g_word c1.1 hO hl rfl) (g_word c1.1 hO hi rfl) (g_word c1.1 hO hc rfl) rfl (by rw [c1.2.2.2.2.1]; exact c10.1) rfl hd (Nat.le_trans h1 c2) (by show 2 * 0 + _ + 12 ≤ _; rw [hsum]; omega) ?_
  exact w9
/-! ends -/
section Ends
variable {Q : OT → Prop}
theorem x_iret {v : Int32} (hd : decode M.2.1 pc = .ok (.ireturn, 1)) (hr : M.2.2.2 = some .int) (hq : Q (some (.int v), h)) : X (NF G) G M rf rl pc lv [.int v] h Q :=
  ⟨(some (.int v), h), hq, Nat.le_refl _, Nat.le_refl _, fun p e R s m args below meth c H locs n0 s0 ls C => W.iret C.1.2.1 C.1.2.2.1 (C.1.2.2.2.1.trans hr) (fun t ht hW => ⟨rfl, by rw [ht]; exact C.2.2.2.2.2.2.2.1, C.2.2.2.2.2.2.2.2.1.F ht⟩) C.2.2.2.2.2.2.2.2.1.2.2 hd C.1.2.2.2.2.2.2.1⟩
theorem x_zret {v : Int32} {ty : FieldType} (hd : decode M.2.1 pc = .ok (.ireturn, 1)) (hr : M.2.2.2 = some ty) (hn : narrow ty (.int v) = .int v) (hq : Q (some (.int v), h)) : X (NF G) G M rf rl pc lv [.int v] h Q :=
  ⟨(some (.int v), h), hq, Nat.le_refl _, Nat.le_refl _, fun p e R s m args below meth c H locs n0 s0 ls C => W.zret C.1.2.1 C.1.2.2.1 (C.1.2.2.2.1.trans hr) hn (fun t ht hW => ⟨rfl, by rw [ht]; exact C.2.2.2.2.2.2.2.1, C.2.2.2.2.2.2.2.2.1.F ht⟩) C.2.2.2.2.2.2.2.2.1.2.2 hd C.1.2.2.2.2.2.2.1⟩
theorem x_lret {v : Int64} (hd : decode M.2.1 pc = .ok (.lreturn, 1)) (hr : M.2.2.2 = some .long) (hq : Q (some (.long v), h)) : X (NF G) G M rf rl pc lv [.long v] h Q :=
  ⟨(some (.long v), h), hq, Nat.le_refl _, Nat.le_refl _, fun p e R s m args below meth c H locs n0 s0 ls C => W.lret C.1.2.1 C.1.2.2.1 (C.1.2.2.2.1.trans hr) (fun t ht hW => ⟨rfl, by rw [ht]; exact C.2.2.2.2.2.2.2.1, C.2.2.2.2.2.2.2.2.1.F ht⟩) C.2.2.2.2.2.2.2.2.1.2.2 hd C.1.2.2.2.2.2.2.1⟩
theorem x_vret (hd : decode M.2.1 pc = .ok (.return_, 1)) (hr : M.2.2.2 = none) (hq : Q (none, h)) : X (NF G) G M rf rl pc lv [] h Q :=
  ⟨(none, h), hq, Nat.le_refl _, Nat.le_refl _, fun p e R s m args below meth c H locs n0 s0 ls C => W.vret C.1.2.1 C.1.2.2.1 (C.1.2.2.2.1.trans hr) (fun t ht hW => ⟨rfl, by rw [ht]; exact C.2.2.2.2.2.2.2.1, C.2.2.2.2.2.2.2.2.1.F ht⟩) C.2.2.2.2.2.2.2.2.1.2.2 hd C.1.2.2.2.2.2.2.1⟩
theorem x_aret {r : Option Nat} {rt : FieldType} (hd : decode M.2.1 pc = .ok (.areturn, 1)) (hr : M.2.2.2 = some rt) (hrt : (∃ n, rt = .object n) ∨ ∃ t, rt = .array t) (hq : Q (some (va_rf r), h)) : X (NF G) G M rf rl pc lv [va_rf r] h Q :=
  ⟨(some (va_rf r), h), hq, Nat.le_refl _, Nat.le_refl _, fun p e R s m args below meth c H locs n0 s0 ls C => W.aret C.1.2.1 C.1.2.2.1 (C.1.2.2.2.1.trans hr) hrt (by cases r; exact Or.inl rfl; exact Or.inr ⟨_, rfl⟩) (fun t ht hW => ⟨rfl, by rw [ht]; exact C.2.2.2.2.2.2.2.1, C.2.2.2.2.2.2.2.2.1.F ht⟩) C.2.2.2.2.2.2.2.2.1.2.2 hd C.1.2.2.2.2.2.2.1⟩
end Ends
end XN
end
section
section XK
variable {Ω : Type} {F : FT Ω} {G : GT} {M : MT} {rf rl pc : Nat} {lv : List (Nat × Value)} {st : List Value} {h : List PE} {Q : Ω → Prop}
theorem lv_args_g (vs : List Value) : ∀ i : Nat, lv_args i (vs.map (g_v G)) = g_l G (lv_args i vs) := by
  induction vs with
  | nil => intro i; rfl
  | cons v l ih =>
    intro i
    simp only [List.map_cons, lv_args, g_v_cat, ih, g_l]
theorem lg_sl_g (vs : List Value) : (lg_sl (vs.map (g_v G))).length = (lg_sl vs).length := by
  induction vs with
  | nil => rfl
  | cons v l ih =>
    simp only [lg_sl, List.map_cons, List.flatMap_cons, List.length_append, g_v_cat] at ih ⊢
    rw [ih]
    split <;> rfl
theorem sum_cat_g (rest : List Value) : ((rest.map (g_v G)).map fun v => v.category).sum = (rest.map fun v => v.category).sum := by
  rw [List.map_map]
  congr 2
  funext v
  exact g_v_cat G v
/-- what the callee's name and code are, in the tables -/
def YL (y : MethodName) (cc : ByteArray) (nL : Nat) (ret : Option FieldType) (n : Nat) : Prop := Cond.code y cc nL ret ∈ lw_tbl ∧ Cond.initialized y.cls ∈ lw_tbl ∧ y.cls ≠ "java/lang/invoke/MethodHandle" ∧ y.cls ≠ "java/lang/invoke/VarHandle" ∧ (parseMethodDescriptor y.desc).map (fun d => d.parameters.length) = some n ∧ plainFor y = true
abbrev mk_rm (rf rl : Nat) (h : List PE) (o : OT) : Room := { frames := rf, cells := o.2.length - h.length, slots := g_s o.2 - g_s h, locals := rl }
abbrev mk_Pc (G : GT) (av : List Value) (h : List PE) : Array Value → State → Prop := va_Pc (av.map (g_v G)) (fun U => GOK G ∧ Od G U ∧ Hr G h U.heap)
/-- a method's walk is its contract -/
theorem met_of_X {y : MethodName} {cc : ByteArray} {nL : Nat} {ret : Option FieldType} {av : List Value} {Q1 : OT → Prop} (hp : plainFor y = true) (hl : (lg_sl av).length ≤ nL) (k : X (NF G) G (y, cc, nL, ret) rf rl 0 (lv_args 0 av) [] h Q1) :
    ∃ o : OT, Q1 o ∧ h.length ≤ o.2.length ∧ g_s h ≤ g_s o.2 ∧ Met G.1 y [Cond.code y cc nL ret] (mk_rm rf rl h o) (mk_Pc G av h) (g_Q G o) (o.2.length - h.length) (g_s o.2 - g_s h) (fun q => g_B G ≤ q) := by
  obtain ⟨o, q, l1, l2, w⟩ := k
  refine ⟨o, q, l1, l2, va_MetF (cc := cc) (maxL := nL) (ret := ret) hp rfl ?_⟩
  intro p e s m args below meth c s₁ B hml hv
  obtain ⟨rfl, hG, hO, hH⟩ := hv
  have hl2 := lv_entry (av.map (g_v G)) (n := nL) (by rw [lg_sl_g]; exact hl)
  rw [lv_args_g] at hl2
  rw [lg_entry_eq]
  have w9 := w p e (mk_rm rf rl h o) s m (av.map (g_v G)).toArray below meth c s.heap [] h.length (g_s h) _ ⟨⟨hG, B.exec, B.bytes, B.returns, hml, findClass_of_methodNamed B.named, B.notSynchronized, (name_of_methodNamed B.named B.method).1, hO⟩, Nat.le_refl _, Nat.le_refl _, Nat.le_refl _, Nat.le_refl _, Nat.le_refl _, Nat.le_refl _, hH, va_S.rf, hl2⟩
  rw [Nat.sub_self, Nat.sub_self] at w9
  exact w9
theorem mk_blind {av : List Value} : FrameBlind (mk_Pc G av h) := fun _ _ _ _ q => q
theorem mk_old {s U : State} {H : Heap} {locs : List Loc} (hO : Od G s) (hS : va_S (fun q => g_B G ≤ q) s.heap H locs) (hU : U.heap = H) (hW : s.WarmedH U.vm) : Od G U :=
  ⟨State.WarmedH.trans hO.1 hW, fun q hq => by rw [hU, hS.2.1 q (Nat.lt_of_lt_of_le hq hO.2.2) (Nat.not_le.mpr hq)]; exact hO.2.1 q hq, by rw [hU]; exact Nat.le_trans hO.2.2 hS.1⟩
/-- behind a call -/
theorem X.stepC {st0 rest : List Value} {o1 : OT} {av : Array Value} (l1 : h.length ≤ o1.2.length) (l2 : g_s h ≤ g_s o1.2)
    (f : ∀ (p : Program) (e : Env) (R : Room) (s : State) (m : MethodId) (args : Array Value) (below : List Frame) (meth : Method) (c : Code) (H : Heap) (locs : List Loc) (k n : Nat) (ls : Array Slot), Cx G M p s m meth c → rf ≤ R.frames → rl ≤ R.locals → k + (o1.2.length - h.length) ≤ R.cells → n + (g_s o1.2 - g_s h) ≤ R.slots → Hr G h H → va_S (fun q => g_B G ≤ q) s.heap H locs → ls.size = M.2.2.1 →
      va_Run p G.1 e R s m args below meth c H locs k n (o1.2.length - h.length) (g_s o1.2 - g_s h) (F0 m pc ls (st0.map (g_v G))) (rest.map (g_v G)) (g_Q G o1 av) (fun q => g_B G ≤ q))
    (k : X F G M rf rl (pc + 3) lv (o1.1.toList ++ rest) o1.2 Q) : X F G M rf rl pc lv st0 h Q := by
  obtain ⟨o, q, l3, l4, w⟩ := k
  refine ⟨o, q, Nat.le_trans l1 l3, Nat.le_trans l2 l4, fun p e R s m args below meth c H locs n0 s0 ls C => ?_⟩
  obtain ⟨c1, c2, c3, c4, c5, c6, c7, c8, c9, c10⟩ := C
  intro T hT X
  obtain ⟨v, st₀, t, T', L, h0, X', hL, e1, e2, ⟨hv, hH, hF⟩, stp⟩ := f p e R s m args below meth c H locs (h.length - n0) (g_s h - s0) ls c1 c2 c3 (by omega) (by omega) c8 c9 c10.1 T hT X
  have hv9 : v = o1.1.map (g_v G) := by
    have := hv
    simpa using this
  subst hv9
  rw [h0.symm] at c9
  have hS2 : va_S (fun q => g_B G ≤ q) s.heap t.heap (locs ++ L) := ⟨Nat.le_trans c9.1 hF.1, fun q h1 h2 => (hF.2 q (Nat.lt_of_lt_of_le h1 c9.1) h2).trans (c9.2.1 q h1 h2), fun z hz => by
    rcases List.mem_append.mp hz with h | h
    · exact c9.2.2 z h
    · exact hL z h⟩
  have w9 := w p e R s m args below meth c t.heap (locs ++ L) n0 s0 ls ⟨c1, c2, c3, c4, c5, by omega, by omega, hH, hS2, c10⟩
  rw [show o1.2.length - n0 = h.length - n0 + (o1.2.length - h.length) by omega, show g_s o1.2 - s0 = g_s h - s0 + (g_s o1.2 - g_s h) by omega] at w9
  obtain ⟨t2, a1, b1⟩ := w9 T' e1 X'
  refine ⟨t2, stp t2 ?_, b1⟩
  have he : (o1.1.map (g_v G)).toList ++ rest.map (g_v G) = (o1.1.toList ++ rest).map (g_v G) := by cases o1.1 <;> simp
  rw [← he] at a1
  exact a1
def VL (own : String) (idx : Nat) (y : MethodName) (ci : Nat) : Prop := Cond.methodLink own idx y ∈ lw_tbl ∧ Cond.instanceMethod y ∈ lw_tbl ∧ Cond.selects y.cls y y ∈ lw_tbl ∧ ∃ q, vwCl[ci]? = some q ∧ q.1 = y.cls
def SL (own : String) (idx : Nat) (y : MethodName) : Prop := Cond.methodLink own idx y ∈ lw_tbl ∧ Cond.static y ∈ lw_tbl
def IL (own : String) (idx : Nat) (y : MethodName) : Prop := Cond.methodLink own idx y ∈ lw_tbl ∧ Cond.instanceMethod y ∈ lw_tbl ∧ y.name = "<init>"
def INL (own : String) (idx : Nat) (y : MethodName) : Prop := (∃ host, Cond.methodLinkNest own idx y host ∈ lw_tbl) ∧ Cond.instanceMethod y ∈ lw_tbl ∧ y.name = "<init>"
def SNL (own : String) (idx : Nat) (y : MethodName) : Prop := (∃ host, Cond.methodLinkNest own idx y host ∈ lw_tbl) ∧ Cond.static y ∈ lw_tbl
theorem mk_CB {s : State} {R : Room} {args : Array Value} {y : MethodName} {cc : ByteArray} {nL n : Nat} {ret : Option FieldType} {rf' rl' : Nat} {o1 : OT} {idx : Nat} (hG : GOK G) (hO : Od G s) (hY : YL y cc nL ret n) (hl : Cond.methodLink M.1.cls idx y ∈ lw_tbl) (hf : rf' + 1 ≤ R.frames) (hloc : 8 + (nL + 11) + rl' ≤ R.locals) :
    CallB R s args M.1.cls idx y cc nL ret [Cond.code y cc nL ret] (mk_rm rf' rl' h o1) (o1.2.length - h.length) (g_s o1.2 - g_s h) n := by
  obtain ⟨y1, y2, y3, y4, y5, -⟩ := hY
  refine ⟨rfl, rfl, hf, hloc, fun w hw a' U hW => ?_, List.mem_cons_self, g_word hG hO y1 rfl, g_word hG hO y2 rfl, ⟨y3, y4⟩, fun sig h => ?_, g_word hG hO hl rfl⟩
  · rw [List.mem_singleton.mp hw]
    exact word_at hW (good_of_word rfl) (g_word (args := args) hG hO y1 rfl)
  · rw [h] at y5
    exact (Option.some.inj y5).symm
theorem mk_CN {s : State} {R : Room} {args : Array Value} {y : MethodName} {cc : ByteArray} {nL n : Nat} {ret : Option FieldType} {rf' rl' : Nat} {o1 : OT} {idx : Nat} {host : String} (hG : GOK G) (hO : Od G s) (hY : YL y cc nL ret n) (hl : Cond.methodLinkNest M.1.cls idx y host ∈ lw_tbl) (hf : rf' + 1 ≤ R.frames) (hloc : 8 + (nL + 11) + rl' ≤ R.locals) :
    va_CN R s args M.1.cls idx y host cc nL ret [Cond.code y cc nL ret] (mk_rm rf' rl' h o1) (o1.2.length - h.length) (g_s o1.2 - g_s h) n := by
  obtain ⟨y1, y2, y3, y4, y5, -⟩ := hY
  refine ⟨⟨rfl, rfl, hf, hloc, fun w hw a' U hW => ?_, List.mem_cons_self⟩, g_word hG hO y1 rfl, g_word hG hO y2 rfl, ⟨y3, y4⟩, fun sig h => ?_, va_Nw.use rfl (va_Nw.warmM hO.1 (va_Nw.of rfl (hG.1 _ hl)))⟩
  · rw [List.mem_singleton.mp hw]
    exact word_at hW (good_of_word rfl) (g_word (args := args) hG hO y1 rfl)
  · rw [h] at y5
    exact (Option.some.inj y5).symm
theorem x_callV {idx ci a : Nat} {y : MethodName} {cc : ByteArray} {nL n : Nat} {ret : Option FieldType} {fs : List Value} {rf' rl' : Nat} {Q1 : OT → Prop} (As rest : List Value) (hd : decode M.2.1 pc = .ok (.invokevirtual idx, 3)) (hV : VL M.1.cls idx y ci) (hY : YL y cc nL ret n) (hh : h[a]? = some (cO ci fs)) (ha : 3 ≤ a) (hn : As.length = n) (hst : st = As.reverse ++ .ref a :: rest) (hcat : (rest.map fun v => v.category).sum ≤ 8) (hfit : (lg_sl (.ref a :: As)).length ≤ nL) (hf : rf' + 1 ≤ rf) (hl : 8 + (nL + 11) + rl' ≤ rl)
    (callee : X (NF G) G (y, cc, nL, ret) rf' rl' 0 (lv_args 0 (.ref a :: As)) [] h Q1) (k : ∀ (r : Option Value) (h1 : List PE), Q1 (r, h1) → X F G M rf rl (pc + 3) lv (r.toList ++ rest) h1 Q) : X F G M rf rl pc lv st h Q := by
  subst hst
  obtain ⟨⟨r1, h1⟩, q1, l1, l2, hM⟩ := met_of_X hY.2.2.2.2.2 hfit callee
  refine X.stepC (o1 := (r1, h1)) (av := ((.ref a :: As).map (g_v G)).toArray) (rest := rest) l1 l2 (fun p e R s m args below meth c H locs k9 n9 ls C hf9 hl9 hk9 hn9 hr hS hsz => ?_) (k r1 h1 q1)
  have hO := C.2.2.2.2.2.2.2.2
  obtain ⟨v1, v2, v3, q, v4, v5⟩ := hV
  exact va_runV (C := y.cls) (Ts := []) (As := As.map (g_v G)) (rest := rest.map (g_v G)) (b := g_ad G a) ⟨C.2.1, C.2.2.1, C.2.2.2.2.1, C.2.2.2.2.2.1, fun _ h => nomatch h⟩ hM ⟨mk_CB C.1 hO hY v1 (by omega) (by omega), g_word C.1 hO v2 rfl, g_word C.1 hO v3 rfl⟩
    ⟨mk_blind, v5 ▸ va_recv (g_K C.1 hO) hr.1 v4 (g_w_get hh ha), fun U hU hW => ⟨rfl, C.1, mk_old hO hS hU hW, by rw [hU]; exact hr⟩⟩ rfl (by rw [List.length_map]; exact hn) hsz (by simp [g_v]) (by show 2 * 0 + _ ≤ _; rw [sum_cat_g]; omega) hd ⟨hk9, hn9⟩
theorem x_callS {idx : Nat} {y : MethodName} {cc : ByteArray} {nL n : Nat} {ret : Option FieldType} {rf' rl' : Nat} {Q1 : OT → Prop} (As rest : List Value) (hd : decode M.2.1 pc = .ok (.invokestatic idx, 3)) (hV : SL M.1.cls idx y) (hY : YL y cc nL ret n) (hn : As.length = n) (hst : st = As.reverse ++ rest) (hcat : (rest.map fun v => v.category).sum ≤ 8) (hfit : (lg_sl As).length ≤ nL) (hf : rf' + 1 ≤ rf) (hl : 8 + (nL + 11) + rl' ≤ rl)
    (callee : X (NF G) G (y, cc, nL, ret) rf' rl' 0 (lv_args 0 As) [] h Q1) (k : ∀ (r : Option Value) (h1 : List PE), Q1 (r, h1) → X F G M rf rl (pc + 3) lv (r.toList ++ rest) h1 Q) : X F G M rf rl pc lv st h Q := by
  subst hst
  obtain ⟨⟨r1, h1⟩, q1, l1, l2, hM⟩ := met_of_X hY.2.2.2.2.2 hfit callee
  refine X.stepC (o1 := (r1, h1)) (av := (As.map (g_v G)).toArray) (rest := rest) l1 l2 (fun p e R s m args below meth c H locs k9 n9 ls C hf9 hl9 hk9 hn9 hr hS hsz => ?_) (k r1 h1 q1)
  have hO := C.2.2.2.2.2.2.2.2
  obtain ⟨v1, v2⟩ := hV
  exact va_runS (Ts := []) (As := As.map (g_v G)) (rest := rest.map (g_v G)) ⟨C.2.1, C.2.2.1, C.2.2.2.2.1, C.2.2.2.2.2.1, fun _ h => nomatch h⟩ hM ⟨mk_CB C.1 hO hY v1 (by omega) (by omega), g_word C.1 hO v2 rfl⟩
    ⟨mk_blind, fun U hU hW => ⟨rfl, C.1, mk_old hO hS hU hW, by rw [hU]; exact hr⟩⟩ rfl (by rw [List.length_map]; exact hn) hsz (by simp) (by show 2 * 0 + _ ≤ _; rw [sum_cat_g]; omega) hd ⟨hk9, hn9⟩
theorem x_callSN {idx : Nat} {y : MethodName} {cc : ByteArray} {nL n : Nat} {ret : Option FieldType} {rf' rl' : Nat} {Q1 : OT → Prop} (As rest : List Value) (hd : decode M.2.1 pc = .ok (.invokestatic idx, 3)) (hV : SNL M.1.cls idx y) (hY : YL y cc nL ret n) (hn : As.length = n) (hst : st = As.reverse ++ rest) (hcat : (rest.map fun v => v.category).sum ≤ 8) (hfit : (lg_sl As).length ≤ nL) (hf : rf' + 1 ≤ rf) (hl : 8 + (nL + 11) + rl' ≤ rl)
    (callee : X (NF G) G (y, cc, nL, ret) rf' rl' 0 (lv_args 0 As) [] h Q1) (k : ∀ (r : Option Value) (h1 : List PE), Q1 (r, h1) → X F G M rf rl (pc + 3) lv (r.toList ++ rest) h1 Q) : X F G M rf rl pc lv st h Q := by
  subst hst
  obtain ⟨⟨r1, h1⟩, q1, l1, l2, hM⟩ := met_of_X hY.2.2.2.2.2 hfit callee
  refine X.stepC (o1 := (r1, h1)) (av := (As.map (g_v G)).toArray) (rest := rest) l1 l2 (fun p e R s m args below meth c H locs k9 n9 ls C hf9 hl9 hk9 hn9 hr hS hsz => ?_) (k r1 h1 q1)
  have hO := C.2.2.2.2.2.2.2.2
  obtain ⟨⟨host, v1⟩, v2⟩ := hV
  exact va_runSN (Ts := []) (host := host) (As := As.map (g_v G)) (rest := rest.map (g_v G)) ⟨C.2.1, C.2.2.1, C.2.2.2.2.1, C.2.2.2.2.2.1, fun _ h => nomatch h⟩ hM ⟨mk_CN C.1 hO hY v1 (by omega) (by omega), g_word C.1 hO v2 rfl, trivial⟩
    ⟨mk_blind, fun U hU hW => ⟨rfl, C.1, mk_old hO hS hU hW, by rw [hU]; exact hr⟩⟩ rfl (by rw [List.length_map]; exact hn) hsz (by simp) (by show 2 * 0 + _ ≤ _; rw [sum_cat_g]; omega) hd ⟨hk9, hn9⟩
theorem x_callI {idx a : Nat} {y : MethodName} {cc : ByteArray} {nL n : Nat} {rf' rl' : Nat} {Q1 : OT → Prop} (As rest : List Value) (hd : decode M.2.1 pc = .ok (.invokespecial idx, 3)) (hV : IL M.1.cls idx y) (hY : YL y cc nL none n) (hn : As.length = n) (hst : st = As.reverse ++ .ref a :: rest) (hcat : (rest.map fun v => v.category).sum ≤ 8) (hfit : (lg_sl (.ref a :: As)).length ≤ nL) (hf : rf' + 1 ≤ rf) (hl : 8 + (nL + 11) + rl' ≤ rl)
    (callee : X (NF G) G (y, cc, nL, none) rf' rl' 0 (lv_args 0 (.ref a :: As)) [] h Q1) (k : ∀ (r : Option Value) (h1 : List PE), Q1 (r, h1) → X F G M rf rl (pc + 3) lv (r.toList ++ rest) h1 Q) : X F G M rf rl pc lv st h Q := by
  subst hst
  obtain ⟨⟨r1, h1⟩, q1, l1, l2, hM⟩ := met_of_X hY.2.2.2.2.2 hfit callee
  refine X.stepC (o1 := (r1, h1)) (av := ((.ref a :: As).map (g_v G)).toArray) (rest := rest) l1 l2 (fun p e R s m args below meth c H locs k9 n9 ls C hf9 hl9 hk9 hn9 hr hS hsz => ?_) (k r1 h1 q1)
  have hO := C.2.2.2.2.2.2.2.2
  obtain ⟨v1, v2, v3⟩ := hV
  exact va_runI (Ts := []) (As := As.map (g_v G)) (rest := rest.map (g_v G)) (b := g_ad G a) ⟨C.2.1, C.2.2.1, C.2.2.2.2.1, C.2.2.2.2.2.1, fun _ h => nomatch h⟩ hM ⟨mk_CB C.1 hO hY v1 (by omega) (by omega), v3, g_word C.1 hO v2 rfl⟩
    ⟨mk_blind, fun U hU hW => ⟨rfl, C.1, mk_old hO hS hU hW, by rw [hU]; exact hr⟩⟩ rfl (by rw [List.length_map]; exact hn) hsz (by simp [g_v]) (by show 2 * 0 + _ ≤ _; rw [sum_cat_g]; omega) hd ⟨hk9, hn9⟩
theorem x_callIN {idx a : Nat} {y : MethodName} {cc : ByteArray} {nL n : Nat} {rf' rl' : Nat} {Q1 : OT → Prop} (As rest : List Value) (hd : decode M.2.1 pc = .ok (.invokespecial idx, 3)) (hV : INL M.1.cls idx y) (hY : YL y cc nL none n) (hn : As.length = n) (hst : st = As.reverse ++ .ref a :: rest) (hcat : (rest.map fun v => v.category).sum ≤ 8) (hfit : (lg_sl (.ref a :: As)).length ≤ nL) (hf : rf' + 1 ≤ rf) (hl : 8 + (nL + 11) + rl' ≤ rl)
    (callee : X (NF G) G (y, cc, nL, none) rf' rl' 0 (lv_args 0 (.ref a :: As)) [] h Q1) (k : ∀ (r : Option Value) (h1 : List PE), Q1 (r, h1) → X F G M rf rl (pc + 3) lv (r.toList ++ rest) h1 Q) : X F G M rf rl pc lv st h Q := by
  subst hst
  obtain ⟨⟨r1, h1⟩, q1, l1, l2, hM⟩ := met_of_X hY.2.2.2.2.2 hfit callee
  refine X.stepC (o1 := (r1, h1)) (av := ((.ref a :: As).map (g_v G)).toArray) (rest := rest) l1 l2 (fun p e R s m args below meth c H locs k9 n9 ls C hf9 hl9 hk9 hn9 hr hS hsz => ?_) (k r1 h1 q1)
  have hO := C.2.2.2.2.2.2.2.2
  obtain ⟨⟨host, v1⟩, v2, v3⟩ := hV
  exact va_runIN (Ts := []) (host := host) (As := As.map (g_v G)) (rest := rest.map (g_v G)) (b := g_ad G a) ⟨C.2.1, C.2.2.1, C.2.2.2.2.1, C.2.2.2.2.2.1, fun _ h => nomatch h⟩ hM ⟨mk_CN C.1 hO hY v1 (by omega) (by omega), v3, g_word C.1 hO v2 rfl⟩
    ⟨mk_blind, fun U hU hW => ⟨rfl, C.1, mk_old hO hS hU hW, by rw [hU]; exact hr⟩⟩ rfl (by rw [List.length_map]; exact hn) hsz (by simp [g_v]) (by show 2 * 0 + _ ≤ _; rw [sum_cat_g]; omega) hd ⟨hk9, hn9⟩
end XK
end
section
theorem inT1 {w : Cond} (h : w ∈ tables_1_1) : w ∈ lw_tbl := List.mem_append_right _ (List.mem_append_left _ h)
theorem inT2 {w : Cond} (h : w ∈ tables_1_2) : w ∈ lw_tbl := List.mem_append_right _ (List.mem_append_right _ (List.mem_append_left _ h))
theorem inT3 {w : Cond} (h : w ∈ tables_1_3) : w ∈ lw_tbl := List.mem_append_right _ (List.mem_append_right _ (List.mem_append_right _ (List.mem_append_left _ h)))
theorem inT4 {w : Cond} (h : w ∈ tables_1_4) : w ∈ lw_tbl := List.mem_append_right _ (List.mem_append_right _ (List.mem_append_right _ (List.mem_append_right _ (List.mem_append_left _ h))))
theorem inT5 {w : Cond} (h : w ∈ tables_1_5) : w ∈ lw_tbl := List.mem_append_right _ (List.mem_append_right _ (List.mem_append_right _ (List.mem_append_right _ (List.mem_append_right _ (List.mem_append_left _ h)))))
theorem inT6 {w : Cond} (h : w ∈ tables_1_6) : w ∈ lw_tbl := List.mem_append_right _ (List.mem_append_right _ (List.mem_append_right _ (List.mem_append_right _ (List.mem_append_right _ (List.mem_append_right _ (List.mem_append_left _ h))))))
theorem inT7 {w : Cond} (h : w ∈ tables_1_7) : w ∈ lw_tbl := List.mem_append_right _ (List.mem_append_right _ (List.mem_append_right _ (List.mem_append_right _ (List.mem_append_right _ (List.mem_append_right _ (List.mem_append_right _ h))))))
theorem layX0 : ∀ w ∈ u_ws RX0 TX0 10, w ∈ lw_tbl := by
  intro w hw
  obtain ⟨k, hk, rfl⟩ := List.mem_map.mp hw
  have hk := List.mem_range.mp hk
  match k, hk with
  | 0, _ => exact inT1 (List.mem_of_getElem? (i := 204) (by decide +kernel))
  | 1, _ => exact inT1 (List.mem_of_getElem? (i := 206) (by decide +kernel))
  | 2, _ => exact inT1 (List.mem_of_getElem? (i := 208) (by decide +kernel))
  | 3, _ => exact inT1 (List.mem_of_getElem? (i := 210) (by decide +kernel))
  | 4, _ => exact inT1 (List.mem_of_getElem? (i := 212) (by decide +kernel))
  | 5, _ => exact inT1 (List.mem_of_getElem? (i := 214) (by decide +kernel))
  | 6, _ => exact inT1 (List.mem_of_getElem? (i := 216) (by decide +kernel))
  | 7, _ => exact inT1 (List.mem_of_getElem? (i := 218) (by decide +kernel))
  | 8, _ => exact inT1 (List.mem_of_getElem? (i := 220) (by decide +kernel))
  | 9, _ => exact inT1 (List.mem_of_getElem? (i := 222) (by decide +kernel))
  | k + 10, hk => exact absurd hk (by omega)
theorem layX1 : ∀ w ∈ u_ws RX1 TX1 9, w ∈ lw_tbl := by
  intro w hw
  obtain ⟨k, hk, rfl⟩ := List.mem_map.mp hw
  have hk := List.mem_range.mp hk
  match k, hk with
  | 0, _ => exact inT1 (List.mem_of_getElem? (i := 147) (by decide +kernel))
  | 1, _ => exact inT1 (List.mem_of_getElem? (i := 149) (by decide +kernel))
  | 2, _ => exact inT1 (List.mem_of_getElem? (i := 151) (by decide +kernel))
  | 3, _ => exact inT1 (List.mem_of_getElem? (i := 153) (by decide +kernel))
  | 4, _ => exact inT1 (List.mem_of_getElem? (i := 155) (by decide +kernel))
  | 5, _ => exact inT1 (List.mem_of_getElem? (i := 157) (by decide +kernel))
  | 6, _ => exact inT1 (List.mem_of_getElem? (i := 159) (by decide +kernel))
  | 7, _ => exact inT1 (List.mem_of_getElem? (i := 161) (by decide +kernel))
  | 8, _ => exact inT1 (List.mem_of_getElem? (i := 163) (by decide +kernel))
  | k + 9, hk => exact absurd hk (by omega)
theorem layX2 : ∀ w ∈ u_ws RX2 TX2 3, w ∈ lw_tbl := by
  intro w hw
  obtain ⟨k, hk, rfl⟩ := List.mem_map.mp hw
  have hk := List.mem_range.mp hk
  match k, hk with
  | 0, _ => exact inT3 (List.mem_of_getElem? (i := 95) (by decide +kernel))
  | 1, _ => exact inT3 (List.mem_of_getElem? (i := 97) (by decide +kernel))
  | 2, _ => exact inT3 (List.mem_of_getElem? (i := 99) (by decide +kernel))
  | k + 3, hk => exact absurd hk (by omega)
theorem layX3 : ∀ w ∈ u_ws RX3 TX3 5, w ∈ lw_tbl := by
  intro w hw
  obtain ⟨k, hk, rfl⟩ := List.mem_map.mp hw
  have hk := List.mem_range.mp hk
  match k, hk with
  | 0, _ => exact inT2 (List.mem_of_getElem? (i := 59) (by decide +kernel))
  | 1, _ => exact inT2 (List.mem_of_getElem? (i := 61) (by decide +kernel))
  | 2, _ => exact inT2 (List.mem_of_getElem? (i := 63) (by decide +kernel))
  | 3, _ => exact inT2 (List.mem_of_getElem? (i := 65) (by decide +kernel))
  | 4, _ => exact inT2 (List.mem_of_getElem? (i := 67) (by decide +kernel))
  | k + 5, hk => exact absurd hk (by omega)
theorem layX4 : ∀ w ∈ u_ws RX4 TX4 8, w ∈ lw_tbl := by
  intro w hw
  obtain ⟨k, hk, rfl⟩ := List.mem_map.mp hw
  have hk := List.mem_range.mp hk
  match k, hk with
  | 0, _ => exact inT2 (List.mem_of_getElem? (i := 0) (by decide +kernel))
  | 1, _ => exact inT2 (List.mem_of_getElem? (i := 2) (by decide +kernel))
  | 2, _ => exact inT2 (List.mem_of_getElem? (i := 4) (by decide +kernel))
  | 3, _ => exact inT2 (List.mem_of_getElem? (i := 6) (by decide +kernel))
  | 4, _ => exact inT2 (List.mem_of_getElem? (i := 8) (by decide +kernel))
  | 5, _ => exact inT2 (List.mem_of_getElem? (i := 10) (by decide +kernel))
  | 6, _ => exact inT2 (List.mem_of_getElem? (i := 12) (by decide +kernel))
  | 7, _ => exact inT2 (List.mem_of_getElem? (i := 14) (by decide +kernel))
  | k + 8, hk => exact absurd hk (by omega)
theorem layX5 : ∀ w ∈ u_ws RX5 TX5 4, w ∈ lw_tbl := by
  intro w hw
  obtain ⟨k, hk, rfl⟩ := List.mem_map.mp hw
  have hk := List.mem_range.mp hk
  match k, hk with
  | 0, _ => exact inT3 (List.mem_of_getElem? (i := 155) (by decide +kernel))
  | 1, _ => exact inT3 (List.mem_of_getElem? (i := 157) (by decide +kernel))
  | 2, _ => exact inT3 (List.mem_of_getElem? (i := 159) (by decide +kernel))
  | 3, _ => exact inT3 (List.mem_of_getElem? (i := 161) (by decide +kernel))
  | k + 4, hk => exact absurd hk (by omega)
theorem layX6 : ∀ w ∈ u_ws RX6 TX6 5, w ∈ lw_tbl := by
  intro w hw
  obtain ⟨k, hk, rfl⟩ := List.mem_map.mp hw
  have hk := List.mem_range.mp hk
  match k, hk with
  | 0, _ => exact inT2 (List.mem_of_getElem? (i := 226) (by decide +kernel))
  | 1, _ => exact inT2 (List.mem_of_getElem? (i := 228) (by decide +kernel))
  | 2, _ => exact inT2 (List.mem_of_getElem? (i := 230) (by decide +kernel))
  | 3, _ => exact inT2 (List.mem_of_getElem? (i := 232) (by decide +kernel))
  | 4, _ => exact inT2 (List.mem_of_getElem? (i := 234) (by decide +kernel))
  | k + 5, hk => exact absurd hk (by omega)
theorem layX7 : ∀ w ∈ u_ws RX7 TX7 7, w ∈ lw_tbl := by
  intro w hw
  obtain ⟨k, hk, rfl⟩ := List.mem_map.mp hw
  have hk := List.mem_range.mp hk
  match k, hk with
  | 0, _ => exact inT2 (List.mem_of_getElem? (i := 32) (by decide +kernel))
  | 1, _ => exact inT2 (List.mem_of_getElem? (i := 34) (by decide +kernel))
  | 2, _ => exact inT2 (List.mem_of_getElem? (i := 36) (by decide +kernel))
  | 3, _ => exact inT2 (List.mem_of_getElem? (i := 38) (by decide +kernel))
  | 4, _ => exact inT2 (List.mem_of_getElem? (i := 40) (by decide +kernel))
  | 5, _ => exact inT2 (List.mem_of_getElem? (i := 42) (by decide +kernel))
  | 6, _ => exact inT2 (List.mem_of_getElem? (i := 44) (by decide +kernel))
  | k + 7, hk => exact absurd hk (by omega)
theorem layX8 : ∀ w ∈ u_ws RX8 TX8 2, w ∈ lw_tbl := by
  intro w hw
  obtain ⟨k, hk, rfl⟩ := List.mem_map.mp hw
  have hk := List.mem_range.mp hk
  match k, hk with
  | 0, _ => exact inT1 (List.mem_of_getElem? (i := 44) (by decide +kernel))
  | 1, _ => exact inT1 (List.mem_of_getElem? (i := 46) (by decide +kernel))
  | k + 2, hk => exact absurd hk (by omega)
theorem layX9 : ∀ w ∈ u_ws RX9 TX9 6, w ∈ lw_tbl := by
  intro w hw
  obtain ⟨k, hk, rfl⟩ := List.mem_map.mp hw
  have hk := List.mem_range.mp hk
  match k, hk with
  | 0, _ => exact inT3 (List.mem_of_getElem? (i := 54) (by decide +kernel))
  | 1, _ => exact inT3 (List.mem_of_getElem? (i := 56) (by decide +kernel))
  | 2, _ => exact inT3 (List.mem_of_getElem? (i := 58) (by decide +kernel))
  | 3, _ => exact inT3 (List.mem_of_getElem? (i := 60) (by decide +kernel))
  | 4, _ => exact inT3 (List.mem_of_getElem? (i := 62) (by decide +kernel))
  | 5, _ => exact inT3 (List.mem_of_getElem? (i := 64) (by decide +kernel))
  | k + 6, hk => exact absurd hk (by omega)
theorem layX10 : ∀ w ∈ u_ws RX10 TX10 6, w ∈ lw_tbl := by
  intro w hw
  obtain ⟨k, hk, rfl⟩ := List.mem_map.mp hw
  have hk := List.mem_range.mp hk
  match k, hk with
  | 0, _ => exact inT1 (List.mem_of_getElem? (i := 122) (by decide +kernel))
  | 1, _ => exact inT1 (List.mem_of_getElem? (i := 124) (by decide +kernel))
  | 2, _ => exact inT1 (List.mem_of_getElem? (i := 126) (by decide +kernel))
  | 3, _ => exact inT1 (List.mem_of_getElem? (i := 128) (by decide +kernel))
  | 4, _ => exact inT1 (List.mem_of_getElem? (i := 130) (by decide +kernel))
  | 5, _ => exact inT1 (List.mem_of_getElem? (i := 132) (by decide +kernel))
  | k + 6, hk => exact absurd hk (by omega)
theorem layX11 : ∀ w ∈ u_ws RX11 TX11 12, w ∈ lw_tbl := by
  intro w hw
  obtain ⟨k, hk, rfl⟩ := List.mem_map.mp hw
  have hk := List.mem_range.mp hk
  match k, hk with
  | 0, _ => exact inT2 (List.mem_of_getElem? (i := 82) (by decide +kernel))
  | 1, _ => exact inT2 (List.mem_of_getElem? (i := 84) (by decide +kernel))
  | 2, _ => exact inT2 (List.mem_of_getElem? (i := 86) (by decide +kernel))
  | 3, _ => exact inT2 (List.mem_of_getElem? (i := 88) (by decide +kernel))
  | 4, _ => exact inT2 (List.mem_of_getElem? (i := 90) (by decide +kernel))
  | 5, _ => exact inT2 (List.mem_of_getElem? (i := 92) (by decide +kernel))
  | 6, _ => exact inT2 (List.mem_of_getElem? (i := 94) (by decide +kernel))
  | 7, _ => exact inT2 (List.mem_of_getElem? (i := 96) (by decide +kernel))
  | 8, _ => exact inT2 (List.mem_of_getElem? (i := 98) (by decide +kernel))
  | 9, _ => exact inT2 (List.mem_of_getElem? (i := 100) (by decide +kernel))
  | 10, _ => exact inT2 (List.mem_of_getElem? (i := 102) (by decide +kernel))
  | 11, _ => exact inT2 (List.mem_of_getElem? (i := 104) (by decide +kernel))
  | k + 12, hk => exact absurd hk (by omega)
theorem layX12 : ∀ w ∈ u_ws RX12 TX12 35, w ∈ lw_tbl := by
  intro w hw
  obtain ⟨k, hk, rfl⟩ := List.mem_map.mp hw
  have hk := List.mem_range.mp hk
  match k, hk with
  | 0, _ => exact inT5 (List.mem_of_getElem? (i := 91) (by decide +kernel))
  | 1, _ => exact inT5 (List.mem_of_getElem? (i := 93) (by decide +kernel))
  | 2, _ => exact inT5 (List.mem_of_getElem? (i := 95) (by decide +kernel))
  | 3, _ => exact inT5 (List.mem_of_getElem? (i := 97) (by decide +kernel))
  | 4, _ => exact inT5 (List.mem_of_getElem? (i := 99) (by decide +kernel))
  | 5, _ => exact inT5 (List.mem_of_getElem? (i := 101) (by decide +kernel))
  | 6, _ => exact inT5 (List.mem_of_getElem? (i := 103) (by decide +kernel))
  | 7, _ => exact inT5 (List.mem_of_getElem? (i := 105) (by decide +kernel))
  | 8, _ => exact inT5 (List.mem_of_getElem? (i := 107) (by decide +kernel))
  | 9, _ => exact inT5 (List.mem_of_getElem? (i := 109) (by decide +kernel))
  | 10, _ => exact inT5 (List.mem_of_getElem? (i := 111) (by decide +kernel))
  | 11, _ => exact inT5 (List.mem_of_getElem? (i := 113) (by decide +kernel))
  | 12, _ => exact inT5 (List.mem_of_getElem? (i := 115) (by decide +kernel))
  | 13, _ => exact inT5 (List.mem_of_getElem? (i := 117) (by decide +kernel))
  | 14, _ => exact inT5 (List.mem_of_getElem? (i := 119) (by decide +kernel))
  | 15, _ => exact inT5 (List.mem_of_getElem? (i := 121) (by decide +kernel))
  | 16, _ => exact inT5 (List.mem_of_getElem? (i := 123) (by decide +kernel))
  | 17, _ => exact inT5 (List.mem_of_getElem? (i := 125) (by decide +kernel))
  | 18, _ => exact inT5 (List.mem_of_getElem? (i := 127) (by decide +kernel))
  | 19, _ => exact inT5 (List.mem_of_getElem? (i := 129) (by decide +kernel))
  | 20, _ => exact inT5 (List.mem_of_getElem? (i := 131) (by decide +kernel))
  | 21, _ => exact inT5 (List.mem_of_getElem? (i := 133) (by decide +kernel))
  | 22, _ => exact inT5 (List.mem_of_getElem? (i := 135) (by decide +kernel))
  | 23, _ => exact inT5 (List.mem_of_getElem? (i := 137) (by decide +kernel))
  | 24, _ => exact inT5 (List.mem_of_getElem? (i := 139) (by decide +kernel))
  | 25, _ => exact inT5 (List.mem_of_getElem? (i := 141) (by decide +kernel))
  | 26, _ => exact inT5 (List.mem_of_getElem? (i := 143) (by decide +kernel))
  | 27, _ => exact inT5 (List.mem_of_getElem? (i := 145) (by decide +kernel))
  | 28, _ => exact inT5 (List.mem_of_getElem? (i := 147) (by decide +kernel))
  | 29, _ => exact inT5 (List.mem_of_getElem? (i := 149) (by decide +kernel))
  | 30, _ => exact inT5 (List.mem_of_getElem? (i := 151) (by decide +kernel))
  | 31, _ => exact inT5 (List.mem_of_getElem? (i := 153) (by decide +kernel))
  | 32, _ => exact inT5 (List.mem_of_getElem? (i := 155) (by decide +kernel))
  | 33, _ => exact inT5 (List.mem_of_getElem? (i := 157) (by decide +kernel))
  | 34, _ => exact inT5 (List.mem_of_getElem? (i := 159) (by decide +kernel))
  | k + 35, hk => exact absurd hk (by omega)
theorem fX8_11 : FL RX8 11 8 0 (.array .byte) true := ⟨RX8, TX8, 2, tyX8, rfl, by decide, layX8, tyX8_ok, nmX8, inT1 (List.mem_of_getElem? (i := 38) (by decide +kernel)), by decide +kernel, rfl, rfl⟩
theorem fX8_15 : FL RX8 15 8 1 (.int) false := ⟨RX8, TX8, 2, tyX8, rfl, by decide, layX8, tyX8_ok, nmX8, inT1 (List.mem_of_getElem? (i := 39) (by decide +kernel)), by decide +kernel, rfl, rfl⟩
theorem fX7_34 : FL RX7 34 8 1 (.int) false := ⟨RX8, TX8, 2, tyX8, rfl, by decide, layX8, tyX8_ok, nmX8, inT1 (List.mem_of_getElem? (i := 40) (by decide +kernel)), by decide +kernel, rfl, rfl⟩
theorem fX11_72 : FL RX11 72 8 1 (.int) false := ⟨RX8, TX8, 2, tyX8, rfl, by decide, layX8, tyX8_ok, nmX8, inT1 (List.mem_of_getElem? (i := 41) (by decide +kernel)), by decide +kernel, rfl, rfl⟩
theorem fX10_45 : FL RX10 45 8 1 (.int) false := ⟨RX8, TX8, 2, tyX8, rfl, by decide, layX8, tyX8_ok, nmX8, inT1 (List.mem_of_getElem? (i := 42) (by decide +kernel)), by decide +kernel, rfl, rfl⟩
theorem fX1_68 : FL RX1 68 8 1 (.int) false := ⟨RX8, TX8, 2, tyX8, rfl, by decide, layX8, tyX8_ok, nmX8, inT1 (List.mem_of_getElem? (i := 43) (by decide +kernel)), by decide +kernel, rfl, rfl⟩
theorem fX10_9 : FL RX10 9 10 0 (.array .long) true := ⟨RX10, TX10, 6, tyX10, rfl, by decide, layX10, tyX10_ok, nmX10, inT1 (List.mem_of_getElem? (i := 116) (by decide +kernel)), by decide +kernel, rfl, rfl⟩
theorem fX10_13 : FL RX10 13 10 1 (.array .int) true := ⟨RX10, TX10, 6, tyX10, rfl, by decide, layX10, tyX10_ok, nmX10, inT1 (List.mem_of_getElem? (i := 117) (by decide +kernel)), by decide +kernel, rfl, rfl⟩
theorem fX10_17 : FL RX10 17 10 2 (.array .int) true := ⟨RX10, TX10, 6, tyX10, rfl, by decide, layX10, tyX10_ok, nmX10, inT1 (List.mem_of_getElem? (i := 118) (by decide +kernel)), by decide +kernel, rfl, rfl⟩
theorem fX10_20 : FL RX10 20 10 3 (.array .long) true := ⟨RX10, TX10, 6, tyX10, rfl, by decide, layX10, tyX10_ok, nmX10, inT1 (List.mem_of_getElem? (i := 119) (by decide +kernel)), by decide +kernel, rfl, rfl⟩
theorem fX10_23 : FL RX10 23 10 4 (.int) false := ⟨RX10, TX10, 6, tyX10, rfl, by decide, layX10, tyX10_ok, nmX10, inT1 (List.mem_of_getElem? (i := 120) (by decide +kernel)), by decide +kernel, rfl, rfl⟩
theorem fX10_27 : FL RX10 27 10 5 (.int) false := ⟨RX10, TX10, 6, tyX10, rfl, by decide, layX10, tyX10_ok, nmX10, inT1 (List.mem_of_getElem? (i := 121) (by decide +kernel)), by decide +kernel, rfl, rfl⟩
theorem fX1_14 : FL RX1 14 1 0 (.object "FoamArms$Tokens") true := ⟨RX1, TX1, 9, tyX1, rfl, by decide, layX1, tyX1_ok, nmX1, inT1 (List.mem_of_getElem? (i := 137) (by decide +kernel)), by decide +kernel, rfl, rfl⟩
theorem fX1_20 : FL RX1 20 1 1 (.array .long) true := ⟨RX1, TX1, 9, tyX1, rfl, by decide, layX1, tyX1_ok, nmX1, inT1 (List.mem_of_getElem? (i := 138) (by decide +kernel)), by decide +kernel, rfl, rfl⟩
theorem fX1_24 : FL RX1 24 1 2 (.array .int) true := ⟨RX1, TX1, 9, tyX1, rfl, by decide, layX1, tyX1_ok, nmX1, inT1 (List.mem_of_getElem? (i := 139) (by decide +kernel)), by decide +kernel, rfl, rfl⟩
theorem fX1_28 : FL RX1 28 1 3 (.array .int) true := ⟨RX1, TX1, 9, tyX1, rfl, by decide, layX1, tyX1_ok, nmX1, inT1 (List.mem_of_getElem? (i := 140) (by decide +kernel)), by decide +kernel, rfl, rfl⟩
theorem fX1_31 : FL RX1 31 1 4 (.int) false := ⟨RX1, TX1, 9, tyX1, rfl, by decide, layX1, tyX1_ok, nmX1, inT1 (List.mem_of_getElem? (i := 141) (by decide +kernel)), by decide +kernel, rfl, rfl⟩
theorem fX1_35 : FL RX1 35 1 5 (.int) false := ⟨RX1, TX1, 9, tyX1, rfl, by decide, layX1, tyX1_ok, nmX1, inT1 (List.mem_of_getElem? (i := 142) (by decide +kernel)), by decide +kernel, rfl, rfl⟩
theorem fX1_38 : FL RX1 38 1 6 (.int) false := ⟨RX1, TX1, 9, tyX1, rfl, by decide, layX1, tyX1_ok, nmX1, inT1 (List.mem_of_getElem? (i := 143) (by decide +kernel)), by decide +kernel, rfl, rfl⟩
theorem fX1_41 : FL RX1 41 1 7 (.int) false := ⟨RX1, TX1, 9, tyX1, rfl, by decide, layX1, tyX1_ok, nmX1, inT1 (List.mem_of_getElem? (i := 144) (by decide +kernel)), by decide +kernel, rfl, rfl⟩
theorem fX1_44 : FL RX1 44 1 8 (.int) false := ⟨RX1, TX1, 9, tyX1, rfl, by decide, layX1, tyX1_ok, nmX1, inT1 (List.mem_of_getElem? (i := 145) (by decide +kernel)), by decide +kernel, rfl, rfl⟩
theorem fX11_83 : FL RX11 83 1 8 (.int) false := ⟨RX1, TX1, 9, tyX1, rfl, by decide, layX1, tyX1_ok, nmX1, inT1 (List.mem_of_getElem? (i := 146) (by decide +kernel)), by decide +kernel, rfl, rfl⟩
theorem fX0_11 : FL RX0 11 0 0 (.array (.object "FoamArms$Foam")) true := ⟨RX0, TX0, 10, tyX0, rfl, by decide, layX0, tyX0_ok, nmX0, inT1 (List.mem_of_getElem? (i := 181) (by decide +kernel)), by decide +kernel, rfl, rfl⟩
theorem fX0_17 : FL RX0 17 0 1 (.array (.object "FoamArms$Thing")) true := ⟨RX0, TX0, 10, tyX0, rfl, by decide, layX0, tyX0_ok, nmX0, inT1 (List.mem_of_getElem? (i := 182) (by decide +kernel)), by decide +kernel, rfl, rfl⟩
theorem fX0_23 : FL RX0 23 0 2 (.array (.object "FoamArms$Box")) true := ⟨RX0, TX0, 10, tyX0, rfl, by decide, layX0, tyX0_ok, nmX0, inT1 (List.mem_of_getElem? (i := 183) (by decide +kernel)), by decide +kernel, rfl, rfl⟩
theorem fX0_29 : FL RX0 29 0 3 (.array (.object "FoamArms$Drop")) true := ⟨RX0, TX0, 10, tyX0, rfl, by decide, layX0, tyX0_ok, nmX0, inT1 (List.mem_of_getElem? (i := 184) (by decide +kernel)), by decide +kernel, rfl, rfl⟩
theorem fX0_33 : FL RX0 33 0 4 (.int) false := ⟨RX0, TX0, 10, tyX0, rfl, by decide, layX0, tyX0_ok, nmX0, inT1 (List.mem_of_getElem? (i := 185) (by decide +kernel)), by decide +kernel, rfl, rfl⟩
theorem fX1_97 : FL RX1 97 0 4 (.int) false := ⟨RX0, TX0, 10, tyX0, rfl, by decide, layX0, tyX0_ok, nmX0, inT1 (List.mem_of_getElem? (i := 186) (by decide +kernel)), by decide +kernel, rfl, rfl⟩
theorem fX11_99 : FL RX11 99 0 4 (.int) false := ⟨RX0, TX0, 10, tyX0, rfl, by decide, layX0, tyX0_ok, nmX0, inT1 (List.mem_of_getElem? (i := 187) (by decide +kernel)), by decide +kernel, rfl, rfl⟩
theorem fX0_37 : FL RX0 37 0 5 (.int) false := ⟨RX0, TX0, 10, tyX0, rfl, by decide, layX0, tyX0_ok, nmX0, inT1 (List.mem_of_getElem? (i := 188) (by decide +kernel)), by decide +kernel, rfl, rfl⟩
theorem fX3_30 : FL RX3 30 0 5 (.int) false := ⟨RX0, TX0, 10, tyX0, rfl, by decide, layX0, tyX0_ok, nmX0, inT1 (List.mem_of_getElem? (i := 189) (by decide +kernel)), by decide +kernel, rfl, rfl⟩
theorem fX11_102 : FL RX11 102 0 5 (.int) false := ⟨RX0, TX0, 10, tyX0, rfl, by decide, layX0, tyX0_ok, nmX0, inT1 (List.mem_of_getElem? (i := 190) (by decide +kernel)), by decide +kernel, rfl, rfl⟩
theorem fX1_145 : FL RX1 145 0 5 (.int) false := ⟨RX0, TX0, 10, tyX0, rfl, by decide, layX0, tyX0_ok, nmX0, inT1 (List.mem_of_getElem? (i := 191) (by decide +kernel)), by decide +kernel, rfl, rfl⟩
theorem fX0_40 : FL RX0 40 0 6 (.int) false := ⟨RX0, TX0, 10, tyX0, rfl, by decide, layX0, tyX0_ok, nmX0, inT1 (List.mem_of_getElem? (i := 192) (by decide +kernel)), by decide +kernel, rfl, rfl⟩
theorem fX3_37 : FL RX3 37 0 6 (.int) false := ⟨RX0, TX0, 10, tyX0, rfl, by decide, layX0, tyX0_ok, nmX0, inT1 (List.mem_of_getElem? (i := 193) (by decide +kernel)), by decide +kernel, rfl, rfl⟩
theorem fX11_105 : FL RX11 105 0 6 (.int) false := ⟨RX0, TX0, 10, tyX0, rfl, by decide, layX0, tyX0_ok, nmX0, inT1 (List.mem_of_getElem? (i := 194) (by decide +kernel)), by decide +kernel, rfl, rfl⟩
theorem fX1_168 : FL RX1 168 0 6 (.int) false := ⟨RX0, TX0, 10, tyX0, rfl, by decide, layX0, tyX0_ok, nmX0, inT1 (List.mem_of_getElem? (i := 195) (by decide +kernel)), by decide +kernel, rfl, rfl⟩
theorem fX0_43 : FL RX0 43 0 7 (.int) false := ⟨RX0, TX0, 10, tyX0, rfl, by decide, layX0, tyX0_ok, nmX0, inT1 (List.mem_of_getElem? (i := 196) (by decide +kernel)), by decide +kernel, rfl, rfl⟩
theorem fX11_108 : FL RX11 108 0 7 (.int) false := ⟨RX0, TX0, 10, tyX0, rfl, by decide, layX0, tyX0_ok, nmX0, inT1 (List.mem_of_getElem? (i := 197) (by decide +kernel)), by decide +kernel, rfl, rfl⟩
theorem fX1_203 : FL RX1 203 0 7 (.int) false := ⟨RX0, TX0, 10, tyX0, rfl, by decide, layX0, tyX0_ok, nmX0, inT1 (List.mem_of_getElem? (i := 198) (by decide +kernel)), by decide +kernel, rfl, rfl⟩
theorem fX0_46 : FL RX0 46 0 8 (.int) false := ⟨RX0, TX0, 10, tyX0, rfl, by decide, layX0, tyX0_ok, nmX0, inT1 (List.mem_of_getElem? (i := 199) (by decide +kernel)), by decide +kernel, rfl, rfl⟩
theorem fX1_56 : FL RX1 56 0 8 (.int) false := ⟨RX0, TX0, 10, tyX0, rfl, by decide, layX0, tyX0_ok, nmX0, inT1 (List.mem_of_getElem? (i := 200) (by decide +kernel)), by decide +kernel, rfl, rfl⟩
theorem fX11_88 : FL RX11 88 0 8 (.int) false := ⟨RX0, TX0, 10, tyX0, rfl, by decide, layX0, tyX0_ok, nmX0, inT1 (List.mem_of_getElem? (i := 201) (by decide +kernel)), by decide +kernel, rfl, rfl⟩
theorem fX0_49 : FL RX0 49 0 9 (.int) false := ⟨RX0, TX0, 10, tyX0, rfl, by decide, layX0, tyX0_ok, nmX0, inT1 (List.mem_of_getElem? (i := 202) (by decide +kernel)), by decide +kernel, rfl, rfl⟩
theorem fX11_267 : FL RX11 267 0 9 (.int) false := ⟨RX0, TX0, 10, tyX0, rfl, by decide, layX0, tyX0_ok, nmX0, inT1 (List.mem_of_getElem? (i := 203) (by decide +kernel)), by decide +kernel, rfl, rfl⟩
theorem fX4_11 : FL RX4 11 4 0 (.array .int) true := ⟨RX4, TX4, 8, tyX4, rfl, by decide, layX4, tyX4_ok, nmX4, inT1 (List.mem_of_getElem? (i := 231) (by decide +kernel)), by decide +kernel, rfl, rfl⟩
theorem fX4_15 : FL RX4 15 4 1 (.array .int) true := ⟨RX4, TX4, 8, tyX4, rfl, by decide, layX4, tyX4_ok, nmX4, inT1 (List.mem_of_getElem? (i := 232) (by decide +kernel)), by decide +kernel, rfl, rfl⟩
theorem fX4_18 : FL RX4 18 4 2 (.array .long) true := ⟨RX4, TX4, 8, tyX4, rfl, by decide, layX4, tyX4_ok, nmX4, inT1 (List.mem_of_getElem? (i := 233) (by decide +kernel)), by decide +kernel, rfl, rfl⟩
theorem fX4_22 : FL RX4 22 4 3 (.int) false := ⟨RX4, TX4, 8, tyX4, rfl, by decide, layX4, tyX4_ok, nmX4, inT1 (List.mem_of_getElem? (i := 234) (by decide +kernel)), by decide +kernel, rfl, rfl⟩
theorem fX4_26 : FL RX4 26 4 4 (.long) false := ⟨RX4, TX4, 8, tyX4, rfl, by decide, layX4, tyX4_ok, nmX4, inT1 (List.mem_of_getElem? (i := 235) (by decide +kernel)), by decide +kernel, rfl, rfl⟩
theorem fX4_30 : FL RX4 30 4 5 (.long) false := ⟨RX4, TX4, 8, tyX4, rfl, by decide, layX4, tyX4_ok, nmX4, inT1 (List.mem_of_getElem? (i := 236) (by decide +kernel)), by decide +kernel, rfl, rfl⟩
theorem fX4_33 : FL RX4 33 4 6 (.int) false := ⟨RX4, TX4, 8, tyX4, rfl, by decide, layX4, tyX4_ok, nmX4, inT1 (List.mem_of_getElem? (i := 237) (by decide +kernel)), by decide +kernel, rfl, rfl⟩
theorem fX4_36 : FL RX4 36 4 7 (.int) false := ⟨RX4, TX4, 8, tyX4, rfl, by decide, layX4, tyX4_ok, nmX4, inT1 (List.mem_of_getElem? (i := 238) (by decide +kernel)), by decide +kernel, rfl, rfl⟩
theorem fX11_284 : FL RX11 284 4 7 (.int) false := ⟨RX4, TX4, 8, tyX4, rfl, by decide, layX4, tyX4_ok, nmX4, inT1 (List.mem_of_getElem? (i := 239) (by decide +kernel)), by decide +kernel, rfl, rfl⟩
theorem fX7_11 : FL RX7 11 7 0 (.array .int) true := ⟨RX7, TX7, 7, tyX7, rfl, by decide, layX7, tyX7_ok, nmX7, inT2 (List.mem_of_getElem? (i := 23) (by decide +kernel)), by decide +kernel, rfl, rfl⟩
theorem fX7_15 : FL RX7 15 7 1 (.array .int) true := ⟨RX7, TX7, 7, tyX7, rfl, by decide, layX7, tyX7_ok, nmX7, inT2 (List.mem_of_getElem? (i := 24) (by decide +kernel)), by decide +kernel, rfl, rfl⟩
theorem fX7_18 : FL RX7 18 7 2 (.array .int) true := ⟨RX7, TX7, 7, tyX7, rfl, by decide, layX7, tyX7_ok, nmX7, inT2 (List.mem_of_getElem? (i := 25) (by decide +kernel)), by decide +kernel, rfl, rfl⟩
theorem fX7_21 : FL RX7 21 7 3 (.array .int) true := ⟨RX7, TX7, 7, tyX7, rfl, by decide, layX7, tyX7_ok, nmX7, inT2 (List.mem_of_getElem? (i := 26) (by decide +kernel)), by decide +kernel, rfl, rfl⟩
theorem fX7_24 : FL RX7 24 7 4 (.array .int) true := ⟨RX7, TX7, 7, tyX7, rfl, by decide, layX7, tyX7_ok, nmX7, inT2 (List.mem_of_getElem? (i := 27) (by decide +kernel)), by decide +kernel, rfl, rfl⟩
theorem fX7_27 : FL RX7 27 7 5 (.array .int) true := ⟨RX7, TX7, 7, tyX7, rfl, by decide, layX7, tyX7_ok, nmX7, inT2 (List.mem_of_getElem? (i := 28) (by decide +kernel)), by decide +kernel, rfl, rfl⟩
theorem fX11_216 : FL RX11 216 7 5 (.array .int) true := ⟨RX7, TX7, 7, tyX7, rfl, by decide, layX7, tyX7_ok, nmX7, inT2 (List.mem_of_getElem? (i := 29) (by decide +kernel)), by decide +kernel, rfl, rfl⟩
theorem fX7_30 : FL RX7 30 7 6 (.int) false := ⟨RX7, TX7, 7, tyX7, rfl, by decide, layX7, tyX7_ok, nmX7, inT2 (List.mem_of_getElem? (i := 30) (by decide +kernel)), by decide +kernel, rfl, rfl⟩
theorem fX11_198 : FL RX11 198 7 6 (.int) false := ⟨RX7, TX7, 7, tyX7, rfl, by decide, layX7, tyX7_ok, nmX7, inT2 (List.mem_of_getElem? (i := 31) (by decide +kernel)), by decide +kernel, rfl, rfl⟩
theorem fX3_11 : FL RX3 11 3 0 (.array .int) true := ⟨RX3, TX3, 5, tyX3, rfl, by decide, layX3, tyX3_ok, nmX3, inT2 (List.mem_of_getElem? (i := 53) (by decide +kernel)), by decide +kernel, rfl, rfl⟩
theorem fX3_17 : FL RX3 17 3 1 (.array .int) true := ⟨RX3, TX3, 5, tyX3, rfl, by decide, layX3, tyX3_ok, nmX3, inT2 (List.mem_of_getElem? (i := 54) (by decide +kernel)), by decide +kernel, rfl, rfl⟩
theorem fX3_20 : FL RX3 20 3 2 (.int) false := ⟨RX3, TX3, 5, tyX3, rfl, by decide, layX3, tyX3_ok, nmX3, inT2 (List.mem_of_getElem? (i := 55) (by decide +kernel)), by decide +kernel, rfl, rfl⟩
theorem fX3_24 : FL RX3 24 3 3 (.int) false := ⟨RX3, TX3, 5, tyX3, rfl, by decide, layX3, tyX3_ok, nmX3, inT2 (List.mem_of_getElem? (i := 56) (by decide +kernel)), by decide +kernel, rfl, rfl⟩
theorem fX3_27 : FL RX3 27 3 4 (.int) false := ⟨RX3, TX3, 5, tyX3, rfl, by decide, layX3, tyX3_ok, nmX3, inT2 (List.mem_of_getElem? (i := 57) (by decide +kernel)), by decide +kernel, rfl, rfl⟩
theorem fX11_225 : FL RX11 225 3 4 (.int) false := ⟨RX3, TX3, 5, tyX3, rfl, by decide, layX3, tyX3_ok, nmX3, inT2 (List.mem_of_getElem? (i := 58) (by decide +kernel)), by decide +kernel, rfl, rfl⟩
theorem fX11_10 : FL RX11 10 11 0 (.object "FoamArms$Tape") true := ⟨RX11, TX11, 12, tyX11, rfl, by decide, layX11, tyX11_ok, nmX11, inT2 (List.mem_of_getElem? (i := 70) (by decide +kernel)), by decide +kernel, rfl, rfl⟩
theorem fX11_19 : FL RX11 19 11 1 (.object "FoamArms$BookReader") true := ⟨RX11, TX11, 12, tyX11, rfl, by decide, layX11, tyX11_ok, nmX11, inT2 (List.mem_of_getElem? (i := 71) (by decide +kernel)), by decide +kernel, rfl, rfl⟩
theorem fX11_25 : FL RX11 25 11 2 (.array (.object "FoamArms$Book")) true := ⟨RX11, TX11, 12, tyX11, rfl, by decide, layX11, tyX11_ok, nmX11, inT2 (List.mem_of_getElem? (i := 72) (by decide +kernel)), by decide +kernel, rfl, rfl⟩
theorem fX11_30 : FL RX11 30 11 3 (.object "FoamArms$Book") true := ⟨RX11, TX11, 12, tyX11, rfl, by decide, layX11, tyX11_ok, nmX11, inT2 (List.mem_of_getElem? (i := 73) (by decide +kernel)), by decide +kernel, rfl, rfl⟩
theorem fX11_37 : FL RX11 37 11 4 (.object "FoamArms$Cushion") true := ⟨RX11, TX11, 12, tyX11, rfl, by decide, layX11, tyX11_ok, nmX11, inT2 (List.mem_of_getElem? (i := 74) (by decide +kernel)), by decide +kernel, rfl, rfl⟩
theorem fX11_44 : FL RX11 44 11 5 (.object "FoamArms$PadChoice") true := ⟨RX11, TX11, 12, tyX11, rfl, by decide, layX11, tyX11_ok, nmX11, inT2 (List.mem_of_getElem? (i := 75) (by decide +kernel)), by decide +kernel, rfl, rfl⟩
theorem fX11_51 : FL RX11 51 11 6 (.object "FoamArms$BoxChoice") true := ⟨RX11, TX11, 12, tyX11, rfl, by decide, layX11, tyX11_ok, nmX11, inT2 (List.mem_of_getElem? (i := 76) (by decide +kernel)), by decide +kernel, rfl, rfl⟩
theorem fX11_55 : FL RX11 55 11 7 (.array .int) true := ⟨RX11, TX11, 12, tyX11, rfl, by decide, layX11, tyX11_ok, nmX11, inT2 (List.mem_of_getElem? (i := 77) (by decide +kernel)), by decide +kernel, rfl, rfl⟩
theorem fX11_59 : FL RX11 59 11 8 (.int) false := ⟨RX11, TX11, 12, tyX11, rfl, by decide, layX11, tyX11_ok, nmX11, inT2 (List.mem_of_getElem? (i := 78) (by decide +kernel)), by decide +kernel, rfl, rfl⟩
theorem fX11_63 : FL RX11 63 11 9 (.int) false := ⟨RX11, TX11, 12, tyX11, rfl, by decide, layX11, tyX11_ok, nmX11, inT2 (List.mem_of_getElem? (i := 79) (by decide +kernel)), by decide +kernel, rfl, rfl⟩
theorem fX11_66 : FL RX11 66 11 10 (.int) false := ⟨RX11, TX11, 12, tyX11, rfl, by decide, layX11, tyX11_ok, nmX11, inT2 (List.mem_of_getElem? (i := 80) (by decide +kernel)), by decide +kernel, rfl, rfl⟩
theorem fX11_69 : FL RX11 69 11 11 (.int) false := ⟨RX11, TX11, 12, tyX11, rfl, by decide, layX11, tyX11_ok, nmX11, inT2 (List.mem_of_getElem? (i := 81) (by decide +kernel)), by decide +kernel, rfl, rfl⟩
theorem fX6_11 : FL RX6 11 6 0 (.array .int) true := ⟨RX6, TX6, 5, tyX6, rfl, by decide, layX6, tyX6_ok, nmX6, inT2 (List.mem_of_getElem? (i := 216) (by decide +kernel)), by decide +kernel, rfl, rfl⟩
theorem fX6_15 : FL RX6 15 6 1 (.array .int) true := ⟨RX6, TX6, 5, tyX6, rfl, by decide, layX6, tyX6_ok, nmX6, inT2 (List.mem_of_getElem? (i := 217) (by decide +kernel)), by decide +kernel, rfl, rfl⟩
theorem fX6_18 : FL RX6 18 6 2 (.int) false := ⟨RX6, TX6, 5, tyX6, rfl, by decide, layX6, tyX6_ok, nmX6, inT2 (List.mem_of_getElem? (i := 218) (by decide +kernel)), by decide +kernel, rfl, rfl⟩
theorem fX1_131 : FL RX1 131 6 2 (.int) false := ⟨RX6, TX6, 5, tyX6, rfl, by decide, layX6, tyX6_ok, nmX6, inT2 (List.mem_of_getElem? (i := 219) (by decide +kernel)), by decide +kernel, rfl, rfl⟩
theorem fX6_22 : FL RX6 22 6 3 (.int) false := ⟨RX6, TX6, 5, tyX6, rfl, by decide, layX6, tyX6_ok, nmX6, inT2 (List.mem_of_getElem? (i := 220) (by decide +kernel)), by decide +kernel, rfl, rfl⟩
theorem fX4_59 : FL RX4 59 6 3 (.int) false := ⟨RX6, TX6, 5, tyX6, rfl, by decide, layX6, tyX6_ok, nmX6, inT2 (List.mem_of_getElem? (i := 221) (by decide +kernel)), by decide +kernel, rfl, rfl⟩
theorem fX1_117 : FL RX1 117 6 3 (.int) false := ⟨RX6, TX6, 5, tyX6, rfl, by decide, layX6, tyX6_ok, nmX6, inT2 (List.mem_of_getElem? (i := 222) (by decide +kernel)), by decide +kernel, rfl, rfl⟩
theorem fX6_25 : FL RX6 25 6 4 (.int) false := ⟨RX6, TX6, 5, tyX6, rfl, by decide, layX6, tyX6_ok, nmX6, inT2 (List.mem_of_getElem? (i := 223) (by decide +kernel)), by decide +kernel, rfl, rfl⟩
theorem fX7_49 : FL RX7 49 6 4 (.int) false := ⟨RX6, TX6, 5, tyX6, rfl, by decide, layX6, tyX6_ok, nmX6, inT2 (List.mem_of_getElem? (i := 224) (by decide +kernel)), by decide +kernel, rfl, rfl⟩
theorem fX1_120 : FL RX1 120 6 4 (.int) false := ⟨RX6, TX6, 5, tyX6, rfl, by decide, layX6, tyX6_ok, nmX6, inT2 (List.mem_of_getElem? (i := 225) (by decide +kernel)), by decide +kernel, rfl, rfl⟩
theorem fX9_9 : FL RX9 9 9 0 (.array .int) true := ⟨RX9, TX9, 6, tyX9, rfl, by decide, layX9, tyX9_ok, nmX9, inT3 (List.mem_of_getElem? (i := 37) (by decide +kernel)), by decide +kernel, rfl, rfl⟩
theorem fX7_59 : FL RX7 59 9 0 (.array .int) true := ⟨RX9, TX9, 6, tyX9, rfl, by decide, layX9, tyX9_ok, nmX9, inT3 (List.mem_of_getElem? (i := 38) (by decide +kernel)), by decide +kernel, rfl, rfl⟩
theorem fX1_154 : FL RX1 154 9 0 (.array .int) true := ⟨RX9, TX9, 6, tyX9, rfl, by decide, layX9, tyX9_ok, nmX9, inT3 (List.mem_of_getElem? (i := 39) (by decide +kernel)), by decide +kernel, rfl, rfl⟩
theorem fX9_17 : FL RX9 17 9 1 (.array (.object "FoamArms$Foam")) true := ⟨RX9, TX9, 6, tyX9, rfl, by decide, layX9, tyX9_ok, nmX9, inT3 (List.mem_of_getElem? (i := 40) (by decide +kernel)), by decide +kernel, rfl, rfl⟩
theorem fX4_43 : FL RX4 43 9 1 (.array (.object "FoamArms$Foam")) true := ⟨RX9, TX9, 6, tyX9, rfl, by decide, layX9, tyX9_ok, nmX9, inT3 (List.mem_of_getElem? (i := 41) (by decide +kernel)), by decide +kernel, rfl, rfl⟩
theorem fX9_21 : FL RX9 21 9 2 (.array .int) true := ⟨RX9, TX9, 6, tyX9, rfl, by decide, layX9, tyX9_ok, nmX9, inT3 (List.mem_of_getElem? (i := 42) (by decide +kernel)), by decide +kernel, rfl, rfl⟩
theorem fX4_49 : FL RX4 49 9 2 (.array .int) true := ⟨RX9, TX9, 6, tyX9, rfl, by decide, layX9, tyX9_ok, nmX9, inT3 (List.mem_of_getElem? (i := 43) (by decide +kernel)), by decide +kernel, rfl, rfl⟩
theorem fX9_24 : FL RX9 24 9 3 (.array .int) true := ⟨RX9, TX9, 6, tyX9, rfl, by decide, layX9, tyX9_ok, nmX9, inT3 (List.mem_of_getElem? (i := 44) (by decide +kernel)), by decide +kernel, rfl, rfl⟩
theorem fX4_52 : FL RX4 52 9 3 (.array .int) true := ⟨RX9, TX9, 6, tyX9, rfl, by decide, layX9, tyX9_ok, nmX9, inT3 (List.mem_of_getElem? (i := 45) (by decide +kernel)), by decide +kernel, rfl, rfl⟩
theorem fX9_27 : FL RX9 27 9 4 (.int) false := ⟨RX9, TX9, 6, tyX9, rfl, by decide, layX9, tyX9_ok, nmX9, inT3 (List.mem_of_getElem? (i := 46) (by decide +kernel)), by decide +kernel, rfl, rfl⟩
theorem fX4_101 : FL RX4 101 9 4 (.int) false := ⟨RX9, TX9, 6, tyX9, rfl, by decide, layX9, tyX9_ok, nmX9, inT3 (List.mem_of_getElem? (i := 47) (by decide +kernel)), by decide +kernel, rfl, rfl⟩
theorem fX11_135 : FL RX11 135 9 4 (.int) false := ⟨RX9, TX9, 6, tyX9, rfl, by decide, layX9, tyX9_ok, nmX9, inT3 (List.mem_of_getElem? (i := 48) (by decide +kernel)), by decide +kernel, rfl, rfl⟩
theorem fX1_151 : FL RX1 151 9 4 (.int) false := ⟨RX9, TX9, 6, tyX9, rfl, by decide, layX9, tyX9_ok, nmX9, inT3 (List.mem_of_getElem? (i := 49) (by decide +kernel)), by decide +kernel, rfl, rfl⟩
theorem fX9_31 : FL RX9 31 9 5 (.int) false := ⟨RX9, TX9, 6, tyX9, rfl, by decide, layX9, tyX9_ok, nmX9, inT3 (List.mem_of_getElem? (i := 50) (by decide +kernel)), by decide +kernel, rfl, rfl⟩
theorem fX4_107 : FL RX4 107 9 5 (.int) false := ⟨RX9, TX9, 6, tyX9, rfl, by decide, layX9, tyX9_ok, nmX9, inT3 (List.mem_of_getElem? (i := 51) (by decide +kernel)), by decide +kernel, rfl, rfl⟩
theorem fX1_161 : FL RX1 161 9 5 (.int) false := ⟨RX9, TX9, 6, tyX9, rfl, by decide, layX9, tyX9_ok, nmX9, inT3 (List.mem_of_getElem? (i := 52) (by decide +kernel)), by decide +kernel, rfl, rfl⟩
theorem fX11_183 : FL RX11 183 9 5 (.int) false := ⟨RX9, TX9, 6, tyX9, rfl, by decide, layX9, tyX9_ok, nmX9, inT3 (List.mem_of_getElem? (i := 53) (by decide +kernel)), by decide +kernel, rfl, rfl⟩
theorem fX2_9 : FL RX2 9 2 0 (.array .int) true := ⟨RX2, TX2, 3, tyX2, rfl, by decide, layX2, tyX2_ok, nmX2, inT3 (List.mem_of_getElem? (i := 85) (by decide +kernel)), by decide +kernel, rfl, rfl⟩
theorem fX9_38 : FL RX9 38 2 0 (.array .int) true := ⟨RX2, TX2, 3, tyX2, rfl, by decide, layX2, tyX2_ok, nmX2, inT3 (List.mem_of_getElem? (i := 86) (by decide +kernel)), by decide +kernel, rfl, rfl⟩
theorem fX7_54 : FL RX7 54 2 0 (.array .int) true := ⟨RX2, TX2, 3, tyX2, rfl, by decide, layX2, tyX2_ok, nmX2, inT3 (List.mem_of_getElem? (i := 87) (by decide +kernel)), by decide +kernel, rfl, rfl⟩
theorem fX1_174 : FL RX1 174 2 0 (.array .int) true := ⟨RX2, TX2, 3, tyX2, rfl, by decide, layX2, tyX2_ok, nmX2, inT3 (List.mem_of_getElem? (i := 88) (by decide +kernel)), by decide +kernel, rfl, rfl⟩
theorem fX2_15 : FL RX2 15 2 1 (.int) false := ⟨RX2, TX2, 3, tyX2, rfl, by decide, layX2, tyX2_ok, nmX2, inT3 (List.mem_of_getElem? (i := 89) (by decide +kernel)), by decide +kernel, rfl, rfl⟩
theorem fX3_42 : FL RX3 42 2 1 (.int) false := ⟨RX2, TX2, 3, tyX2, rfl, by decide, layX2, tyX2_ok, nmX2, inT3 (List.mem_of_getElem? (i := 90) (by decide +kernel)), by decide +kernel, rfl, rfl⟩
theorem fX1_177 : FL RX1 177 2 1 (.int) false := ⟨RX2, TX2, 3, tyX2, rfl, by decide, layX2, tyX2_ok, nmX2, inT3 (List.mem_of_getElem? (i := 91) (by decide +kernel)), by decide +kernel, rfl, rfl⟩
theorem fX2_19 : FL RX2 19 2 2 (.int) false := ⟨RX2, TX2, 3, tyX2, rfl, by decide, layX2, tyX2_ok, nmX2, inT3 (List.mem_of_getElem? (i := 92) (by decide +kernel)), by decide +kernel, rfl, rfl⟩
theorem fX1_178 : FL RX1 178 2 2 (.int) false := ⟨RX2, TX2, 3, tyX2, rfl, by decide, layX2, tyX2_ok, nmX2, inT3 (List.mem_of_getElem? (i := 93) (by decide +kernel)), by decide +kernel, rfl, rfl⟩
theorem fX11_229 : FL RX11 229 2 2 (.int) false := ⟨RX2, TX2, 3, tyX2, rfl, by decide, layX2, tyX2_ok, nmX2, inT3 (List.mem_of_getElem? (i := 94) (by decide +kernel)), by decide +kernel, rfl, rfl⟩
theorem fX5_7 : FL RX5 7 5 0 (.int) false := ⟨RX5, TX5, 4, tyX5, rfl, by decide, layX5, tyX5_ok, nmX5, inT3 (List.mem_of_getElem? (i := 143) (by decide +kernel)), by decide +kernel, rfl, rfl⟩
theorem fX1_209 : FL RX1 209 5 0 (.int) false := ⟨RX5, TX5, 4, tyX5, rfl, by decide, layX5, tyX5_ok, nmX5, inT3 (List.mem_of_getElem? (i := 144) (by decide +kernel)), by decide +kernel, rfl, rfl⟩
theorem fX11_163 : FL RX11 163 5 0 (.int) false := ⟨RX5, TX5, 4, tyX5, rfl, by decide, layX5, tyX5_ok, nmX5, inT3 (List.mem_of_getElem? (i := 145) (by decide +kernel)), by decide +kernel, rfl, rfl⟩
theorem fX5_13 : FL RX5 13 5 1 (.int) false := ⟨RX5, TX5, 4, tyX5, rfl, by decide, layX5, tyX5_ok, nmX5, inT3 (List.mem_of_getElem? (i := 146) (by decide +kernel)), by decide +kernel, rfl, rfl⟩
theorem fX1_212 : FL RX1 212 5 1 (.int) false := ⟨RX5, TX5, 4, tyX5, rfl, by decide, layX5, tyX5_ok, nmX5, inT3 (List.mem_of_getElem? (i := 147) (by decide +kernel)), by decide +kernel, rfl, rfl⟩
theorem fX11_275 : FL RX11 275 5 1 (.int) false := ⟨RX5, TX5, 4, tyX5, rfl, by decide, layX5, tyX5_ok, nmX5, inT3 (List.mem_of_getElem? (i := 148) (by decide +kernel)), by decide +kernel, rfl, rfl⟩
theorem fX5_16 : FL RX5 16 5 2 (.int) false := ⟨RX5, TX5, 4, tyX5, rfl, by decide, layX5, tyX5_ok, nmX5, inT3 (List.mem_of_getElem? (i := 149) (by decide +kernel)), by decide +kernel, rfl, rfl⟩
theorem fX1_215 : FL RX1 215 5 2 (.int) false := ⟨RX5, TX5, 4, tyX5, rfl, by decide, layX5, tyX5_ok, nmX5, inT3 (List.mem_of_getElem? (i := 150) (by decide +kernel)), by decide +kernel, rfl, rfl⟩
theorem fX11_281 : FL RX11 281 5 2 (.int) false := ⟨RX5, TX5, 4, tyX5, rfl, by decide, layX5, tyX5_ok, nmX5, inT3 (List.mem_of_getElem? (i := 151) (by decide +kernel)), by decide +kernel, rfl, rfl⟩
theorem fX5_19 : FL RX5 19 5 3 (.int) false := ⟨RX5, TX5, 4, tyX5, rfl, by decide, layX5, tyX5_ok, nmX5, inT3 (List.mem_of_getElem? (i := 152) (by decide +kernel)), by decide +kernel, rfl, rfl⟩
theorem fX1_218 : FL RX1 218 5 3 (.int) false := ⟨RX5, TX5, 4, tyX5, rfl, by decide, layX5, tyX5_ok, nmX5, inT3 (List.mem_of_getElem? (i := 153) (by decide +kernel)), by decide +kernel, rfl, rfl⟩
theorem fX11_278 : FL RX11 278 5 3 (.int) false := ⟨RX5, TX5, 4, tyX5, rfl, by decide, layX5, tyX5_ok, nmX5, inT3 (List.mem_of_getElem? (i := 154) (by decide +kernel)), by decide +kernel, rfl, rfl⟩
theorem fX12_55 : FL RX12 55 12 0 (.int) false := ⟨RX12, TX12, 35, tyX12, rfl, by decide, layX12, tyX12_ok, nmX12, inT5 (List.mem_of_getElem? (i := 56) (by decide +kernel)), by decide +kernel, rfl, rfl⟩
theorem fX12_7 : FL RX12 7 12 1 (.array .int) true := ⟨RX12, TX12, 35, tyX12, rfl, by decide, layX12, tyX12_ok, nmX12, inT5 (List.mem_of_getElem? (i := 57) (by decide +kernel)), by decide +kernel, rfl, rfl⟩
theorem fX12_13 : FL RX12 13 12 2 (.array .int) true := ⟨RX12, TX12, 35, tyX12, rfl, by decide, layX12, tyX12_ok, nmX12, inT5 (List.mem_of_getElem? (i := 58) (by decide +kernel)), by decide +kernel, rfl, rfl⟩
theorem fX12_16 : FL RX12 16 12 3 (.array .int) true := ⟨RX12, TX12, 35, tyX12, rfl, by decide, layX12, tyX12_ok, nmX12, inT5 (List.mem_of_getElem? (i := 59) (by decide +kernel)), by decide +kernel, rfl, rfl⟩
theorem fX12_58 : FL RX12 58 12 4 (.int) false := ⟨RX12, TX12, 35, tyX12, rfl, by decide, layX12, tyX12_ok, nmX12, inT5 (List.mem_of_getElem? (i := 60) (by decide +kernel)), by decide +kernel, rfl, rfl⟩
theorem fX12_69 : FL RX12 69 12 5 (.int) false := ⟨RX12, TX12, 35, tyX12, rfl, by decide, layX12, tyX12_ok, nmX12, inT5 (List.mem_of_getElem? (i := 61) (by decide +kernel)), by decide +kernel, rfl, rfl⟩
theorem fX12_205 : FL RX12 205 12 6 (.int) false := ⟨RX12, TX12, 35, tyX12, rfl, by decide, layX12, tyX12_ok, nmX12, inT5 (List.mem_of_getElem? (i := 62) (by decide +kernel)), by decide +kernel, rfl, rfl⟩
theorem fX12_72 : FL RX12 72 12 7 (.int) false := ⟨RX12, TX12, 35, tyX12, rfl, by decide, layX12, tyX12_ok, nmX12, inT5 (List.mem_of_getElem? (i := 63) (by decide +kernel)), by decide +kernel, rfl, rfl⟩
theorem fX12_75 : FL RX12 75 12 8 (.int) false := ⟨RX12, TX12, 35, tyX12, rfl, by decide, layX12, tyX12_ok, nmX12, inT5 (List.mem_of_getElem? (i := 64) (by decide +kernel)), by decide +kernel, rfl, rfl⟩
theorem fX12_78 : FL RX12 78 12 9 (.int) false := ⟨RX12, TX12, 35, tyX12, rfl, by decide, layX12, tyX12_ok, nmX12, inT5 (List.mem_of_getElem? (i := 65) (by decide +kernel)), by decide +kernel, rfl, rfl⟩
theorem fX12_81 : FL RX12 81 12 10 (.int) false := ⟨RX12, TX12, 35, tyX12, rfl, by decide, layX12, tyX12_ok, nmX12, inT5 (List.mem_of_getElem? (i := 66) (by decide +kernel)), by decide +kernel, rfl, rfl⟩
theorem fX12_98 : FL RX12 98 12 11 (.int) false := ⟨RX12, TX12, 35, tyX12, rfl, by decide, layX12, tyX12_ok, nmX12, inT5 (List.mem_of_getElem? (i := 67) (by decide +kernel)), by decide +kernel, rfl, rfl⟩
theorem fX12_91 : FL RX12 91 12 12 (.int) false := ⟨RX12, TX12, 35, tyX12, rfl, by decide, layX12, tyX12_ok, nmX12, inT5 (List.mem_of_getElem? (i := 68) (by decide +kernel)), by decide +kernel, rfl, rfl⟩
theorem fX12_139 : FL RX12 139 12 13 (.int) false := ⟨RX12, TX12, 35, tyX12, rfl, by decide, layX12, tyX12_ok, nmX12, inT5 (List.mem_of_getElem? (i := 69) (by decide +kernel)), by decide +kernel, rfl, rfl⟩
theorem fX12_142 : FL RX12 142 12 14 (.int) false := ⟨RX12, TX12, 35, tyX12, rfl, by decide, layX12, tyX12_ok, nmX12, inT5 (List.mem_of_getElem? (i := 70) (by decide +kernel)), by decide +kernel, rfl, rfl⟩
theorem fX12_94 : FL RX12 94 12 15 (.long) false := ⟨RX12, TX12, 35, tyX12, rfl, by decide, layX12, tyX12_ok, nmX12, inT5 (List.mem_of_getElem? (i := 71) (by decide +kernel)), by decide +kernel, rfl, rfl⟩
theorem fX12_151 : FL RX12 151 12 16 (.int) false := ⟨RX12, TX12, 35, tyX12, rfl, by decide, layX12, tyX12_ok, nmX12, inT5 (List.mem_of_getElem? (i := 72) (by decide +kernel)), by decide +kernel, rfl, rfl⟩
theorem fX12_19 : FL RX12 19 12 17 (.array .long) true := ⟨RX12, TX12, 35, tyX12, rfl, by decide, layX12, tyX12_ok, nmX12, inT5 (List.mem_of_getElem? (i := 73) (by decide +kernel)), by decide +kernel, rfl, rfl⟩
theorem fX12_211 : FL RX12 211 12 18 (.int) false := ⟨RX12, TX12, 35, tyX12, rfl, by decide, layX12, tyX12_ok, nmX12, inT5 (List.mem_of_getElem? (i := 74) (by decide +kernel)), by decide +kernel, rfl, rfl⟩
theorem fX12_23 : FL RX12 23 12 19 (.array .int) true := ⟨RX12, TX12, 35, tyX12, rfl, by decide, layX12, tyX12_ok, nmX12, inT5 (List.mem_of_getElem? (i := 75) (by decide +kernel)), by decide +kernel, rfl, rfl⟩
theorem fX12_26 : FL RX12 26 12 20 (.array .long) true := ⟨RX12, TX12, 35, tyX12, rfl, by decide, layX12, tyX12_ok, nmX12, inT5 (List.mem_of_getElem? (i := 76) (by decide +kernel)), by decide +kernel, rfl, rfl⟩
theorem fX12_220 : FL RX12 220 12 21 (.int) false := ⟨RX12, TX12, 35, tyX12, rfl, by decide, layX12, tyX12_ok, nmX12, inT5 (List.mem_of_getElem? (i := 77) (by decide +kernel)), by decide +kernel, rfl, rfl⟩
theorem fX12_239 : FL RX12 239 12 22 (.int) false := ⟨RX12, TX12, 35, tyX12, rfl, by decide, layX12, tyX12_ok, nmX12, inT5 (List.mem_of_getElem? (i := 78) (by decide +kernel)), by decide +kernel, rfl, rfl⟩
theorem fX12_242 : FL RX12 242 12 23 (.int) false := ⟨RX12, TX12, 35, tyX12, rfl, by decide, layX12, tyX12_ok, nmX12, inT5 (List.mem_of_getElem? (i := 79) (by decide +kernel)), by decide +kernel, rfl, rfl⟩
theorem fX12_245 : FL RX12 245 12 24 (.int) false := ⟨RX12, TX12, 35, tyX12, rfl, by decide, layX12, tyX12_ok, nmX12, inT5 (List.mem_of_getElem? (i := 80) (by decide +kernel)), by decide +kernel, rfl, rfl⟩
theorem fX12_29 : FL RX12 29 12 25 (.int) false := ⟨RX12, TX12, 35, tyX12, rfl, by decide, layX12, tyX12_ok, nmX12, inT5 (List.mem_of_getElem? (i := 81) (by decide +kernel)), by decide +kernel, rfl, rfl⟩
theorem fX12_33 : FL RX12 33 12 26 (.array .int) true := ⟨RX12, TX12, 35, tyX12, rfl, by decide, layX12, tyX12_ok, nmX12, inT5 (List.mem_of_getElem? (i := 82) (by decide +kernel)), by decide +kernel, rfl, rfl⟩
theorem fX12_36 : FL RX12 36 12 27 (.array .int) true := ⟨RX12, TX12, 35, tyX12, rfl, by decide, layX12, tyX12_ok, nmX12, inT5 (List.mem_of_getElem? (i := 83) (by decide +kernel)), by decide +kernel, rfl, rfl⟩
theorem fX12_39 : FL RX12 39 12 28 (.array .int) true := ⟨RX12, TX12, 35, tyX12, rfl, by decide, layX12, tyX12_ok, nmX12, inT5 (List.mem_of_getElem? (i := 84) (by decide +kernel)), by decide +kernel, rfl, rfl⟩
theorem fX12_42 : FL RX12 42 12 29 (.array .int) true := ⟨RX12, TX12, 35, tyX12, rfl, by decide, layX12, tyX12_ok, nmX12, inT5 (List.mem_of_getElem? (i := 85) (by decide +kernel)), by decide +kernel, rfl, rfl⟩
theorem fX12_45 : FL RX12 45 12 30 (.array .int) true := ⟨RX12, TX12, 35, tyX12, rfl, by decide, layX12, tyX12_ok, nmX12, inT5 (List.mem_of_getElem? (i := 86) (by decide +kernel)), by decide +kernel, rfl, rfl⟩
theorem fX12_48 : FL RX12 48 12 31 (.array .int) true := ⟨RX12, TX12, 35, tyX12, rfl, by decide, layX12, tyX12_ok, nmX12, inT5 (List.mem_of_getElem? (i := 87) (by decide +kernel)), by decide +kernel, rfl, rfl⟩
theorem fX12_51 : FL RX12 51 12 32 (.array .boolean) true := ⟨RX12, TX12, 35, tyX12, rfl, by decide, layX12, tyX12_ok, nmX12, inT5 (List.mem_of_getElem? (i := 88) (by decide +kernel)), by decide +kernel, rfl, rfl⟩
theorem fX12_283 : FL RX12 283 12 33 (.boolean) false := ⟨RX12, TX12, 35, tyX12, rfl, by decide, layX12, tyX12_ok, nmX12, inT5 (List.mem_of_getElem? (i := 89) (by decide +kernel)), by decide +kernel, rfl, rfl⟩
theorem fX12_293 : FL RX12 293 12 34 (.int) false := ⟨RX12, TX12, 35, tyX12, rfl, by decide, layX12, tyX12_ok, nmX12, inT5 (List.mem_of_getElem? (i := 90) (by decide +kernel)), by decide +kernel, rfl, rfl⟩
abbrev mX11_init : MT := (yX11_init, cX11_init, 1, none)
theorem Y_X11_init : YL yX11_init cX11_init 1 none 0 := ⟨inT1 (List.mem_of_getElem? (i := 28) (by decide +kernel)), inT1 (List.mem_of_getElem? (i := 1) (by decide +kernel)), by decide +kernel, by decide +kernel, by decide +kernel, by decide +kernel⟩
abbrev mX8_init : MT := (yX8_init, cX8_init, 1, none)
theorem Y_X8_init : YL yX8_init cX8_init 1 none 0 := ⟨inT1 (List.mem_of_getElem? (i := 36) (by decide +kernel)), inT1 (List.mem_of_getElem? (i := 2) (by decide +kernel)), by decide +kernel, by decide +kernel, by decide +kernel, by decide +kernel⟩
abbrev mX1_init : MT := (yX1_init, cX1_init, 1, none)
theorem Y_X1_init : YL yX1_init cX1_init 1 none 0 := ⟨inT1 (List.mem_of_getElem? (i := 54) (by decide +kernel)), inT1 (List.mem_of_getElem? (i := 3) (by decide +kernel)), by decide +kernel, by decide +kernel, by decide +kernel, by decide +kernel⟩
abbrev mX10_init : MT := (yX10_init, cX10_init, 5, none)
theorem Y_X10_init : YL yX10_init cX10_init 5 none 0 := ⟨inT1 (List.mem_of_getElem? (i := 60) (by decide +kernel)), inT1 (List.mem_of_getElem? (i := 4) (by decide +kernel)), by decide +kernel, by decide +kernel, by decide +kernel, by decide +kernel⟩
abbrev mJ0_length_8abf5 : MT := (yJ0_length_8abf5, cJ0_length_8abf5, 1, (some .int))
theorem Y_J0_length_8abf5 : YL yJ0_length_8abf5 cJ0_length_8abf5 1 (some .int) 0 := ⟨inT1 (List.mem_of_getElem? (i := 66) (by decide +kernel)), inT1 (List.mem_of_getElem? (i := 5) (by decide +kernel)), by decide +kernel, by decide +kernel, by decide +kernel, by decide +kernel⟩
abbrev mJ0_coder_7d493 : MT := (yJ0_coder_7d493, cJ0_coder_7d493, 1, (some .byte))
theorem Y_J0_coder_7d493 : YL yJ0_coder_7d493 cJ0_coder_7d493 1 (some .byte) 0 := ⟨inT1 (List.mem_of_getElem? (i := 70) (by decide +kernel)), inT1 (List.mem_of_getElem? (i := 5) (by decide +kernel)), by decide +kernel, by decide +kernel, by decide +kernel, by decide +kernel⟩
abbrev mJ0_charAt_5068e : MT := (yJ0_charAt_5068e, cJ0_charAt_5068e, 2, (some .char))
theorem Y_J0_charAt_5068e : YL yJ0_charAt_5068e cJ0_charAt_5068e 2 (some .char) 1 := ⟨inT1 (List.mem_of_getElem? (i := 76) (by decide +kernel)), inT1 (List.mem_of_getElem? (i := 5) (by decide +kernel)), by decide +kernel, by decide +kernel, by decide +kernel, by decide +kernel⟩
abbrev mJ0_isLatin1_aae02 : MT := (yJ0_isLatin1_aae02, cJ0_isLatin1_aae02, 1, (some .boolean))
theorem Y_J0_isLatin1_aae02 : YL yJ0_isLatin1_aae02 cJ0_isLatin1_aae02 1 (some .boolean) 0 := ⟨inT1 (List.mem_of_getElem? (i := 80) (by decide +kernel)), inT1 (List.mem_of_getElem? (i := 5) (by decide +kernel)), by decide +kernel, by decide +kernel, by decide +kernel, by decide +kernel⟩
abbrev mJ1_charAt_3b067 : MT := (yJ1_charAt_3b067, cJ1_charAt_3b067, 2, (some .char))
theorem Y_J1_charAt_3b067 : YL yJ1_charAt_3b067 cJ1_charAt_3b067 2 (some .char) 2 := ⟨inT1 (List.mem_of_getElem? (i := 83) (by decide +kernel)), inT1 (List.mem_of_getElem? (i := 6) (by decide +kernel)), by decide +kernel, by decide +kernel, by decide +kernel, by decide +kernel⟩
abbrev mJ0_checkIndex_df160 : MT := (yJ0_checkIndex_df160, cJ0_checkIndex_df160, 2, none)
theorem Y_J0_checkIndex_df160 : YL yJ0_checkIndex_df160 cJ0_checkIndex_df160 2 none 2 := ⟨inT1 (List.mem_of_getElem? (i := 86) (by decide +kernel)), inT1 (List.mem_of_getElem? (i := 5) (by decide +kernel)), by decide +kernel, by decide +kernel, by decide +kernel, by decide +kernel⟩
abbrev mJ3_checkIndex_8e157 : MT := (yJ3_checkIndex_8e157, cJ3_checkIndex_8e157, 3, (some .int))
theorem Y_J3_checkIndex_8e157 : YL yJ3_checkIndex_8e157 cJ3_checkIndex_8e157 3 (some .int) 3 := ⟨inT1 (List.mem_of_getElem? (i := 91) (by decide +kernel)), inT1 (List.mem_of_getElem? (i := 7) (by decide +kernel)), by decide +kernel, by decide +kernel, by decide +kernel, by decide +kernel⟩
abbrev mJ2_charAt_3b067 : MT := (yJ2_charAt_3b067, cJ2_charAt_3b067, 2, (some .char))
theorem Y_J2_charAt_3b067 : YL yJ2_charAt_3b067 cJ2_charAt_3b067 2 (some .char) 2 := ⟨inT1 (List.mem_of_getElem? (i := 94) (by decide +kernel)), inT1 (List.mem_of_getElem? (i := 8) (by decide +kernel)), by decide +kernel, by decide +kernel, by decide +kernel, by decide +kernel⟩
abbrev mJ2_checkIndex_2214a : MT := (yJ2_checkIndex_2214a, cJ2_checkIndex_2214a, 2, none)
theorem Y_J2_checkIndex_2214a : YL yJ2_checkIndex_2214a cJ2_checkIndex_2214a 2 none 2 := ⟨inT1 (List.mem_of_getElem? (i := 97) (by decide +kernel)), inT1 (List.mem_of_getElem? (i := 8) (by decide +kernel)), by decide +kernel, by decide +kernel, by decide +kernel, by decide +kernel⟩
abbrev mJ2_length_9d52b : MT := (yJ2_length_9d52b, cJ2_length_9d52b, 1, (some .int))
theorem Y_J2_length_9d52b : YL yJ2_length_9d52b cJ2_length_9d52b 1 (some .int) 1 := ⟨inT1 (List.mem_of_getElem? (i := 100) (by decide +kernel)), inT1 (List.mem_of_getElem? (i := 8) (by decide +kernel)), by decide +kernel, by decide +kernel, by decide +kernel, by decide +kernel⟩
abbrev mJ2_getChar_3b067 : MT := (yJ2_getChar_3b067, cJ2_getChar_3b067, 2, (some .char))
theorem Y_J2_getChar_3b067 : YL yJ2_getChar_3b067 cJ2_getChar_3b067 2 (some .char) 2 := ⟨inT1 (List.mem_of_getElem? (i := 104) (by decide +kernel)), inT1 (List.mem_of_getElem? (i := 8) (by decide +kernel)), by decide +kernel, by decide +kernel, by decide +kernel, by decide +kernel⟩
abbrev mX10_withLetter : MT := (yX10_withLetter, cX10_withLetter, 3, (some .long))
theorem Y_X10_withLetter : YL yX10_withLetter cX10_withLetter 3 (some .long) 2 := ⟨inT1 (List.mem_of_getElem? (i := 113) (by decide +kernel)), inT1 (List.mem_of_getElem? (i := 4) (by decide +kernel)), by decide +kernel, by decide +kernel, by decide +kernel, by decide +kernel⟩
abbrev mX0_init : MT := (yX0_init, cX0_init, 1, none)
theorem Y_X0_init : YL yX0_init cX0_init 1 none 0 := ⟨inT1 (List.mem_of_getElem? (i := 171) (by decide +kernel)), inT1 (List.mem_of_getElem? (i := 9) (by decide +kernel)), by decide +kernel, by decide +kernel, by decide +kernel, by decide +kernel⟩
abbrev mX4_init : MT := (yX4_init, cX4_init, 1, none)
theorem Y_X4_init : YL yX4_init cX4_init 1 none 0 := ⟨inT1 (List.mem_of_getElem? (i := 229) (by decide +kernel)), inT1 (List.mem_of_getElem? (i := 10) (by decide +kernel)), by decide +kernel, by decide +kernel, by decide +kernel, by decide +kernel⟩
abbrev mX7_init : MT := (yX7_init, cX7_init, 2, none)
theorem Y_X7_init : YL yX7_init cX7_init 2 none 0 := ⟨inT2 (List.mem_of_getElem? (i := 21) (by decide +kernel)), inT1 (List.mem_of_getElem? (i := 11) (by decide +kernel)), by decide +kernel, by decide +kernel, by decide +kernel, by decide +kernel⟩
abbrev mX3_init : MT := (yX3_init, cX3_init, 1, none)
theorem Y_X3_init : YL yX3_init cX3_init 1 none 0 := ⟨inT2 (List.mem_of_getElem? (i := 51) (by decide +kernel)), inT1 (List.mem_of_getElem? (i := 12) (by decide +kernel)), by decide +kernel, by decide +kernel, by decide +kernel, by decide +kernel⟩
abbrev mX11_feed : MT := (yX11_feed, cX11_feed, 6, (some .int))
theorem Y_X11_feed : YL yX11_feed cX11_feed 6 (some .int) 5 := ⟨inT2 (List.mem_of_getElem? (i := 110) (by decide +kernel)), inT1 (List.mem_of_getElem? (i := 1) (by decide +kernel)), by decide +kernel, by decide +kernel, by decide +kernel, by decide +kernel⟩
abbrev mX8_add : MT := (yX8_add, cX8_add, 3, none)
theorem Y_X8_add : YL yX8_add cX8_add 3 none 1 := ⟨inT2 (List.mem_of_getElem? (i := 114) (by decide +kernel)), inT1 (List.mem_of_getElem? (i := 2) (by decide +kernel)), by decide +kernel, by decide +kernel, by decide +kernel, by decide +kernel⟩
abbrev mX11_end : MT := (yX11_end, cX11_end, 2, (some .boolean))
theorem Y_X11_end : YL yX11_end cX11_end 2 (some .boolean) 1 := ⟨inT2 (List.mem_of_getElem? (i := 118) (by decide +kernel)), inT1 (List.mem_of_getElem? (i := 1) (by decide +kernel)), by decide +kernel, by decide +kernel, by decide +kernel, by decide +kernel⟩
abbrev mX11_next : MT := (yX11_next, cX11_next, 2, (some .int))
theorem Y_X11_next : YL yX11_next cX11_next 2 (some .int) 1 := ⟨inT2 (List.mem_of_getElem? (i := 122) (by decide +kernel)), inT1 (List.mem_of_getElem? (i := 1) (by decide +kernel)), by decide +kernel, by decide +kernel, by decide +kernel, by decide +kernel⟩
abbrev mX11_book : MT := (yX11_book, cX11_book, 3, (some .int))
theorem Y_X11_book : YL yX11_book cX11_book 3 (some .int) 0 := ⟨inT2 (List.mem_of_getElem? (i := 126) (by decide +kernel)), inT1 (List.mem_of_getElem? (i := 1) (by decide +kernel)), by decide +kernel, by decide +kernel, by decide +kernel, by decide +kernel⟩
abbrev mX1_readBook : MT := (yX1_readBook, cX1_readBook, 3, (some (.object "FoamArms$Book")))
theorem Y_X1_readBook : YL yX1_readBook cX1_readBook 3 (some (.object "FoamArms$Book")) 1 := ⟨inT2 (List.mem_of_getElem? (i := 130) (by decide +kernel)), inT1 (List.mem_of_getElem? (i := 3) (by decide +kernel)), by decide +kernel, by decide +kernel, by decide +kernel, by decide +kernel⟩
abbrev mX10_scan : MT := (yX10_scan, cX10_scan, 4, none)
theorem Y_X10_scan : YL yX10_scan cX10_scan 4 none 1 := ⟨inT2 (List.mem_of_getElem? (i := 136) (by decide +kernel)), inT1 (List.mem_of_getElem? (i := 4) (by decide +kernel)), by decide +kernel, by decide +kernel, by decide +kernel, by decide +kernel⟩
abbrev mJ9_min_7cf53 : MT := (yJ9_min_7cf53, cJ9_min_7cf53, 2, (some .int))
theorem Y_J9_min_7cf53 : YL yJ9_min_7cf53 cJ9_min_7cf53 2 (some .int) 2 := ⟨inT2 (List.mem_of_getElem? (i := 139) (by decide +kernel)), inT1 (List.mem_of_getElem? (i := 14) (by decide +kernel)), by decide +kernel, by decide +kernel, by decide +kernel, by decide +kernel⟩
abbrev mX8_byteAt : MT := (yX8_byteAt, cX8_byteAt, 2, (some .int))
theorem Y_X8_byteAt : YL yX8_byteAt cX8_byteAt 2 (some .int) 1 := ⟨inT2 (List.mem_of_getElem? (i := 143) (by decide +kernel)), inT1 (List.mem_of_getElem? (i := 2) (by decide +kernel)), by decide +kernel, by decide +kernel, by decide +kernel, by decide +kernel⟩
abbrev mX10_isLetter : MT := (yX10_isLetter, cX10_isLetter, 1, (some .boolean))
theorem Y_X10_isLetter : YL yX10_isLetter cX10_isLetter 1 (some .boolean) 1 := ⟨inT2 (List.mem_of_getElem? (i := 146) (by decide +kernel)), inT1 (List.mem_of_getElem? (i := 4) (by decide +kernel)), by decide +kernel, by decide +kernel, by decide +kernel, by decide +kernel⟩
abbrev mX10_isDigit : MT := (yX10_isDigit, cX10_isDigit, 1, (some .boolean))
theorem Y_X10_isDigit : YL yX10_isDigit cX10_isDigit 1 (some .boolean) 1 := ⟨inT2 (List.mem_of_getElem? (i := 149) (by decide +kernel)), inT1 (List.mem_of_getElem? (i := 4) (by decide +kernel)), by decide +kernel, by decide +kernel, by decide +kernel, by decide +kernel⟩
abbrev mX10_scanRun : MT := (yX10_scanRun, cX10_scanRun, 11, (some .int))
theorem Y_X10_scanRun : YL yX10_scanRun cX10_scanRun 11 (some .int) 2 := ⟨inT2 (List.mem_of_getElem? (i := 153) (by decide +kernel)), inT1 (List.mem_of_getElem? (i := 4) (by decide +kernel)), by decide +kernel, by decide +kernel, by decide +kernel, by decide +kernel⟩
abbrev mX10_kindOfWord : MT := (yX10_kindOfWord, cX10_kindOfWord, 4, (some .int))
theorem Y_X10_kindOfWord : YL yX10_kindOfWord cX10_kindOfWord 4 (some .int) 1 := ⟨inT2 (List.mem_of_getElem? (i := 159) (by decide +kernel)), inT1 (List.mem_of_getElem? (i := 4) (by decide +kernel)), by decide +kernel, by decide +kernel, by decide +kernel, by decide +kernel⟩
abbrev mX10_add : MT := (yX10_add, cX10_add, 5, none)
theorem Y_X10_add : YL yX10_add cX10_add 5 none 3 := ⟨inT2 (List.mem_of_getElem? (i := 163) (by decide +kernel)), inT1 (List.mem_of_getElem? (i := 4) (by decide +kernel)), by decide +kernel, by decide +kernel, by decide +kernel, by decide +kernel⟩
abbrev mX10_isBlank : MT := (yX10_isBlank, cX10_isBlank, 1, (some .boolean))
theorem Y_X10_isBlank : YL yX10_isBlank cX10_isBlank 1 (some .boolean) 1 := ⟨inT2 (List.mem_of_getElem? (i := 166) (by decide +kernel)), inT1 (List.mem_of_getElem? (i := 4) (by decide +kernel)), by decide +kernel, by decide +kernel, by decide +kernel, by decide +kernel⟩
abbrev mX10_kindOfSign : MT := (yX10_kindOfSign, cX10_kindOfSign, 1, (some .int))
theorem Y_X10_kindOfSign : YL yX10_kindOfSign cX10_kindOfSign 1 (some .int) 1 := ⟨inT2 (List.mem_of_getElem? (i := 169) (by decide +kernel)), inT1 (List.mem_of_getElem? (i := 4) (by decide +kernel)), by decide +kernel, by decide +kernel, by decide +kernel, by decide +kernel⟩
abbrev mX1_isNow : MT := (yX1_isNow, cX1_isNow, 2, (some .boolean))
theorem Y_X1_isNow : YL yX1_isNow cX1_isNow 2 (some .boolean) 1 := ⟨inT2 (List.mem_of_getElem? (i := 173) (by decide +kernel)), inT1 (List.mem_of_getElem? (i := 3) (by decide +kernel)), by decide +kernel, by decide +kernel, by decide +kernel, by decide +kernel⟩
abbrev mX10_kindAt : MT := (yX10_kindAt, cX10_kindAt, 2, (some .int))
theorem Y_X10_kindAt : YL yX10_kindAt cX10_kindAt 2 (some .int) 1 := ⟨inT2 (List.mem_of_getElem? (i := 177) (by decide +kernel)), inT1 (List.mem_of_getElem? (i := 4) (by decide +kernel)), by decide +kernel, by decide +kernel, by decide +kernel, by decide +kernel⟩
abbrev mX1_readLine : MT := (yX1_readLine, cX1_readLine, 2, (some .boolean))
theorem Y_X1_readLine : YL yX1_readLine cX1_readLine 2 (some .boolean) 1 := ⟨inT2 (List.mem_of_getElem? (i := 181) (by decide +kernel)), inT1 (List.mem_of_getElem? (i := 3) (by decide +kernel)), by decide +kernel, by decide +kernel, by decide +kernel, by decide +kernel⟩
abbrev mX1_readFoam : MT := (yX1_readFoam, cX1_readFoam, 4, (some .boolean))
theorem Y_X1_readFoam : YL yX1_readFoam cX1_readFoam 4 (some .boolean) 1 := ⟨inT2 (List.mem_of_getElem? (i := 185) (by decide +kernel)), inT1 (List.mem_of_getElem? (i := 3) (by decide +kernel)), by decide +kernel, by decide +kernel, by decide +kernel, by decide +kernel⟩
abbrev mX1_readFirstWord : MT := (yX1_readFirstWord, cX1_readFirstWord, 3, (some .boolean))
theorem Y_X1_readFirstWord : YL yX1_readFirstWord cX1_readFirstWord 3 (some .boolean) 2 := ⟨inT2 (List.mem_of_getElem? (i := 189) (by decide +kernel)), inT1 (List.mem_of_getElem? (i := 3) (by decide +kernel)), by decide +kernel, by decide +kernel, by decide +kernel, by decide +kernel⟩
abbrev mX1_refuse : MT := (yX1_refuse, cX1_refuse, 3, (some .boolean))
theorem Y_X1_refuse : YL yX1_refuse cX1_refuse 3 (some .boolean) 2 := ⟨inT2 (List.mem_of_getElem? (i := 193) (by decide +kernel)), inT1 (List.mem_of_getElem? (i := 3) (by decide +kernel)), by decide +kernel, by decide +kernel, by decide +kernel, by decide +kernel⟩
abbrev mX1_readNewName : MT := (yX1_readNewName, cX1_readNewName, 5, (some .boolean))
theorem Y_X1_readNewName : YL yX1_readNewName cX1_readNewName 5 (some .boolean) 2 := ⟨inT2 (List.mem_of_getElem? (i := 197) (by decide +kernel)), inT1 (List.mem_of_getElem? (i := 3) (by decide +kernel)), by decide +kernel, by decide +kernel, by decide +kernel, by decide +kernel⟩
abbrev mX1_readToken : MT := (yX1_readToken, cX1_readToken, 2, (some .boolean))
theorem Y_X1_readToken : YL yX1_readToken cX1_readToken 2 (some .boolean) 1 := ⟨inT2 (List.mem_of_getElem? (i := 201) (by decide +kernel)), inT1 (List.mem_of_getElem? (i := 3) (by decide +kernel)), by decide +kernel, by decide +kernel, by decide +kernel, by decide +kernel⟩
abbrev mX10_valueAt : MT := (yX10_valueAt, cX10_valueAt, 2, (some .long))
theorem Y_X10_valueAt : YL yX10_valueAt cX10_valueAt 2 (some .long) 1 := ⟨inT2 (List.mem_of_getElem? (i := 205) (by decide +kernel)), inT1 (List.mem_of_getElem? (i := 4) (by decide +kernel)), by decide +kernel, by decide +kernel, by decide +kernel, by decide +kernel⟩
abbrev mX1_placeOfName : MT := (yX1_placeOfName, cX1_placeOfName, 4, (some .int))
theorem Y_X1_placeOfName : YL yX1_placeOfName cX1_placeOfName 4 (some .int) 1 := ⟨inT2 (List.mem_of_getElem? (i := 209) (by decide +kernel)), inT1 (List.mem_of_getElem? (i := 3) (by decide +kernel)), by decide +kernel, by decide +kernel, by decide +kernel, by decide +kernel⟩
abbrev mX6_init : MT := (yX6_init, cX6_init, 1, none)
theorem Y_X6_init : YL yX6_init cX6_init 1 none 0 := ⟨inT2 (List.mem_of_getElem? (i := 214) (by decide +kernel)), inT1 (List.mem_of_getElem? (i := 15) (by decide +kernel)), by decide +kernel, by decide +kernel, by decide +kernel, by decide +kernel⟩
abbrev mX1_readPoint : MT := (yX1_readPoint, cX1_readPoint, 3, (some .boolean))
theorem Y_X1_readPoint : YL yX1_readPoint cX1_readPoint 3 (some .boolean) 1 := ⟨inT3 (List.mem_of_getElem? (i := 0) (by decide +kernel)), inT1 (List.mem_of_getElem? (i := 3) (by decide +kernel)), by decide +kernel, by decide +kernel, by decide +kernel, by decide +kernel⟩
abbrev mX6_leastPercent : MT := (yX6_leastPercent, cX6_leastPercent, 1, (some .int))
theorem Y_X6_leastPercent : YL yX6_leastPercent cX6_leastPercent 1 (some .int) 0 := ⟨inT3 (List.mem_of_getElem? (i := 4) (by decide +kernel)), inT1 (List.mem_of_getElem? (i := 15) (by decide +kernel)), by decide +kernel, by decide +kernel, by decide +kernel, by decide +kernel⟩
abbrev mX1_readNumber : MT := (yX1_readNumber, cX1_readNumber, 3, (some .boolean))
theorem Y_X1_readNumber : YL yX1_readNumber cX1_readNumber 3 (some .boolean) 2 := ⟨inT3 (List.mem_of_getElem? (i := 8) (by decide +kernel)), inT1 (List.mem_of_getElem? (i := 3) (by decide +kernel)), by decide +kernel, by decide +kernel, by decide +kernel, by decide +kernel⟩
abbrev mX6_leastPush : MT := (yX6_leastPush, cX6_leastPush, 1, (some .int))
theorem Y_X6_leastPush : YL yX6_leastPush cX6_leastPush 1 (some .int) 0 := ⟨inT3 (List.mem_of_getElem? (i := 12) (by decide +kernel)), inT1 (List.mem_of_getElem? (i := 15) (by decide +kernel)), by decide +kernel, by decide +kernel, by decide +kernel, by decide +kernel⟩
abbrev mX6_addPoint : MT := (yX6_addPoint, cX6_addPoint, 3, none)
theorem Y_X6_addPoint : YL yX6_addPoint cX6_addPoint 3 none 2 := ⟨inT3 (List.mem_of_getElem? (i := 17) (by decide +kernel)), inT1 (List.mem_of_getElem? (i := 15) (by decide +kernel)), by decide +kernel, by decide +kernel, by decide +kernel, by decide +kernel⟩
abbrev mX1_readNumberOf : MT := (yX1_readNumberOf, cX1_readNumberOf, 4, (some .boolean))
theorem Y_X1_readNumberOf : YL yX1_readNumberOf cX1_readNumberOf 4 (some .boolean) 3 := ⟨inT3 (List.mem_of_getElem? (i := 21) (by decide +kernel)), inT1 (List.mem_of_getElem? (i := 3) (by decide +kernel)), by decide +kernel, by decide +kernel, by decide +kernel, by decide +kernel⟩
abbrev mX0_addFoam : MT := (yX0_addFoam, cX0_addFoam, 2, none)
theorem Y_X0_addFoam : YL yX0_addFoam cX0_addFoam 2 none 1 := ⟨inT3 (List.mem_of_getElem? (i := 25) (by decide +kernel)), inT1 (List.mem_of_getElem? (i := 9) (by decide +kernel)), by decide +kernel, by decide +kernel, by decide +kernel, by decide +kernel⟩
abbrev mX1_readThing : MT := (yX1_readThing, cX1_readThing, 3, (some .boolean))
theorem Y_X1_readThing : YL yX1_readThing cX1_readThing 3 (some .boolean) 1 := ⟨inT3 (List.mem_of_getElem? (i := 29) (by decide +kernel)), inT1 (List.mem_of_getElem? (i := 3) (by decide +kernel)), by decide +kernel, by decide +kernel, by decide +kernel, by decide +kernel⟩
abbrev mX9_init : MT := (yX9_init, cX9_init, 1, none)
theorem Y_X9_init : YL yX9_init cX9_init 1 none 0 := ⟨inT3 (List.mem_of_getElem? (i := 34) (by decide +kernel)), inT1 (List.mem_of_getElem? (i := 16) (by decide +kernel)), by decide +kernel, by decide +kernel, by decide +kernel, by decide +kernel⟩
abbrev mX1_readSizesOf : MT := (yX1_readSizesOf, cX1_readSizesOf, 4, (some .boolean))
theorem Y_X1_readSizesOf : YL yX1_readSizesOf cX1_readSizesOf 4 (some .boolean) 2 := ⟨inT3 (List.mem_of_getElem? (i := 70) (by decide +kernel)), inT1 (List.mem_of_getElem? (i := 3) (by decide +kernel)), by decide +kernel, by decide +kernel, by decide +kernel, by decide +kernel⟩
abbrev mX0_addThing : MT := (yX0_addThing, cX0_addThing, 2, none)
theorem Y_X0_addThing : YL yX0_addThing cX0_addThing 2 none 1 := ⟨inT3 (List.mem_of_getElem? (i := 74) (by decide +kernel)), inT1 (List.mem_of_getElem? (i := 9) (by decide +kernel)), by decide +kernel, by decide +kernel, by decide +kernel, by decide +kernel⟩
abbrev mX1_readBox : MT := (yX1_readBox, cX1_readBox, 3, (some .boolean))
theorem Y_X1_readBox : YL yX1_readBox cX1_readBox 3 (some .boolean) 1 := ⟨inT3 (List.mem_of_getElem? (i := 78) (by decide +kernel)), inT1 (List.mem_of_getElem? (i := 3) (by decide +kernel)), by decide +kernel, by decide +kernel, by decide +kernel, by decide +kernel⟩
abbrev mX2_init : MT := (yX2_init, cX2_init, 1, none)
theorem Y_X2_init : YL yX2_init cX2_init 1 none 0 := ⟨inT3 (List.mem_of_getElem? (i := 83) (by decide +kernel)), inT1 (List.mem_of_getElem? (i := 17) (by decide +kernel)), by decide +kernel, by decide +kernel, by decide +kernel, by decide +kernel⟩
abbrev mX0_addBox : MT := (yX0_addBox, cX0_addBox, 2, none)
theorem Y_X0_addBox : YL yX0_addBox cX0_addBox 2 none 1 := ⟨inT3 (List.mem_of_getElem? (i := 105) (by decide +kernel)), inT1 (List.mem_of_getElem? (i := 9) (by decide +kernel)), by decide +kernel, by decide +kernel, by decide +kernel, by decide +kernel⟩
abbrev mX1_readPad : MT := (yX1_readPad, cX1_readPad, 6, (some .boolean))
theorem Y_X1_readPad : YL yX1_readPad cX1_readPad 6 (some .boolean) 1 := ⟨inT3 (List.mem_of_getElem? (i := 109) (by decide +kernel)), inT1 (List.mem_of_getElem? (i := 3) (by decide +kernel)), by decide +kernel, by decide +kernel, by decide +kernel, by decide +kernel⟩
abbrev mX1_readToldName : MT := (yX1_readToldName, cX1_readToldName, 3, (some .boolean))
theorem Y_X1_readToldName : YL yX1_readToldName cX1_readToldName 3 (some .boolean) 1 := ⟨inT3 (List.mem_of_getElem? (i := 113) (by decide +kernel)), inT1 (List.mem_of_getElem? (i := 3) (by decide +kernel)), by decide +kernel, by decide +kernel, by decide +kernel, by decide +kernel⟩
abbrev mX0_thingAt : MT := (yX0_thingAt, cX0_thingAt, 2, (some (.object "FoamArms$Thing")))
theorem Y_X0_thingAt : YL yX0_thingAt cX0_thingAt 2 (some (.object "FoamArms$Thing")) 1 := ⟨inT3 (List.mem_of_getElem? (i := 117) (by decide +kernel)), inT1 (List.mem_of_getElem? (i := 9) (by decide +kernel)), by decide +kernel, by decide +kernel, by decide +kernel, by decide +kernel⟩
abbrev mX9_foamOn : MT := (yX9_foamOn, cX9_foamOn, 2, (some (.object "FoamArms$Foam")))
theorem Y_X9_foamOn : YL yX9_foamOn cX9_foamOn 2 (some (.object "FoamArms$Foam")) 1 := ⟨inT3 (List.mem_of_getElem? (i := 121) (by decide +kernel)), inT1 (List.mem_of_getElem? (i := 16) (by decide +kernel)), by decide +kernel, by decide +kernel, by decide +kernel, by decide +kernel⟩
abbrev mX11_isSide : MT := (yX11_isSide, cX11_isSide, 1, (some .boolean))
theorem Y_X11_isSide : YL yX11_isSide cX11_isSide 1 (some .boolean) 1 := ⟨inT3 (List.mem_of_getElem? (i := 124) (by decide +kernel)), inT1 (List.mem_of_getElem? (i := 1) (by decide +kernel)), by decide +kernel, by decide +kernel, by decide +kernel, by decide +kernel⟩
abbrev mX0_foamAt : MT := (yX0_foamAt, cX0_foamAt, 2, (some (.object "FoamArms$Foam")))
theorem Y_X0_foamAt : YL yX0_foamAt cX0_foamAt 2 (some (.object "FoamArms$Foam")) 1 := ⟨inT3 (List.mem_of_getElem? (i := 128) (by decide +kernel)), inT1 (List.mem_of_getElem? (i := 9) (by decide +kernel)), by decide +kernel, by decide +kernel, by decide +kernel, by decide +kernel⟩
abbrev mX9_putPad : MT := (yX9_putPad, cX9_putPad, 5, none)
theorem Y_X9_putPad : YL yX9_putPad cX9_putPad 5 none 4 := ⟨inT3 (List.mem_of_getElem? (i := 132) (by decide +kernel)), inT1 (List.mem_of_getElem? (i := 16) (by decide +kernel)), by decide +kernel, by decide +kernel, by decide +kernel, by decide +kernel⟩
abbrev mX1_readDrop : MT := (yX1_readDrop, cX1_readDrop, 3, (some .boolean))
theorem Y_X1_readDrop : YL yX1_readDrop cX1_readDrop 3 (some .boolean) 1 := ⟨inT3 (List.mem_of_getElem? (i := 136) (by decide +kernel)), inT1 (List.mem_of_getElem? (i := 3) (by decide +kernel)), by decide +kernel, by decide +kernel, by decide +kernel, by decide +kernel⟩
abbrev mX5_init : MT := (yX5_init, cX5_init, 1, none)
theorem Y_X5_init : YL yX5_init cX5_init 1 none 0 := ⟨inT3 (List.mem_of_getElem? (i := 141) (by decide +kernel)), inT1 (List.mem_of_getElem? (i := 18) (by decide +kernel)), by decide +kernel, by decide +kernel, by decide +kernel, by decide +kernel⟩
abbrev mX0_addDrop : MT := (yX0_addDrop, cX0_addDrop, 2, none)
theorem Y_X0_addDrop : YL yX0_addDrop cX0_addDrop 2 none 1 := ⟨inT3 (List.mem_of_getElem? (i := 167) (by decide +kernel)), inT1 (List.mem_of_getElem? (i := 9) (by decide +kernel)), by decide +kernel, by decide +kernel, by decide +kernel, by decide +kernel⟩
abbrev mX1_placeOfFault : MT := (yX1_placeOfFault, cX1_placeOfFault, 1, (some .int))
theorem Y_X1_placeOfFault : YL yX1_placeOfFault cX1_placeOfFault 1 (some .int) 0 := ⟨inT3 (List.mem_of_getElem? (i := 171) (by decide +kernel)), inT1 (List.mem_of_getElem? (i := 3) (by decide +kernel)), by decide +kernel, by decide +kernel, by decide +kernel, by decide +kernel⟩
abbrev mX10_placeAt : MT := (yX10_placeAt, cX10_placeAt, 2, (some .int))
theorem Y_X10_placeAt : YL yX10_placeAt cX10_placeAt 2 (some .int) 1 := ⟨inT3 (List.mem_of_getElem? (i := 175) (by decide +kernel)), inT1 (List.mem_of_getElem? (i := 4) (by decide +kernel)), by decide +kernel, by decide +kernel, by decide +kernel, by decide +kernel⟩
abbrev mX11_keepBook : MT := (yX11_keepBook, cX11_keepBook, 2, none)
theorem Y_X11_keepBook : YL yX11_keepBook cX11_keepBook 2 none 1 := ⟨inT3 (List.mem_of_getElem? (i := 179) (by decide +kernel)), inT1 (List.mem_of_getElem? (i := 1) (by decide +kernel)), by decide +kernel, by decide +kernel, by decide +kernel, by decide +kernel⟩
abbrev mX11_fault : MT := (yX11_fault, cX11_fault, 1, (some .int))
theorem Y_X11_fault : YL yX11_fault cX11_fault 1 (some .int) 0 := ⟨inT3 (List.mem_of_getElem? (i := 183) (by decide +kernel)), inT1 (List.mem_of_getElem? (i := 1) (by decide +kernel)), by decide +kernel, by decide +kernel, by decide +kernel, by decide +kernel⟩
abbrev mX11_many : MT := (yX11_many, cX11_many, 4, (some .int))
theorem Y_X11_many : YL yX11_many cX11_many 4 (some .int) 2 := ⟨inT3 (List.mem_of_getElem? (i := 187) (by decide +kernel)), inT1 (List.mem_of_getElem? (i := 1) (by decide +kernel)), by decide +kernel, by decide +kernel, by decide +kernel, by decide +kernel⟩
abbrev mX11_asOf : MT := (yX11_asOf, cX11_asOf, 3, (some (.object "FoamArms$Book")))
theorem Y_X11_asOf : YL yX11_asOf cX11_asOf 3 (some (.object "FoamArms$Book")) 1 := ⟨inT3 (List.mem_of_getElem? (i := 191) (by decide +kernel)), inT1 (List.mem_of_getElem? (i := 1) (by decide +kernel)), by decide +kernel, by decide +kernel, by decide +kernel, by decide +kernel⟩
abbrev mX11_push : MT := (yX11_push, cX11_push, 7, (some .int))
theorem Y_X11_push : YL yX11_push cX11_push 7 (some .int) 4 := ⟨inT3 (List.mem_of_getElem? (i := 196) (by decide +kernel)), inT1 (List.mem_of_getElem? (i := 1) (by decide +kernel)), by decide +kernel, by decide +kernel, by decide +kernel, by decide +kernel⟩
abbrev mX11_isKept : MT := (yX11_isKept, cX11_isKept, 1, (some .boolean))
theorem Y_X11_isKept : YL yX11_isKept cX11_isKept 1 (some .boolean) 1 := ⟨inT3 (List.mem_of_getElem? (i := 200) (by decide +kernel)), inT1 (List.mem_of_getElem? (i := 1) (by decide +kernel)), by decide +kernel, by decide +kernel, by decide +kernel, by decide +kernel⟩
abbrev mX6_pushAt : MT := (yX6_pushAt, cX6_pushAt, 5, (some .int))
theorem Y_X6_pushAt : YL yX6_pushAt cX6_pushAt 5 (some .int) 1 := ⟨inT3 (List.mem_of_getElem? (i := 204) (by decide +kernel)), inT1 (List.mem_of_getElem? (i := 15) (by decide +kernel)), by decide +kernel, by decide +kernel, by decide +kernel, by decide +kernel⟩
abbrev mX11_squeeze : MT := (yX11_squeeze, cX11_squeeze, 7, (some .int))
theorem Y_X11_squeeze : YL yX11_squeeze cX11_squeeze 7 (some .int) 5 := ⟨inT3 (List.mem_of_getElem? (i := 208) (by decide +kernel)), inT1 (List.mem_of_getElem? (i := 1) (by decide +kernel)), by decide +kernel, by decide +kernel, by decide +kernel, by decide +kernel⟩
abbrev mX11_putOnPad : MT := (yX11_putOnPad, cX11_putOnPad, 5, (some (.object "FoamArms$Thing")))
theorem Y_X11_putOnPad : YL yX11_putOnPad cX11_putOnPad 5 (some (.object "FoamArms$Thing")) 3 := ⟨inT3 (List.mem_of_getElem? (i := 212) (by decide +kernel)), inT1 (List.mem_of_getElem? (i := 1) (by decide +kernel)), by decide +kernel, by decide +kernel, by decide +kernel, by decide +kernel⟩
abbrev mX4_layPad : MT := (yX4_layPad, cX4_layPad, 3, none)
theorem Y_X4_layPad : YL yX4_layPad cX4_layPad 3 none 2 := ⟨inT3 (List.mem_of_getElem? (i := 218) (by decide +kernel)), inT1 (List.mem_of_getElem? (i := 10) (by decide +kernel)), by decide +kernel, by decide +kernel, by decide +kernel, by decide +kernel⟩
abbrev mX4_layFoam : MT := (yX4_layFoam, cX4_layFoam, 5, none)
theorem Y_X4_layFoam : YL yX4_layFoam cX4_layFoam 5 none 3 := ⟨inT3 (List.mem_of_getElem? (i := 223) (by decide +kernel)), inT1 (List.mem_of_getElem? (i := 10) (by decide +kernel)), by decide +kernel, by decide +kernel, by decide +kernel, by decide +kernel⟩
abbrev mX6_lastPercent : MT := (yX6_lastPercent, cX6_lastPercent, 1, (some .int))
theorem Y_X6_lastPercent : YL yX6_lastPercent cX6_lastPercent 1 (some .int) 0 := ⟨inT3 (List.mem_of_getElem? (i := 227) (by decide +kernel)), inT1 (List.mem_of_getElem? (i := 15) (by decide +kernel)), by decide +kernel, by decide +kernel, by decide +kernel, by decide +kernel⟩
abbrev mX4_wearTo : MT := (yX4_wearTo, cX4_wearTo, 3, none)
theorem Y_X4_wearTo : YL yX4_wearTo cX4_wearTo 3 none 1 := ⟨inT3 (List.mem_of_getElem? (i := 234) (by decide +kernel)), inT1 (List.mem_of_getElem? (i := 10) (by decide +kernel)), by decide +kernel, by decide +kernel, by decide +kernel, by decide +kernel⟩
abbrev mX11_isHeight : MT := (yX11_isHeight, cX11_isHeight, 1, (some .boolean))
theorem Y_X11_isHeight : YL yX11_isHeight cX11_isHeight 1 (some .boolean) 1 := ⟨inT3 (List.mem_of_getElem? (i := 237) (by decide +kernel)), inT1 (List.mem_of_getElem? (i := 1) (by decide +kernel)), by decide +kernel, by decide +kernel, by decide +kernel, by decide +kernel⟩
abbrev mX4_squeezeOf : MT := (yX4_squeezeOf, cX4_squeezeOf, 5, (some .int))
theorem Y_X4_squeezeOf : YL yX4_squeezeOf cX4_squeezeOf 5 (some .int) 3 := ⟨inT4 (List.mem_of_getElem? (i := 2) (by decide +kernel)), inT1 (List.mem_of_getElem? (i := 10) (by decide +kernel)), by decide +kernel, by decide +kernel, by decide +kernel, by decide +kernel⟩
abbrev mJ9_max_7cf53 : MT := (yJ9_max_7cf53, cJ9_max_7cf53, 2, (some .int))
theorem Y_J9_max_7cf53 : YL yJ9_max_7cf53 cJ9_max_7cf53 2 (some .int) 2 := ⟨inT4 (List.mem_of_getElem? (i := 5) (by decide +kernel)), inT1 (List.mem_of_getElem? (i := 14) (by decide +kernel)), by decide +kernel, by decide +kernel, by decide +kernel, by decide +kernel⟩
abbrev mX11_blow : MT := (yX11_blow, cX11_blow, 7, (some .int))
theorem Y_X11_blow : YL yX11_blow cX11_blow 7 (some .int) 5 := ⟨inT4 (List.mem_of_getElem? (i := 11) (by decide +kernel)), inT1 (List.mem_of_getElem? (i := 1) (by decide +kernel)), by decide +kernel, by decide +kernel, by decide +kernel, by decide +kernel⟩
abbrev mX4_blowOf : MT := (yX4_blowOf, cX4_blowOf, 3, (some .int))
theorem Y_X4_blowOf : YL yX4_blowOf cX4_blowOf 3 (some .int) 2 := ⟨inT4 (List.mem_of_getElem? (i := 15) (by decide +kernel)), inT1 (List.mem_of_getElem? (i := 10) (by decide +kernel)), by decide +kernel, by decide +kernel, by decide +kernel, by decide +kernel⟩
abbrev mX4_blowAt : MT := (yX4_blowAt, cX4_blowAt, 3, (some .int))
theorem Y_X4_blowAt : YL yX4_blowAt cX4_blowAt 3 (some .int) 2 := ⟨inT4 (List.mem_of_getElem? (i := 20) (by decide +kernel)), inT1 (List.mem_of_getElem? (i := 10) (by decide +kernel)), by decide +kernel, by decide +kernel, by decide +kernel, by decide +kernel⟩
abbrev mJ9_min_f86c9 : MT := (yJ9_min_f86c9, cJ9_min_f86c9, 4, (some .long))
theorem Y_J9_min_f86c9 : YL yJ9_min_f86c9 cJ9_min_f86c9 4 (some .long) 2 := ⟨inT4 (List.mem_of_getElem? (i := 25) (by decide +kernel)), inT1 (List.mem_of_getElem? (i := 14) (by decide +kernel)), by decide +kernel, by decide +kernel, by decide +kernel, by decide +kernel⟩
abbrev mX11_again : MT := (yX11_again, cX11_again, 7, (some .int))
theorem Y_X11_again : YL yX11_again cX11_again 7 (some .int) 4 := ⟨inT4 (List.mem_of_getElem? (i := 29) (by decide +kernel)), inT1 (List.mem_of_getElem? (i := 1) (by decide +kernel)), by decide +kernel, by decide +kernel, by decide +kernel, by decide +kernel⟩
abbrev mX4_holds : MT := (yX4_holds, cX4_holds, 4, (some .boolean))
theorem Y_X4_holds : YL yX4_holds cX4_holds 4 (some .boolean) 2 := ⟨inT4 (List.mem_of_getElem? (i := 33) (by decide +kernel)), inT1 (List.mem_of_getElem? (i := 10) (by decide +kernel)), by decide +kernel, by decide +kernel, by decide +kernel, by decide +kernel⟩
abbrev mX4_wearByBlow : MT := (yX4_wearByBlow, cX4_wearByBlow, 1, none)
theorem Y_X4_wearByBlow : YL yX4_wearByBlow cX4_wearByBlow 1 none 0 := ⟨inT4 (List.mem_of_getElem? (i := 38) (by decide +kernel)), inT1 (List.mem_of_getElem? (i := 10) (by decide +kernel)), by decide +kernel, by decide +kernel, by decide +kernel, by decide +kernel⟩
abbrev mX11_breaks : MT := (yX11_breaks, cX11_breaks, 8, (some .int))
theorem Y_X11_breaks : YL yX11_breaks cX11_breaks 8 (some .int) 2 := ⟨inT4 (List.mem_of_getElem? (i := 42) (by decide +kernel)), inT1 (List.mem_of_getElem? (i := 1) (by decide +kernel)), by decide +kernel, by decide +kernel, by decide +kernel, by decide +kernel⟩
abbrev mX0_dropAt : MT := (yX0_dropAt, cX0_dropAt, 2, (some (.object "FoamArms$Drop")))
theorem Y_X0_dropAt : YL yX0_dropAt cX0_dropAt 2 (some (.object "FoamArms$Drop")) 1 := ⟨inT4 (List.mem_of_getElem? (i := 46) (by decide +kernel)), inT1 (List.mem_of_getElem? (i := 9) (by decide +kernel)), by decide +kernel, by decide +kernel, by decide +kernel, by decide +kernel⟩
abbrev mX11_timeThatBreaks : MT := (yX11_timeThatBreaks, cX11_timeThatBreaks, 4, (some .int))
theorem Y_X11_timeThatBreaks : YL yX11_timeThatBreaks cX11_timeThatBreaks 4 (some .int) 2 := ⟨inT4 (List.mem_of_getElem? (i := 50) (by decide +kernel)), inT1 (List.mem_of_getElem? (i := 1) (by decide +kernel)), by decide +kernel, by decide +kernel, by decide +kernel, by decide +kernel⟩
abbrev mX11_breaksAt : MT := (yX11_breaksAt, cX11_breaksAt, 1, (some .int))
theorem Y_X11_breaksAt : YL yX11_breaksAt cX11_breaksAt 1 (some .int) 0 := ⟨inT4 (List.mem_of_getElem? (i := 54) (by decide +kernel)), inT1 (List.mem_of_getElem? (i := 1) (by decide +kernel)), by decide +kernel, by decide +kernel, by decide +kernel, by decide +kernel⟩
abbrev mX11_spans : MT := (yX11_spans, cX11_spans, 8, (some .int))
theorem Y_X11_spans : YL yX11_spans cX11_spans 8 (some .int) 4 := ⟨inT4 (List.mem_of_getElem? (i := 58) (by decide +kernel)), inT1 (List.mem_of_getElem? (i := 1) (by decide +kernel)), by decide +kernel, by decide +kernel, by decide +kernel, by decide +kernel⟩
abbrev mX11_tapeTellsSpans : MT := (yX11_tapeTellsSpans, cX11_tapeTellsSpans, 2, (some .boolean))
theorem Y_X11_tapeTellsSpans : YL yX11_tapeTellsSpans cX11_tapeTellsSpans 2 (some .boolean) 0 := ⟨inT4 (List.mem_of_getElem? (i := 62) (by decide +kernel)), inT1 (List.mem_of_getElem? (i := 1) (by decide +kernel)), by decide +kernel, by decide +kernel, by decide +kernel, by decide +kernel⟩
abbrev mX11_weightsThatHold : MT := (yX11_weightsThatHold, cX11_weightsThatHold, 9, (some .int))
theorem Y_X11_weightsThatHold : YL yX11_weightsThatHold cX11_weightsThatHold 9 (some .int) 4 := ⟨inT4 (List.mem_of_getElem? (i := 67) (by decide +kernel)), inT1 (List.mem_of_getElem? (i := 1) (by decide +kernel)), by decide +kernel, by decide +kernel, by decide +kernel, by decide +kernel⟩
abbrev mX11_highest : MT := (yX11_highest, cX11_highest, 5, (some .int))
theorem Y_X11_highest : YL yX11_highest cX11_highest 5 (some .int) 3 := ⟨inT4 (List.mem_of_getElem? (i := 73) (by decide +kernel)), inT1 (List.mem_of_getElem? (i := 1) (by decide +kernel)), by decide +kernel, by decide +kernel, by decide +kernel, by decide +kernel⟩
abbrev mX4_greatestHeight : MT := (yX4_greatestHeight, cX4_greatestHeight, 6, (some .int))
theorem Y_X4_greatestHeight : YL yX4_greatestHeight cX4_greatestHeight 6 (some .int) 2 := ⟨inT4 (List.mem_of_getElem? (i := 77) (by decide +kernel)), inT1 (List.mem_of_getElem? (i := 10) (by decide +kernel)), by decide +kernel, by decide +kernel, by decide +kernel, by decide +kernel⟩
abbrev mX4_isWithin : MT := (yX4_isWithin, cX4_isWithin, 6, (some .boolean))
theorem Y_X4_isWithin : YL yX4_isWithin cX4_isWithin 6 (some .boolean) 3 := ⟨inT4 (List.mem_of_getElem? (i := 81) (by decide +kernel)), inT1 (List.mem_of_getElem? (i := 10) (by decide +kernel)), by decide +kernel, by decide +kernel, by decide +kernel, by decide +kernel⟩
abbrev mX11_recorded : MT := (yX11_recorded, cX11_recorded, 10, (some .int))
theorem Y_X11_recorded : YL yX11_recorded cX11_recorded 10 (some .int) 6 := ⟨inT4 (List.mem_of_getElem? (i := 85) (by decide +kernel)), inT1 (List.mem_of_getElem? (i := 1) (by decide +kernel)), by decide +kernel, by decide +kernel, by decide +kernel, by decide +kernel⟩
abbrev mX11_pads : MT := (yX11_pads, cX11_pads, 11, (some .int))
theorem Y_X11_pads : YL yX11_pads cX11_pads 11 (some .int) 5 := ⟨inT4 (List.mem_of_getElem? (i := 89) (by decide +kernel)), inT1 (List.mem_of_getElem? (i := 1) (by decide +kernel)), by decide +kernel, by decide +kernel, by decide +kernel, by decide +kernel⟩
abbrev mX0_boxAt : MT := (yX0_boxAt, cX0_boxAt, 2, (some (.object "FoamArms$Box")))
theorem Y_X0_boxAt : YL yX0_boxAt cX0_boxAt 2 (some (.object "FoamArms$Box")) 1 := ⟨inT4 (List.mem_of_getElem? (i := 93) (by decide +kernel)), inT1 (List.mem_of_getElem? (i := 9) (by decide +kernel)), by decide +kernel, by decide +kernel, by decide +kernel, by decide +kernel⟩
abbrev mX7_readKinds : MT := (yX7_readKinds, cX7_readKinds, 6, (some .boolean))
theorem Y_X7_readKinds : YL yX7_readKinds cX7_readKinds 6 (some .boolean) 2 := ⟨inT4 (List.mem_of_getElem? (i := 97) (by decide +kernel)), inT1 (List.mem_of_getElem? (i := 11) (by decide +kernel)), by decide +kernel, by decide +kernel, by decide +kernel, by decide +kernel⟩
abbrev mX11_layKind : MT := (yX11_layKind, cX11_layKind, 4, none)
theorem Y_X11_layKind : YL yX11_layKind cX11_layKind 4 none 3 := ⟨inT4 (List.mem_of_getElem? (i := 103) (by decide +kernel)), inT1 (List.mem_of_getElem? (i := 1) (by decide +kernel)), by decide +kernel, by decide +kernel, by decide +kernel, by decide +kernel⟩
abbrev mX7_foamOf : MT := (yX7_foamOf, cX7_foamOf, 2, (some .int))
theorem Y_X7_foamOf : YL yX7_foamOf cX7_foamOf 2 (some .int) 1 := ⟨inT4 (List.mem_of_getElem? (i := 107) (by decide +kernel)), inT1 (List.mem_of_getElem? (i := 11) (by decide +kernel)), by decide +kernel, by decide +kernel, by decide +kernel, by decide +kernel⟩
abbrev mX7_thickOf : MT := (yX7_thickOf, cX7_thickOf, 2, (some .int))
theorem Y_X7_thickOf : YL yX7_thickOf cX7_thickOf 2 (some .int) 1 := ⟨inT4 (List.mem_of_getElem? (i := 111) (by decide +kernel)), inT1 (List.mem_of_getElem? (i := 11) (by decide +kernel)), by decide +kernel, by decide +kernel, by decide +kernel, by decide +kernel⟩
abbrev mX7_judge : MT := (yX7_judge, cX7_judge, 4, none)
theorem Y_X7_judge : YL yX7_judge cX7_judge 4 none 3 := ⟨inT4 (List.mem_of_getElem? (i := 116) (by decide +kernel)), inT1 (List.mem_of_getElem? (i := 11) (by decide +kernel)), by decide +kernel, by decide +kernel, by decide +kernel, by decide +kernel⟩
abbrev mX7_choose : MT := (yX7_choose, cX7_choose, 6, (some .int))
theorem Y_X7_choose : YL yX7_choose cX7_choose 6 (some .int) 2 := ⟨inT4 (List.mem_of_getElem? (i := 120) (by decide +kernel)), inT1 (List.mem_of_getElem? (i := 11) (by decide +kernel)), by decide +kernel, by decide +kernel, by decide +kernel, by decide +kernel⟩
abbrev mX7_choosePair : MT := (yX7_choosePair, cX7_choosePair, 6, (some .int))
theorem Y_X7_choosePair : YL yX7_choosePair cX7_choosePair 6 (some .int) 2 := ⟨inT4 (List.mem_of_getElem? (i := 124) (by decide +kernel)), inT1 (List.mem_of_getElem? (i := 11) (by decide +kernel)), by decide +kernel, by decide +kernel, by decide +kernel, by decide +kernel⟩
abbrev mX11_padAt : MT := (yX11_padAt, cX11_padAt, 2, (some .int))
theorem Y_X11_padAt : YL yX11_padAt cX11_padAt 2 (some .int) 1 := ⟨inT4 (List.mem_of_getElem? (i := 128) (by decide +kernel)), inT1 (List.mem_of_getElem? (i := 1) (by decide +kernel)), by decide +kernel, by decide +kernel, by decide +kernel, by decide +kernel⟩
abbrev mX11_boxes : MT := (yX11_boxes, cX11_boxes, 5, (some .int))
theorem Y_X11_boxes : YL yX11_boxes cX11_boxes 5 (some .int) 3 := ⟨inT4 (List.mem_of_getElem? (i := 132) (by decide +kernel)), inT1 (List.mem_of_getElem? (i := 1) (by decide +kernel)), by decide +kernel, by decide +kernel, by decide +kernel, by decide +kernel⟩
abbrev mX3_take : MT := (yX3_take, cX3_take, 7, none)
theorem Y_X3_take : YL yX3_take cX3_take 7 none 2 := ⟨inT4 (List.mem_of_getElem? (i := 136) (by decide +kernel)), inT1 (List.mem_of_getElem? (i := 12) (by decide +kernel)), by decide +kernel, by decide +kernel, by decide +kernel, by decide +kernel⟩
abbrev mX9_goesInto : MT := (yX9_goesInto, cX9_goesInto, 5, (some .boolean))
theorem Y_X9_goesInto : YL yX9_goesInto cX9_goesInto 5 (some .boolean) 2 := ⟨inT4 (List.mem_of_getElem? (i := 143) (by decide +kernel)), inT1 (List.mem_of_getElem? (i := 16) (by decide +kernel)), by decide +kernel, by decide +kernel, by decide +kernel, by decide +kernel⟩
abbrev mX9_fits : MT := (yX9_fits, cX9_fits, 4, (some .boolean))
theorem Y_X9_fits : YL yX9_fits cX9_fits 4 (some .boolean) 3 := ⟨inT4 (List.mem_of_getElem? (i := 147) (by decide +kernel)), inT1 (List.mem_of_getElem? (i := 16) (by decide +kernel)), by decide +kernel, by decide +kernel, by decide +kernel, by decide +kernel⟩
abbrev mX3_choose : MT := (yX3_choose, cX3_choose, 6, (some .int))
theorem Y_X3_choose : YL yX3_choose cX3_choose 6 (some .int) 1 := ⟨inT4 (List.mem_of_getElem? (i := 151) (by decide +kernel)), inT1 (List.mem_of_getElem? (i := 12) (by decide +kernel)), by decide +kernel, by decide +kernel, by decide +kernel, by decide +kernel⟩
abbrev mJ6_bitCount_0f7a4 : MT := (yJ6_bitCount_0f7a4, cJ6_bitCount_0f7a4, 1, (some .int))
theorem Y_J6_bitCount_0f7a4 : YL yJ6_bitCount_0f7a4 cJ6_bitCount_0f7a4 1 (some .int) 1 := ⟨inT4 (List.mem_of_getElem? (i := 154) (by decide +kernel)), inT1 (List.mem_of_getElem? (i := 19) (by decide +kernel)), by decide +kernel, by decide +kernel, by decide +kernel, by decide +kernel⟩
abbrev mX3_costOf : MT := (yX3_costOf, cX3_costOf, 5, (some .int))
theorem Y_X3_costOf : YL yX3_costOf cX3_costOf 5 (some .int) 1 := ⟨inT4 (List.mem_of_getElem? (i := 161) (by decide +kernel)), inT1 (List.mem_of_getElem? (i := 12) (by decide +kernel)), by decide +kernel, by decide +kernel, by decide +kernel, by decide +kernel⟩
abbrev mX3_cheapestOf : MT := (yX3_cheapestOf, cX3_cheapestOf, 4, (some .int))
theorem Y_X3_cheapestOf : YL yX3_cheapestOf cX3_cheapestOf 4 (some .int) 1 := ⟨inT4 (List.mem_of_getElem? (i := 165) (by decide +kernel)), inT1 (List.mem_of_getElem? (i := 12) (by decide +kernel)), by decide +kernel, by decide +kernel, by decide +kernel, by decide +kernel⟩
abbrev mX11_boxSet : MT := (yX11_boxSet, cX11_boxSet, 1, (some .int))
theorem Y_X11_boxSet : YL yX11_boxSet cX11_boxSet 1 (some .int) 0 := ⟨inT4 (List.mem_of_getElem? (i := 169) (by decide +kernel)), inT1 (List.mem_of_getElem? (i := 1) (by decide +kernel)), by decide +kernel, by decide +kernel, by decide +kernel, by decide +kernel⟩
abbrev mX11_stack : MT := (yX11_stack, cX11_stack, 7, (some .int))
theorem Y_X11_stack : YL yX11_stack cX11_stack 7 (some .int) 4 := ⟨inT4 (List.mem_of_getElem? (i := 173) (by decide +kernel)), inT1 (List.mem_of_getElem? (i := 1) (by decide +kernel)), by decide +kernel, by decide +kernel, by decide +kernel, by decide +kernel⟩
abbrev mX11_dayOfFall : MT := (yX11_dayOfFall, cX11_dayOfFall, 4, (some .int))
theorem Y_X11_dayOfFall : YL yX11_dayOfFall cX11_dayOfFall 4 (some .int) 2 := ⟨inT4 (List.mem_of_getElem? (i := 178) (by decide +kernel)), inT1 (List.mem_of_getElem? (i := 1) (by decide +kernel)), by decide +kernel, by decide +kernel, by decide +kernel, by decide +kernel⟩
abbrev mX11_proved : MT := (yX11_proved, cX11_proved, 6, (some .int))
theorem Y_X11_proved : YL yX11_proved cX11_proved 6 (some .int) 2 := ⟨inT4 (List.mem_of_getElem? (i := 182) (by decide +kernel)), inT1 (List.mem_of_getElem? (i := 1) (by decide +kernel)), by decide +kernel, by decide +kernel, by decide +kernel, by decide +kernel⟩
abbrev mX11_power : MT := (yX11_power, cX11_power, 6, (some .long))
theorem Y_X11_power : YL yX11_power cX11_power 6 (some .long) 2 := ⟨inT4 (List.mem_of_getElem? (i := 186) (by decide +kernel)), inT1 (List.mem_of_getElem? (i := 1) (by decide +kernel)), by decide +kernel, by decide +kernel, by decide +kernel, by decide +kernel⟩
abbrev mX11_needed : MT := (yX11_needed, cX11_needed, 8, (some .int))
theorem Y_X11_needed : YL yX11_needed cX11_needed 8 (some .int) 2 := ⟨inT4 (List.mem_of_getElem? (i := 190) (by decide +kernel)), inT1 (List.mem_of_getElem? (i := 1) (by decide +kernel)), by decide +kernel, by decide +kernel, by decide +kernel, by decide +kernel⟩
abbrev mX11_count : MT := (yX11_count, cX11_count, 2, (some .int))
theorem Y_X11_count : YL yX11_count cX11_count 2 (some .int) 1 := ⟨inT4 (List.mem_of_getElem? (i := 196) (by decide +kernel)), inT1 (List.mem_of_getElem? (i := 1) (by decide +kernel)), by decide +kernel, by decide +kernel, by decide +kernel, by decide +kernel⟩
abbrev mX11_journey : MT := (yX11_journey, cX11_journey, 8, (some .long))
theorem Y_X11_journey : YL yX11_journey cX11_journey 8 (some .long) 2 := ⟨inT4 (List.mem_of_getElem? (i := 204) (by decide +kernel)), inT1 (List.mem_of_getElem? (i := 1) (by decide +kernel)), by decide +kernel, by decide +kernel, by decide +kernel, by decide +kernel⟩
abbrev mX11_tapeTellsLegs : MT := (yX11_tapeTellsLegs, cX11_tapeTellsLegs, 3, (some .boolean))
theorem Y_X11_tapeTellsLegs : YL yX11_tapeTellsLegs cX11_tapeTellsLegs 3 (some .boolean) 0 := ⟨inT4 (List.mem_of_getElem? (i := 208) (by decide +kernel)), inT1 (List.mem_of_getElem? (i := 1) (by decide +kernel)), by decide +kernel, by decide +kernel, by decide +kernel, by decide +kernel⟩
abbrev mX11_sharesOfLeg : MT := (yX11_sharesOfLeg, cX11_sharesOfLeg, 2, (some .int))
theorem Y_X11_sharesOfLeg : YL yX11_sharesOfLeg cX11_sharesOfLeg 2 (some .int) 1 := ⟨inT4 (List.mem_of_getElem? (i := 212) (by decide +kernel)), inT1 (List.mem_of_getElem? (i := 1) (by decide +kernel)), by decide +kernel, by decide +kernel, by decide +kernel, by decide +kernel⟩
abbrev mX11_shareOfLeg : MT := (yX11_shareOfLeg, cX11_shareOfLeg, 3, (some .int))
theorem Y_X11_shareOfLeg : YL yX11_shareOfLeg cX11_shareOfLeg 3 (some .int) 2 := ⟨inT4 (List.mem_of_getElem? (i := 216) (by decide +kernel)), inT1 (List.mem_of_getElem? (i := 1) (by decide +kernel)), by decide +kernel, by decide +kernel, by decide +kernel, by decide +kernel⟩
abbrev mX11_heightOfLeg : MT := (yX11_heightOfLeg, cX11_heightOfLeg, 3, (some .int))
theorem Y_X11_heightOfLeg : YL yX11_heightOfLeg cX11_heightOfLeg 3 (some .int) 2 := ⟨inT4 (List.mem_of_getElem? (i := 220) (by decide +kernel)), inT1 (List.mem_of_getElem? (i := 1) (by decide +kernel)), by decide +kernel, by decide +kernel, by decide +kernel, by decide +kernel⟩
abbrev mX11_heldSharesOfLeg : MT := (yX11_heldSharesOfLeg, cX11_heldSharesOfLeg, 5, (some .int))
theorem Y_X11_heldSharesOfLeg : YL yX11_heldSharesOfLeg cX11_heldSharesOfLeg 5 (some .int) 2 := ⟨inT5 (List.mem_of_getElem? (i := 49) (by decide +kernel)), inT1 (List.mem_of_getElem? (i := 1) (by decide +kernel)), by decide +kernel, by decide +kernel, by decide +kernel, by decide +kernel⟩
abbrev mX12_init : MT := (yX12_init, cX12_init, 1, none)
theorem Y_X12_init : YL yX12_init cX12_init 1 none 0 := ⟨inT5 (List.mem_of_getElem? (i := 54) (by decide +kernel)), inT1 (List.mem_of_getElem? (i := 13) (by decide +kernel)), by decide +kernel, by decide +kernel, by decide +kernel, by decide +kernel⟩
abbrev mX12_thrown : MT := (yX12_thrown, cX12_thrown, 1, (some .int))
theorem Y_X12_thrown : YL yX12_thrown cX12_thrown 1 (some .int) 0 := ⟨inT5 (List.mem_of_getElem? (i := 166) (by decide +kernel)), inT1 (List.mem_of_getElem? (i := 13) (by decide +kernel)), by decide +kernel, by decide +kernel, by decide +kernel, by decide +kernel⟩
abbrev mX12_feed : MT := (yX12_feed, cX12_feed, 6, (some .int))
theorem Y_X12_feed : YL yX12_feed cX12_feed 6 (some .int) 5 := ⟨inT5 (List.mem_of_getElem? (i := 170) (by decide +kernel)), inT1 (List.mem_of_getElem? (i := 13) (by decide +kernel)), by decide +kernel, by decide +kernel, by decide +kernel, by decide +kernel⟩
abbrev mX12_come : MT := (yX12_come, cX12_come, 3, none)
theorem Y_X12_come : YL yX12_come cX12_come 3 none 1 := ⟨inT5 (List.mem_of_getElem? (i := 174) (by decide +kernel)), inT1 (List.mem_of_getElem? (i := 13) (by decide +kernel)), by decide +kernel, by decide +kernel, by decide +kernel, by decide +kernel⟩
abbrev mX12_end : MT := (yX12_end, cX12_end, 2, (some .boolean))
theorem Y_X12_end : YL yX12_end cX12_end 2 (some .boolean) 1 := ⟨inT5 (List.mem_of_getElem? (i := 178) (by decide +kernel)), inT1 (List.mem_of_getElem? (i := 13) (by decide +kernel)), by decide +kernel, by decide +kernel, by decide +kernel, by decide +kernel⟩
abbrev mX12_next : MT := (yX12_next, cX12_next, 2, (some .int))
theorem Y_X12_next : YL yX12_next cX12_next 2 (some .int) 1 := ⟨inT5 (List.mem_of_getElem? (i := 182) (by decide +kernel)), inT1 (List.mem_of_getElem? (i := 13) (by decide +kernel)), by decide +kernel, by decide +kernel, by decide +kernel, by decide +kernel⟩
abbrev mX12_isIn : MT := (yX12_isIn, cX12_isIn, 3, (some .boolean))
theorem Y_X12_isIn : YL yX12_isIn cX12_isIn 3 (some .boolean) 3 := ⟨inT5 (List.mem_of_getElem? (i := 185) (by decide +kernel)), inT1 (List.mem_of_getElem? (i := 13) (by decide +kernel)), by decide +kernel, by decide +kernel, by decide +kernel, by decide +kernel⟩
abbrev mX12_book : MT := (yX12_book, cX12_book, 3, (some .int))
theorem Y_X12_book : YL yX12_book cX12_book 3 (some .int) 0 := ⟨inT5 (List.mem_of_getElem? (i := 189) (by decide +kernel)), inT1 (List.mem_of_getElem? (i := 13) (by decide +kernel)), by decide +kernel, by decide +kernel, by decide +kernel, by decide +kernel⟩
abbrev mX12_take : MT := (yX12_take, cX12_take, 2, (some .int))
theorem Y_X12_take : YL yX12_take cX12_take 2 (some .int) 0 := ⟨inT5 (List.mem_of_getElem? (i := 193) (by decide +kernel)), inT1 (List.mem_of_getElem? (i := 13) (by decide +kernel)), by decide +kernel, by decide +kernel, by decide +kernel, by decide +kernel⟩
abbrev mX12_at : MT := (yX12_at, cX12_at, 1, (some .int))
theorem Y_X12_at : YL yX12_at cX12_at 1 (some .int) 1 := ⟨inT5 (List.mem_of_getElem? (i := 196) (by decide +kernel)), inT1 (List.mem_of_getElem? (i := 13) (by decide +kernel)), by decide +kernel, by decide +kernel, by decide +kernel, by decide +kernel⟩
abbrev mX12_go : MT := (yX12_go, cX12_go, 5, none)
theorem Y_X12_go : YL yX12_go cX12_go 5 none 0 := ⟨inT5 (List.mem_of_getElem? (i := 200) (by decide +kernel)), inT1 (List.mem_of_getElem? (i := 13) (by decide +kernel)), by decide +kernel, by decide +kernel, by decide +kernel, by decide +kernel⟩
abbrev mX12_isLetter : MT := (yX12_isLetter, cX12_isLetter, 1, (some .boolean))
theorem Y_X12_isLetter : YL yX12_isLetter cX12_isLetter 1 (some .boolean) 1 := ⟨inT5 (List.mem_of_getElem? (i := 203) (by decide +kernel)), inT1 (List.mem_of_getElem? (i := 13) (by decide +kernel)), by decide +kernel, by decide +kernel, by decide +kernel, by decide +kernel⟩
abbrev mX12_isDigit : MT := (yX12_isDigit, cX12_isDigit, 1, (some .boolean))
theorem Y_X12_isDigit : YL yX12_isDigit cX12_isDigit 1 (some .boolean) 1 := ⟨inT5 (List.mem_of_getElem? (i := 206) (by decide +kernel)), inT1 (List.mem_of_getElem? (i := 13) (by decide +kernel)), by decide +kernel, by decide +kernel, by decide +kernel, by decide +kernel⟩
abbrev mX12_byteAt : MT := (yX12_byteAt, cX12_byteAt, 2, (some .int))
theorem Y_X12_byteAt : YL yX12_byteAt cX12_byteAt 2 (some .int) 1 := ⟨inT5 (List.mem_of_getElem? (i := 210) (by decide +kernel)), inT1 (List.mem_of_getElem? (i := 13) (by decide +kernel)), by decide +kernel, by decide +kernel, by decide +kernel, by decide +kernel⟩
abbrev mX12_readLine : MT := (yX12_readLine, cX12_readLine, 2, (some .boolean))
theorem Y_X12_readLine : YL yX12_readLine cX12_readLine 2 (some .boolean) 0 := ⟨inT5 (List.mem_of_getElem? (i := 216) (by decide +kernel)), inT1 (List.mem_of_getElem? (i := 13) (by decide +kernel)), by decide +kernel, by decide +kernel, by decide +kernel, by decide +kernel⟩
abbrev mX12_isFoam : MT := (yX12_isFoam, cX12_isFoam, 1, (some .boolean))
theorem Y_X12_isFoam : YL yX12_isFoam cX12_isFoam 1 (some .boolean) 0 := ⟨inT5 (List.mem_of_getElem? (i := 220) (by decide +kernel)), inT1 (List.mem_of_getElem? (i := 13) (by decide +kernel)), by decide +kernel, by decide +kernel, by decide +kernel, by decide +kernel⟩
abbrev mX12_spelt : MT := (yX12_spelt, cX12_spelt, 7, (some .long))
theorem Y_X12_spelt : YL yX12_spelt cX12_spelt 7 (some .long) 5 := ⟨inT5 (List.mem_of_getElem? (i := 223) (by decide +kernel)), inT1 (List.mem_of_getElem? (i := 13) (by decide +kernel)), by decide +kernel, by decide +kernel, by decide +kernel, by decide +kernel⟩
abbrev mX12_isKey : MT := (yX12_isKey, cX12_isKey, 3, (some .boolean))
theorem Y_X12_isKey : YL yX12_isKey cX12_isKey 3 (some .boolean) 1 := ⟨inT5 (List.mem_of_getElem? (i := 227) (by decide +kernel)), inT1 (List.mem_of_getElem? (i := 13) (by decide +kernel)), by decide +kernel, by decide +kernel, by decide +kernel, by decide +kernel⟩
abbrev mX12_readFoam : MT := (yX12_readFoam, cX12_readFoam, 4, (some .boolean))
theorem Y_X12_readFoam : YL yX12_readFoam cX12_readFoam 4 (some .boolean) 0 := ⟨inT5 (List.mem_of_getElem? (i := 231) (by decide +kernel)), inT1 (List.mem_of_getElem? (i := 13) (by decide +kernel)), by decide +kernel, by decide +kernel, by decide +kernel, by decide +kernel⟩
abbrev mX12_bad : MT := (yX12_bad, cX12_bad, 2, (some .boolean))
theorem Y_X12_bad : YL yX12_bad cX12_bad 2 (some .boolean) 1 := ⟨inT5 (List.mem_of_getElem? (i := 235) (by decide +kernel)), inT1 (List.mem_of_getElem? (i := 13) (by decide +kernel)), by decide +kernel, by decide +kernel, by decide +kernel, by decide +kernel⟩
abbrev mX12_readName : MT := (yX12_readName, cX12_readName, 2, (some .boolean))
theorem Y_X12_readName : YL yX12_readName cX12_readName 2 (some .boolean) 1 := ⟨inT5 (List.mem_of_getElem? (i := 239) (by decide +kernel)), inT1 (List.mem_of_getElem? (i := 13) (by decide +kernel)), by decide +kernel, by decide +kernel, by decide +kernel, by decide +kernel⟩
abbrev mX12_isTaken : MT := (yX12_isTaken, cX12_isTaken, 1, (some .boolean))
theorem Y_X12_isTaken : YL yX12_isTaken cX12_isTaken 1 (some .boolean) 0 := ⟨inT6 (List.mem_of_getElem? (i := 3) (by decide +kernel)), inT1 (List.mem_of_getElem? (i := 13) (by decide +kernel)), by decide +kernel, by decide +kernel, by decide +kernel, by decide +kernel⟩
abbrev mX12_isThing : MT := (yX12_isThing, cX12_isThing, 1, (some .boolean))
theorem Y_X12_isThing : YL yX12_isThing cX12_isThing 1 (some .boolean) 0 := ⟨inT6 (List.mem_of_getElem? (i := 7) (by decide +kernel)), inT1 (List.mem_of_getElem? (i := 13) (by decide +kernel)), by decide +kernel, by decide +kernel, by decide +kernel, by decide +kernel⟩
abbrev mX12_isBox : MT := (yX12_isBox, cX12_isBox, 1, (some .boolean))
theorem Y_X12_isBox : YL yX12_isBox cX12_isBox 1 (some .boolean) 0 := ⟨inT6 (List.mem_of_getElem? (i := 11) (by decide +kernel)), inT1 (List.mem_of_getElem? (i := 13) (by decide +kernel)), by decide +kernel, by decide +kernel, by decide +kernel, by decide +kernel⟩
abbrev mX12_isPad : MT := (yX12_isPad, cX12_isPad, 1, (some .boolean))
theorem Y_X12_isPad : YL yX12_isPad cX12_isPad 1 (some .boolean) 0 := ⟨inT6 (List.mem_of_getElem? (i := 15) (by decide +kernel)), inT1 (List.mem_of_getElem? (i := 13) (by decide +kernel)), by decide +kernel, by decide +kernel, by decide +kernel, by decide +kernel⟩
abbrev mX12_isDrop : MT := (yX12_isDrop, cX12_isDrop, 1, (some .boolean))
theorem Y_X12_isDrop : YL yX12_isDrop cX12_isDrop 1 (some .boolean) 0 := ⟨inT6 (List.mem_of_getElem? (i := 19) (by decide +kernel)), inT1 (List.mem_of_getElem? (i := 13) (by decide +kernel)), by decide +kernel, by decide +kernel, by decide +kernel, by decide +kernel⟩
abbrev mX12_weighs : MT := (yX12_weighs, cX12_weighs, 0, (some .long))
theorem Y_X12_weighs : YL yX12_weighs cX12_weighs 0 (some .long) 0 := ⟨inT6 (List.mem_of_getElem? (i := 22) (by decide +kernel)), inT1 (List.mem_of_getElem? (i := 13) (by decide +kernel)), by decide +kernel, by decide +kernel, by decide +kernel, by decide +kernel⟩
abbrev mX12_find : MT := (yX12_find, cX12_find, 3, (some .int))
theorem Y_X12_find : YL yX12_find cX12_find 3 (some .int) 1 := ⟨inT6 (List.mem_of_getElem? (i := 27) (by decide +kernel)), inT1 (List.mem_of_getElem? (i := 13) (by decide +kernel)), by decide +kernel, by decide +kernel, by decide +kernel, by decide +kernel⟩
abbrev mX12_readPoint : MT := (yX12_readPoint, cX12_readPoint, 4, (some .boolean))
theorem Y_X12_readPoint : YL yX12_readPoint cX12_readPoint 4 (some .boolean) 2 := ⟨inT6 (List.mem_of_getElem? (i := 31) (by decide +kernel)), inT1 (List.mem_of_getElem? (i := 13) (by decide +kernel)), by decide +kernel, by decide +kernel, by decide +kernel, by decide +kernel⟩
abbrev mX12_readNumber : MT := (yX12_readNumber, cX12_readNumber, 3, (some .boolean))
theorem Y_X12_readNumber : YL yX12_readNumber cX12_readNumber 3 (some .boolean) 2 := ⟨inT6 (List.mem_of_getElem? (i := 35) (by decide +kernel)), inT1 (List.mem_of_getElem? (i := 13) (by decide +kernel)), by decide +kernel, by decide +kernel, by decide +kernel, by decide +kernel⟩
abbrev mX12_readInto : MT := (yX12_readInto, cX12_readInto, 4, (some .boolean))
theorem Y_X12_readInto : YL yX12_readInto cX12_readInto 4 (some .boolean) 3 := ⟨inT6 (List.mem_of_getElem? (i := 39) (by decide +kernel)), inT1 (List.mem_of_getElem? (i := 13) (by decide +kernel)), by decide +kernel, by decide +kernel, by decide +kernel, by decide +kernel⟩
abbrev mX12_isSign : MT := (yX12_isSign, cX12_isSign, 2, (some .boolean))
theorem Y_X12_isSign : YL yX12_isSign cX12_isSign 2 (some .boolean) 1 := ⟨inT6 (List.mem_of_getElem? (i := 43) (by decide +kernel)), inT1 (List.mem_of_getElem? (i := 13) (by decide +kernel)), by decide +kernel, by decide +kernel, by decide +kernel, by decide +kernel⟩
abbrev mX12_readKey : MT := (yX12_readKey, cX12_readKey, 3, (some .boolean))
theorem Y_X12_readKey : YL yX12_readKey cX12_readKey 3 (some .boolean) 1 := ⟨inT6 (List.mem_of_getElem? (i := 48) (by decide +kernel)), inT1 (List.mem_of_getElem? (i := 13) (by decide +kernel)), by decide +kernel, by decide +kernel, by decide +kernel, by decide +kernel⟩
abbrev mX12_readThing : MT := (yX12_readThing, cX12_readThing, 4, (some .boolean))
theorem Y_X12_readThing : YL yX12_readThing cX12_readThing 4 (some .boolean) 0 := ⟨inT6 (List.mem_of_getElem? (i := 52) (by decide +kernel)), inT1 (List.mem_of_getElem? (i := 13) (by decide +kernel)), by decide +kernel, by decide +kernel, by decide +kernel, by decide +kernel⟩
abbrev mX12_readBox : MT := (yX12_readBox, cX12_readBox, 4, (some .boolean))
theorem Y_X12_readBox : YL yX12_readBox cX12_readBox 4 (some .boolean) 0 := ⟨inT6 (List.mem_of_getElem? (i := 56) (by decide +kernel)), inT1 (List.mem_of_getElem? (i := 13) (by decide +kernel)), by decide +kernel, by decide +kernel, by decide +kernel, by decide +kernel⟩
abbrev mX12_readPad : MT := (yX12_readPad, cX12_readPad, 3, (some .boolean))
theorem Y_X12_readPad : YL yX12_readPad cX12_readPad 3 (some .boolean) 0 := ⟨inT6 (List.mem_of_getElem? (i := 60) (by decide +kernel)), inT1 (List.mem_of_getElem? (i := 13) (by decide +kernel)), by decide +kernel, by decide +kernel, by decide +kernel, by decide +kernel⟩
abbrev mX12_readTold : MT := (yX12_readTold, cX12_readTold, 2, (some .boolean))
theorem Y_X12_readTold : YL yX12_readTold cX12_readTold 2 (some .boolean) 1 := ⟨inT6 (List.mem_of_getElem? (i := 64) (by decide +kernel)), inT1 (List.mem_of_getElem? (i := 13) (by decide +kernel)), by decide +kernel, by decide +kernel, by decide +kernel, by decide +kernel⟩
abbrev mX12_readDrop : MT := (yX12_readDrop, cX12_readDrop, 3, (some .boolean))
theorem Y_X12_readDrop : YL yX12_readDrop cX12_readDrop 3 (some .boolean) 0 := ⟨inT6 (List.mem_of_getElem? (i := 68) (by decide +kernel)), inT1 (List.mem_of_getElem? (i := 13) (by decide +kernel)), by decide +kernel, by decide +kernel, by decide +kernel, by decide +kernel⟩
abbrev mX12_fault : MT := (yX12_fault, cX12_fault, 1, (some .int))
theorem Y_X12_fault : YL yX12_fault cX12_fault 1 (some .int) 0 := ⟨inT6 (List.mem_of_getElem? (i := 72) (by decide +kernel)), inT1 (List.mem_of_getElem? (i := 13) (by decide +kernel)), by decide +kernel, by decide +kernel, by decide +kernel, by decide +kernel⟩
abbrev mX12_many : MT := (yX12_many, cX12_many, 3, (some .int))
theorem Y_X12_many : YL yX12_many cX12_many 3 (some .int) 2 := ⟨inT6 (List.mem_of_getElem? (i := 76) (by decide +kernel)), inT1 (List.mem_of_getElem? (i := 13) (by decide +kernel)), by decide +kernel, by decide +kernel, by decide +kernel, by decide +kernel⟩
abbrev mX12_isBooked : MT := (yX12_isBooked, cX12_isBooked, 3, (some .boolean))
theorem Y_X12_isBooked : YL yX12_isBooked cX12_isBooked 3 (some .boolean) 1 := ⟨inT6 (List.mem_of_getElem? (i := 80) (by decide +kernel)), inT1 (List.mem_of_getElem? (i := 13) (by decide +kernel)), by decide +kernel, by decide +kernel, by decide +kernel, by decide +kernel⟩
abbrev mX12_of : MT := (yX12_of, cX12_of, 2, (some .int))
theorem Y_X12_of : YL yX12_of cX12_of 2 (some .int) 1 := ⟨inT6 (List.mem_of_getElem? (i := 84) (by decide +kernel)), inT1 (List.mem_of_getElem? (i := 13) (by decide +kernel)), by decide +kernel, by decide +kernel, by decide +kernel, by decide +kernel⟩
abbrev mX12_push : MT := (yX12_push, cX12_push, 5, (some .int))
theorem Y_X12_push : YL yX12_push cX12_push 5 (some .int) 4 := ⟨inT6 (List.mem_of_getElem? (i := 88) (by decide +kernel)), inT1 (List.mem_of_getElem? (i := 13) (by decide +kernel)), by decide +kernel, by decide +kernel, by decide +kernel, by decide +kernel⟩
abbrev mX12_has : MT := (yX12_has, cX12_has, 4, (some .boolean))
theorem Y_X12_has : YL yX12_has cX12_has 4 (some .boolean) 3 := ⟨inT6 (List.mem_of_getElem? (i := 92) (by decide +kernel)), inT1 (List.mem_of_getElem? (i := 13) (by decide +kernel)), by decide +kernel, by decide +kernel, by decide +kernel, by decide +kernel⟩
abbrev mX12_lay : MT := (yX12_lay, cX12_lay, 10, none)
theorem Y_X12_lay : YL yX12_lay cX12_lay 10 none 2 := ⟨inT6 (List.mem_of_getElem? (i := 96) (by decide +kernel)), inT1 (List.mem_of_getElem? (i := 13) (by decide +kernel)), by decide +kernel, by decide +kernel, by decide +kernel, by decide +kernel⟩
abbrev mX12_squeeze : MT := (yX12_squeeze, cX12_squeeze, 6, (some .int))
theorem Y_X12_squeeze : YL yX12_squeeze cX12_squeeze 6 (some .int) 5 := ⟨inT6 (List.mem_of_getElem? (i := 100) (by decide +kernel)), inT1 (List.mem_of_getElem? (i := 13) (by decide +kernel)), by decide +kernel, by decide +kernel, by decide +kernel, by decide +kernel⟩
abbrev mX12_isDropped : MT := (yX12_isDropped, cX12_isDropped, 5, (some .boolean))
theorem Y_X12_isDropped : YL yX12_isDropped cX12_isDropped 5 (some .boolean) 4 := ⟨inT6 (List.mem_of_getElem? (i := 104) (by decide +kernel)), inT1 (List.mem_of_getElem? (i := 13) (by decide +kernel)), by decide +kernel, by decide +kernel, by decide +kernel, by decide +kernel⟩
abbrev mX12_takePad : MT := (yX12_takePad, cX12_takePad, 4, (some .boolean))
theorem Y_X12_takePad : YL yX12_takePad cX12_takePad 4 (some .boolean) 2 := ⟨inT6 (List.mem_of_getElem? (i := 108) (by decide +kernel)), inT1 (List.mem_of_getElem? (i := 13) (by decide +kernel)), by decide +kernel, by decide +kernel, by decide +kernel, by decide +kernel⟩
abbrev mX12_weightOf : MT := (yX12_weightOf, cX12_weightOf, 2, (some .int))
theorem Y_X12_weightOf : YL yX12_weightOf cX12_weightOf 2 (some .int) 1 := ⟨inT6 (List.mem_of_getElem? (i := 112) (by decide +kernel)), inT1 (List.mem_of_getElem? (i := 13) (by decide +kernel)), by decide +kernel, by decide +kernel, by decide +kernel, by decide +kernel⟩
abbrev mX12_squeezed : MT := (yX12_squeezed, cX12_squeezed, 10, (some .int))
theorem Y_X12_squeezed : YL yX12_squeezed cX12_squeezed 10 (some .int) 4 := ⟨inT6 (List.mem_of_getElem? (i := 116) (by decide +kernel)), inT1 (List.mem_of_getElem? (i := 13) (by decide +kernel)), by decide +kernel, by decide +kernel, by decide +kernel, by decide +kernel⟩
abbrev mX12_blow : MT := (yX12_blow, cX12_blow, 7, (some .int))
theorem Y_X12_blow : YL yX12_blow cX12_blow 7 (some .int) 5 := ⟨inT6 (List.mem_of_getElem? (i := 122) (by decide +kernel)), inT1 (List.mem_of_getElem? (i := 13) (by decide +kernel)), by decide +kernel, by decide +kernel, by decide +kernel, by decide +kernel⟩
abbrev mX12_blowAt : MT := (yX12_blowAt, cX12_blowAt, 8, (some .int))
theorem Y_X12_blowAt : YL yX12_blowAt cX12_blowAt 8 (some .int) 3 := ⟨inT6 (List.mem_of_getElem? (i := 127) (by decide +kernel)), inT1 (List.mem_of_getElem? (i := 13) (by decide +kernel)), by decide +kernel, by decide +kernel, by decide +kernel, by decide +kernel⟩
abbrev mX12_again : MT := (yX12_again, cX12_again, 7, (some .int))
theorem Y_X12_again : YL yX12_again cX12_again 7 (some .int) 4 := ⟨inT6 (List.mem_of_getElem? (i := 134) (by decide +kernel)), inT1 (List.mem_of_getElem? (i := 13) (by decide +kernel)), by decide +kernel, by decide +kernel, by decide +kernel, by decide +kernel⟩
abbrev mX12_markOf : MT := (yX12_markOf, cX12_markOf, 2, (some .int))
theorem Y_X12_markOf : YL yX12_markOf cX12_markOf 2 (some .int) 1 := ⟨inT6 (List.mem_of_getElem? (i := 138) (by decide +kernel)), inT1 (List.mem_of_getElem? (i := 13) (by decide +kernel)), by decide +kernel, by decide +kernel, by decide +kernel, by decide +kernel⟩
abbrev mX12_holds : MT := (yX12_holds, cX12_holds, 5, (some .boolean))
theorem Y_X12_holds : YL yX12_holds cX12_holds 5 (some .boolean) 3 := ⟨inT6 (List.mem_of_getElem? (i := 142) (by decide +kernel)), inT1 (List.mem_of_getElem? (i := 13) (by decide +kernel)), by decide +kernel, by decide +kernel, by decide +kernel, by decide +kernel⟩
abbrev mX12_keepsOf : MT := (yX12_keepsOf, cX12_keepsOf, 2, (some .int))
theorem Y_X12_keepsOf : YL yX12_keepsOf cX12_keepsOf 2 (some .int) 1 := ⟨inT6 (List.mem_of_getElem? (i := 146) (by decide +kernel)), inT1 (List.mem_of_getElem? (i := 13) (by decide +kernel)), by decide +kernel, by decide +kernel, by decide +kernel, by decide +kernel⟩
abbrev mX12_breaks : MT := (yX12_breaks, cX12_breaks, 8, (some .int))
theorem Y_X12_breaks : YL yX12_breaks cX12_breaks 8 (some .int) 2 := ⟨inT6 (List.mem_of_getElem? (i := 150) (by decide +kernel)), inT1 (List.mem_of_getElem? (i := 13) (by decide +kernel)), by decide +kernel, by decide +kernel, by decide +kernel, by decide +kernel⟩
abbrev mX12_breaksAt : MT := (yX12_breaksAt, cX12_breaksAt, 1, (some .int))
theorem Y_X12_breaksAt : YL yX12_breaksAt cX12_breaksAt 1 (some .int) 0 := ⟨inT6 (List.mem_of_getElem? (i := 154) (by decide +kernel)), inT1 (List.mem_of_getElem? (i := 13) (by decide +kernel)), by decide +kernel, by decide +kernel, by decide +kernel, by decide +kernel⟩
abbrev mX12_spans : MT := (yX12_spans, cX12_spans, 10, (some .int))
theorem Y_X12_spans : YL yX12_spans cX12_spans 10 (some .int) 4 := ⟨inT6 (List.mem_of_getElem? (i := 158) (by decide +kernel)), inT1 (List.mem_of_getElem? (i := 13) (by decide +kernel)), by decide +kernel, by decide +kernel, by decide +kernel, by decide +kernel⟩
abbrev mX12_highest : MT := (yX12_highest, cX12_highest, 7, (some .int))
theorem Y_X12_highest : YL yX12_highest cX12_highest 7 (some .int) 3 := ⟨inT6 (List.mem_of_getElem? (i := 162) (by decide +kernel)), inT1 (List.mem_of_getElem? (i := 13) (by decide +kernel)), by decide +kernel, by decide +kernel, by decide +kernel, by decide +kernel⟩
abbrev mX12_recorded : MT := (yX12_recorded, cX12_recorded, 10, (some .int))
theorem Y_X12_recorded : YL yX12_recorded cX12_recorded 10 (some .int) 6 := ⟨inT6 (List.mem_of_getElem? (i := 166) (by decide +kernel)), inT1 (List.mem_of_getElem? (i := 13) (by decide +kernel)), by decide +kernel, by decide +kernel, by decide +kernel, by decide +kernel⟩
abbrev mX12_above : MT := (yX12_above, cX12_above, 7, (some .int))
theorem Y_X12_above : YL yX12_above cX12_above 7 (some .int) 2 := ⟨inT6 (List.mem_of_getElem? (i := 170) (by decide +kernel)), inT1 (List.mem_of_getElem? (i := 13) (by decide +kernel)), by decide +kernel, by decide +kernel, by decide +kernel, by decide +kernel⟩
abbrev mX12_pads : MT := (yX12_pads, cX12_pads, 15, (some .int))
theorem Y_X12_pads : YL yX12_pads cX12_pads 15 (some .int) 5 := ⟨inT6 (List.mem_of_getElem? (i := 174) (by decide +kernel)), inT1 (List.mem_of_getElem? (i := 13) (by decide +kernel)), by decide +kernel, by decide +kernel, by decide +kernel, by decide +kernel⟩
abbrev mX12_padAt : MT := (yX12_padAt, cX12_padAt, 2, (some .int))
theorem Y_X12_padAt : YL yX12_padAt cX12_padAt 2 (some .int) 1 := ⟨inT6 (List.mem_of_getElem? (i := 178) (by decide +kernel)), inT1 (List.mem_of_getElem? (i := 13) (by decide +kernel)), by decide +kernel, by decide +kernel, by decide +kernel, by decide +kernel⟩
abbrev mX12_boxes : MT := (yX12_boxes, cX12_boxes, 9, (some .int))
theorem Y_X12_boxes : YL yX12_boxes cX12_boxes 9 (some .int) 3 := ⟨inT6 (List.mem_of_getElem? (i := 182) (by decide +kernel)), inT1 (List.mem_of_getElem? (i := 13) (by decide +kernel)), by decide +kernel, by decide +kernel, by decide +kernel, by decide +kernel⟩
abbrev mX12_costOf : MT := (yX12_costOf, cX12_costOf, 8, (some .int))
theorem Y_X12_costOf : YL yX12_costOf cX12_costOf 8 (some .int) 2 := ⟨inT6 (List.mem_of_getElem? (i := 186) (by decide +kernel)), inT1 (List.mem_of_getElem? (i := 13) (by decide +kernel)), by decide +kernel, by decide +kernel, by decide +kernel, by decide +kernel⟩
abbrev mX12_goesInto : MT := (yX12_goesInto, cX12_goesInto, 5, (some .boolean))
theorem Y_X12_goesInto : YL yX12_goesInto cX12_goesInto 5 (some .boolean) 3 := ⟨inT6 (List.mem_of_getElem? (i := 190) (by decide +kernel)), inT1 (List.mem_of_getElem? (i := 13) (by decide +kernel)), by decide +kernel, by decide +kernel, by decide +kernel, by decide +kernel⟩
abbrev mX12_fits : MT := (yX12_fits, cX12_fits, 11, (some .boolean))
theorem Y_X12_fits : YL yX12_fits cX12_fits 11 (some .boolean) 4 := ⟨inT6 (List.mem_of_getElem? (i := 194) (by decide +kernel)), inT1 (List.mem_of_getElem? (i := 13) (by decide +kernel)), by decide +kernel, by decide +kernel, by decide +kernel, by decide +kernel⟩
abbrev mX12_boxSet : MT := (yX12_boxSet, cX12_boxSet, 1, (some .int))
theorem Y_X12_boxSet : YL yX12_boxSet cX12_boxSet 1 (some .int) 0 := ⟨inT6 (List.mem_of_getElem? (i := 198) (by decide +kernel)), inT1 (List.mem_of_getElem? (i := 13) (by decide +kernel)), by decide +kernel, by decide +kernel, by decide +kernel, by decide +kernel⟩
abbrev mX12_stack : MT := (yX12_stack, cX12_stack, 7, (some .int))
theorem Y_X12_stack : YL yX12_stack cX12_stack 7 (some .int) 4 := ⟨inT6 (List.mem_of_getElem? (i := 202) (by decide +kernel)), inT1 (List.mem_of_getElem? (i := 13) (by decide +kernel)), by decide +kernel, by decide +kernel, by decide +kernel, by decide +kernel⟩
abbrev mX12_journey : MT := (yX12_journey, cX12_journey, 11, (some .long))
theorem Y_X12_journey : YL yX12_journey cX12_journey 11 (some .long) 2 := ⟨inT6 (List.mem_of_getElem? (i := 206) (by decide +kernel)), inT1 (List.mem_of_getElem? (i := 13) (by decide +kernel)), by decide +kernel, by decide +kernel, by decide +kernel, by decide +kernel⟩
abbrev mX12_heightAt : MT := (yX12_heightAt, cX12_heightAt, 3, (some .int))
theorem Y_X12_heightAt : YL yX12_heightAt cX12_heightAt 3 (some .int) 2 := ⟨inT6 (List.mem_of_getElem? (i := 210) (by decide +kernel)), inT1 (List.mem_of_getElem? (i := 13) (by decide +kernel)), by decide +kernel, by decide +kernel, by decide +kernel, by decide +kernel⟩
abbrev mX12_proved : MT := (yX12_proved, cX12_proved, 4, (some .int))
theorem Y_X12_proved : YL yX12_proved cX12_proved 4 (some .int) 2 := ⟨inT6 (List.mem_of_getElem? (i := 215) (by decide +kernel)), inT1 (List.mem_of_getElem? (i := 13) (by decide +kernel)), by decide +kernel, by decide +kernel, by decide +kernel, by decide +kernel⟩
abbrev mX12_power : MT := (yX12_power, cX12_power, 6, (some .long))
theorem Y_X12_power : YL yX12_power cX12_power 6 (some .long) 2 := ⟨inT6 (List.mem_of_getElem? (i := 218) (by decide +kernel)), inT1 (List.mem_of_getElem? (i := 13) (by decide +kernel)), by decide +kernel, by decide +kernel, by decide +kernel, by decide +kernel⟩
abbrev mX12_needed : MT := (yX12_needed, cX12_needed, 6, (some .int))
theorem Y_X12_needed : YL yX12_needed cX12_needed 6 (some .int) 2 := ⟨inT6 (List.mem_of_getElem? (i := 222) (by decide +kernel)), inT1 (List.mem_of_getElem? (i := 13) (by decide +kernel)), by decide +kernel, by decide +kernel, by decide +kernel, by decide +kernel⟩
abbrev mX12_count : MT := (yX12_count, cX12_count, 2, (some .int))
theorem Y_X12_count : YL yX12_count cX12_count 2 (some .int) 1 := ⟨inT6 (List.mem_of_getElem? (i := 227) (by decide +kernel)), inT1 (List.mem_of_getElem? (i := 13) (by decide +kernel)), by decide +kernel, by decide +kernel, by decide +kernel, by decide +kernel⟩
theorem vL_15 : IL RL 15 yX11_init := ⟨inT1 (List.mem_of_getElem? (i := 26) (by decide +kernel)), inT1 (List.mem_of_getElem? (i := 27) (by decide +kernel)), rfl⟩
theorem oX11_1 : Cond.methodLink RX11 1 Lib.objectInit ∈ lw_tbl := inT1 (List.mem_of_getElem? (i := 29) (by decide +kernel))
theorem vX11_9 : INL RX11 9 yX8_init := ⟨⟨"FoamArms", inT1 (List.mem_of_getElem? (i := 34) (by decide +kernel))⟩, inT1 (List.mem_of_getElem? (i := 35) (by decide +kernel)), rfl⟩
theorem oX8_3 : Cond.methodLink RX8 3 Lib.objectInit ∈ lw_tbl := inT1 (List.mem_of_getElem? (i := 37) (by decide +kernel))
theorem vX11_18 : INL RX11 18 yX1_init := ⟨⟨"FoamArms", inT1 (List.mem_of_getElem? (i := 52) (by decide +kernel))⟩, inT1 (List.mem_of_getElem? (i := 53) (by decide +kernel)), rfl⟩
theorem oX1_5 : Cond.methodLink RX1 5 Lib.objectInit ∈ lw_tbl := inT1 (List.mem_of_getElem? (i := 55) (by decide +kernel))
theorem vX1_13 : IL RX1 13 yX10_init := ⟨inT1 (List.mem_of_getElem? (i := 58) (by decide +kernel)), inT1 (List.mem_of_getElem? (i := 59) (by decide +kernel)), rfl⟩
theorem oX10_1 : Cond.methodLink RX10 1 Lib.objectInit ∈ lw_tbl := inT1 (List.mem_of_getElem? (i := 61) (by decide +kernel))
theorem vJ0_495 : SL RJ0 495 yJ1_charAt_3b067 := ⟨inT1 (List.mem_of_getElem? (i := 81) (by decide +kernel)), inT1 (List.mem_of_getElem? (i := 82) (by decide +kernel))⟩
theorem vJ1_9 : SL RJ1 9 yJ0_checkIndex_df160 := ⟨inT1 (List.mem_of_getElem? (i := 84) (by decide +kernel)), inT1 (List.mem_of_getElem? (i := 85) (by decide +kernel))⟩
theorem vJ0_1059 : SL RJ0 1059 yJ3_checkIndex_8e157 := ⟨inT1 (List.mem_of_getElem? (i := 89) (by decide +kernel)), inT1 (List.mem_of_getElem? (i := 90) (by decide +kernel))⟩
theorem vJ0_498 : SL RJ0 498 yJ2_charAt_3b067 := ⟨inT1 (List.mem_of_getElem? (i := 92) (by decide +kernel)), inT1 (List.mem_of_getElem? (i := 93) (by decide +kernel))⟩
theorem vJ2_67 : SL RJ2 67 yJ2_checkIndex_2214a := ⟨inT1 (List.mem_of_getElem? (i := 95) (by decide +kernel)), inT1 (List.mem_of_getElem? (i := 96) (by decide +kernel))⟩
theorem vJ2_48 : SL RJ2 48 yJ2_length_9d52b := ⟨inT1 (List.mem_of_getElem? (i := 98) (by decide +kernel)), inT1 (List.mem_of_getElem? (i := 99) (by decide +kernel))⟩
theorem vJ2_414 : SL RJ2 414 yJ0_checkIndex_df160 := ⟨inT1 (List.mem_of_getElem? (i := 101) (by decide +kernel)), inT1 (List.mem_of_getElem? (i := 85) (by decide +kernel))⟩
theorem vJ2_71 : SL RJ2 71 yJ2_getChar_3b067 := ⟨inT1 (List.mem_of_getElem? (i := 102) (by decide +kernel)), inT1 (List.mem_of_getElem? (i := 103) (by decide +kernel))⟩
theorem vX10_41 : SL RX10 41 yX10_withLetter := ⟨inT1 (List.mem_of_getElem? (i := 111) (by decide +kernel)), inT1 (List.mem_of_getElem? (i := 112) (by decide +kernel))⟩
theorem vX11_29 : INL RX11 29 yX0_init := ⟨⟨"FoamArms", inT1 (List.mem_of_getElem? (i := 169) (by decide +kernel))⟩, inT1 (List.mem_of_getElem? (i := 170) (by decide +kernel)), rfl⟩
theorem oX0_1 : Cond.methodLink RX0 1 Lib.objectInit ∈ lw_tbl := inT1 (List.mem_of_getElem? (i := 172) (by decide +kernel))
theorem vX11_36 : INL RX11 36 yX4_init := ⟨⟨"FoamArms", inT1 (List.mem_of_getElem? (i := 227) (by decide +kernel))⟩, inT1 (List.mem_of_getElem? (i := 228) (by decide +kernel)), rfl⟩
theorem oX4_3 : Cond.methodLink RX4 3 Lib.objectInit ∈ lw_tbl := inT1 (List.mem_of_getElem? (i := 230) (by decide +kernel))
theorem vX11_43 : IL RX11 43 yX7_init := ⟨inT2 (List.mem_of_getElem? (i := 19) (by decide +kernel)), inT2 (List.mem_of_getElem? (i := 20) (by decide +kernel)), rfl⟩
theorem oX7_3 : Cond.methodLink RX7 3 Lib.objectInit ∈ lw_tbl := inT2 (List.mem_of_getElem? (i := 22) (by decide +kernel))
theorem vX11_50 : INL RX11 50 yX3_init := ⟨⟨"FoamArms", inT2 (List.mem_of_getElem? (i := 49) (by decide +kernel))⟩, inT2 (List.mem_of_getElem? (i := 50) (by decide +kernel)), rfl⟩
theorem oX3_3 : Cond.methodLink RX3 3 Lib.objectInit ∈ lw_tbl := inT2 (List.mem_of_getElem? (i := 52) (by decide +kernel))
theorem vL_19 : VL RL 19 yX11_feed 11 := ⟨inT2 (List.mem_of_getElem? (i := 107) (by decide +kernel)), inT2 (List.mem_of_getElem? (i := 108) (by decide +kernel)), inT2 (List.mem_of_getElem? (i := 109) (by decide +kernel)), _, rfl, rfl⟩
theorem vX11_75 : VL RX11 75 yX8_add 8 := ⟨inT2 (List.mem_of_getElem? (i := 111) (by decide +kernel)), inT2 (List.mem_of_getElem? (i := 112) (by decide +kernel)), inT2 (List.mem_of_getElem? (i := 113) (by decide +kernel)), _, rfl, rfl⟩
theorem vL_24 : VL RL 24 yX11_end 11 := ⟨inT2 (List.mem_of_getElem? (i := 115) (by decide +kernel)), inT2 (List.mem_of_getElem? (i := 116) (by decide +kernel)), inT2 (List.mem_of_getElem? (i := 117) (by decide +kernel)), _, rfl, rfl⟩
theorem vL_29 : VL RL 29 yX11_next 11 := ⟨inT2 (List.mem_of_getElem? (i := 119) (by decide +kernel)), inT2 (List.mem_of_getElem? (i := 120) (by decide +kernel)), inT2 (List.mem_of_getElem? (i := 121) (by decide +kernel)), _, rfl, rfl⟩
theorem vL_34 : VL RL 34 yX11_book 11 := ⟨inT2 (List.mem_of_getElem? (i := 123) (by decide +kernel)), inT2 (List.mem_of_getElem? (i := 124) (by decide +kernel)), inT2 (List.mem_of_getElem? (i := 125) (by decide +kernel)), _, rfl, rfl⟩
theorem vX11_79 : VL RX11 79 yX1_readBook 1 := ⟨inT2 (List.mem_of_getElem? (i := 127) (by decide +kernel)), inT2 (List.mem_of_getElem? (i := 128) (by decide +kernel)), inT2 (List.mem_of_getElem? (i := 129) (by decide +kernel)), _, rfl, rfl⟩
theorem vX1_47 : INL RX1 47 yX0_init := ⟨⟨"FoamArms", inT2 (List.mem_of_getElem? (i := 132) (by decide +kernel))⟩, inT1 (List.mem_of_getElem? (i := 170) (by decide +kernel)), rfl⟩
theorem vX1_48 : VL RX1 48 yX10_scan 10 := ⟨inT2 (List.mem_of_getElem? (i := 133) (by decide +kernel)), inT2 (List.mem_of_getElem? (i := 134) (by decide +kernel)), inT2 (List.mem_of_getElem? (i := 135) (by decide +kernel)), _, rfl, rfl⟩
theorem vX10_48 : SL RX10 48 yJ9_min_7cf53 := ⟨inT2 (List.mem_of_getElem? (i := 137) (by decide +kernel)), inT2 (List.mem_of_getElem? (i := 138) (by decide +kernel))⟩
theorem vX10_54 : VL RX10 54 yX8_byteAt 8 := ⟨inT2 (List.mem_of_getElem? (i := 140) (by decide +kernel)), inT2 (List.mem_of_getElem? (i := 141) (by decide +kernel)), inT2 (List.mem_of_getElem? (i := 142) (by decide +kernel)), _, rfl, rfl⟩
theorem vX10_58 : SL RX10 58 yX10_isLetter := ⟨inT2 (List.mem_of_getElem? (i := 144) (by decide +kernel)), inT2 (List.mem_of_getElem? (i := 145) (by decide +kernel))⟩
theorem vX10_62 : SL RX10 62 yX10_isDigit := ⟨inT2 (List.mem_of_getElem? (i := 147) (by decide +kernel)), inT2 (List.mem_of_getElem? (i := 148) (by decide +kernel))⟩
theorem vX10_65 : VL RX10 65 yX10_scanRun 10 := ⟨inT2 (List.mem_of_getElem? (i := 150) (by decide +kernel)), inT2 (List.mem_of_getElem? (i := 152) (by decide +kernel)), List.mem_of_getElem? (i := 0) (by decide +kernel), _, rfl, rfl⟩
theorem vX10_83 : VL RX10 83 yX10_kindOfWord 10 := ⟨inT2 (List.mem_of_getElem? (i := 156) (by decide +kernel)), inT2 (List.mem_of_getElem? (i := 158) (by decide +kernel)), List.mem_of_getElem? (i := 1) (by decide +kernel), _, rfl, rfl⟩
theorem vX10_75 : VL RX10 75 yX10_add 10 := ⟨inT2 (List.mem_of_getElem? (i := 160) (by decide +kernel)), inT2 (List.mem_of_getElem? (i := 162) (by decide +kernel)), List.mem_of_getElem? (i := 2) (by decide +kernel), _, rfl, rfl⟩
theorem vX10_69 : SL RX10 69 yX10_isBlank := ⟨inT2 (List.mem_of_getElem? (i := 164) (by decide +kernel)), inT2 (List.mem_of_getElem? (i := 165) (by decide +kernel))⟩
theorem vX10_72 : SL RX10 72 yX10_kindOfSign := ⟨inT2 (List.mem_of_getElem? (i := 167) (by decide +kernel)), inT2 (List.mem_of_getElem? (i := 168) (by decide +kernel))⟩
theorem vX1_52 : VL RX1 52 yX1_isNow 1 := ⟨inT2 (List.mem_of_getElem? (i := 170) (by decide +kernel)), inT2 (List.mem_of_getElem? (i := 172) (by decide +kernel)), List.mem_of_getElem? (i := 3) (by decide +kernel), _, rfl, rfl⟩
theorem vX1_79 : VL RX1 79 yX10_kindAt 10 := ⟨inT2 (List.mem_of_getElem? (i := 174) (by decide +kernel)), inT2 (List.mem_of_getElem? (i := 175) (by decide +kernel)), inT2 (List.mem_of_getElem? (i := 176) (by decide +kernel)), _, rfl, rfl⟩
theorem vX1_61 : VL RX1 61 yX1_readLine 1 := ⟨inT2 (List.mem_of_getElem? (i := 178) (by decide +kernel)), inT2 (List.mem_of_getElem? (i := 180) (by decide +kernel)), List.mem_of_getElem? (i := 4) (by decide +kernel), _, rfl, rfl⟩
theorem vX1_82 : VL RX1 82 yX1_readFoam 1 := ⟨inT2 (List.mem_of_getElem? (i := 182) (by decide +kernel)), inT2 (List.mem_of_getElem? (i := 184) (by decide +kernel)), List.mem_of_getElem? (i := 5) (by decide +kernel), _, rfl, rfl⟩
theorem vX1_100 : VL RX1 100 yX1_readFirstWord 1 := ⟨inT2 (List.mem_of_getElem? (i := 186) (by decide +kernel)), inT2 (List.mem_of_getElem? (i := 188) (by decide +kernel)), List.mem_of_getElem? (i := 6) (by decide +kernel), _, rfl, rfl⟩
theorem vX1_71 : VL RX1 71 yX1_refuse 1 := ⟨inT2 (List.mem_of_getElem? (i := 190) (by decide +kernel)), inT2 (List.mem_of_getElem? (i := 192) (by decide +kernel)), List.mem_of_getElem? (i := 7) (by decide +kernel), _, rfl, rfl⟩
theorem vX1_103 : VL RX1 103 yX1_readNewName 1 := ⟨inT2 (List.mem_of_getElem? (i := 194) (by decide +kernel)), inT2 (List.mem_of_getElem? (i := 196) (by decide +kernel)), List.mem_of_getElem? (i := 8) (by decide +kernel), _, rfl, rfl⟩
theorem vX1_65 : VL RX1 65 yX1_readToken 1 := ⟨inT2 (List.mem_of_getElem? (i := 198) (by decide +kernel)), inT2 (List.mem_of_getElem? (i := 200) (by decide +kernel)), List.mem_of_getElem? (i := 9) (by decide +kernel), _, rfl, rfl⟩
theorem vX1_225 : VL RX1 225 yX10_valueAt 10 := ⟨inT2 (List.mem_of_getElem? (i := 202) (by decide +kernel)), inT2 (List.mem_of_getElem? (i := 203) (by decide +kernel)), inT2 (List.mem_of_getElem? (i := 204) (by decide +kernel)), _, rfl, rfl⟩
theorem vX1_229 : VL RX1 229 yX1_placeOfName 1 := ⟨inT2 (List.mem_of_getElem? (i := 206) (by decide +kernel)), inT2 (List.mem_of_getElem? (i := 208) (by decide +kernel)), List.mem_of_getElem? (i := 10) (by decide +kernel), _, rfl, rfl⟩
theorem vX1_108 : INL RX1 108 yX6_init := ⟨⟨"FoamArms", inT2 (List.mem_of_getElem? (i := 212) (by decide +kernel))⟩, inT2 (List.mem_of_getElem? (i := 213) (by decide +kernel)), rfl⟩
theorem oX6_3 : Cond.methodLink RX6 3 Lib.objectInit ∈ lw_tbl := inT2 (List.mem_of_getElem? (i := 215) (by decide +kernel))
theorem vX1_109 : VL RX1 109 yX1_readPoint 1 := ⟨inT2 (List.mem_of_getElem? (i := 237) (by decide +kernel)), inT2 (List.mem_of_getElem? (i := 239) (by decide +kernel)), List.mem_of_getElem? (i := 11) (by decide +kernel), _, rfl, rfl⟩
theorem vX1_127 : VL RX1 127 yX6_leastPercent 6 := ⟨inT3 (List.mem_of_getElem? (i := 1) (by decide +kernel)), inT3 (List.mem_of_getElem? (i := 2) (by decide +kernel)), inT3 (List.mem_of_getElem? (i := 3) (by decide +kernel)), _, rfl, rfl⟩
theorem vX1_134 : VL RX1 134 yX1_readNumber 1 := ⟨inT3 (List.mem_of_getElem? (i := 5) (by decide +kernel)), inT3 (List.mem_of_getElem? (i := 7) (by decide +kernel)), List.mem_of_getElem? (i := 12) (by decide +kernel), _, rfl, rfl⟩
theorem vX1_137 : VL RX1 137 yX6_leastPush 6 := ⟨inT3 (List.mem_of_getElem? (i := 9) (by decide +kernel)), inT3 (List.mem_of_getElem? (i := 10) (by decide +kernel)), inT3 (List.mem_of_getElem? (i := 11) (by decide +kernel)), _, rfl, rfl⟩
theorem vX1_141 : VL RX1 141 yX6_addPoint 6 := ⟨inT3 (List.mem_of_getElem? (i := 14) (by decide +kernel)), inT3 (List.mem_of_getElem? (i := 15) (by decide +kernel)), inT3 (List.mem_of_getElem? (i := 16) (by decide +kernel)), _, rfl, rfl⟩
theorem vX1_113 : VL RX1 113 yX1_readNumberOf 1 := ⟨inT3 (List.mem_of_getElem? (i := 18) (by decide +kernel)), inT3 (List.mem_of_getElem? (i := 20) (by decide +kernel)), List.mem_of_getElem? (i := 13) (by decide +kernel), _, rfl, rfl⟩
theorem vX1_123 : VL RX1 123 yX0_addFoam 0 := ⟨inT3 (List.mem_of_getElem? (i := 22) (by decide +kernel)), inT3 (List.mem_of_getElem? (i := 23) (by decide +kernel)), inT3 (List.mem_of_getElem? (i := 24) (by decide +kernel)), _, rfl, rfl⟩
theorem vX1_85 : VL RX1 85 yX1_readThing 1 := ⟨inT3 (List.mem_of_getElem? (i := 26) (by decide +kernel)), inT3 (List.mem_of_getElem? (i := 28) (by decide +kernel)), List.mem_of_getElem? (i := 14) (by decide +kernel), _, rfl, rfl⟩
theorem vX1_150 : INL RX1 150 yX9_init := ⟨⟨"FoamArms", inT3 (List.mem_of_getElem? (i := 32) (by decide +kernel))⟩, inT3 (List.mem_of_getElem? (i := 33) (by decide +kernel)), rfl⟩
theorem oX9_3 : Cond.methodLink RX9 3 Lib.objectInit ∈ lw_tbl := inT3 (List.mem_of_getElem? (i := 35) (by decide +kernel))
theorem vX1_157 : VL RX1 157 yX1_readSizesOf 1 := ⟨inT3 (List.mem_of_getElem? (i := 67) (by decide +kernel)), inT3 (List.mem_of_getElem? (i := 69) (by decide +kernel)), List.mem_of_getElem? (i := 15) (by decide +kernel), _, rfl, rfl⟩
theorem vX1_164 : VL RX1 164 yX0_addThing 0 := ⟨inT3 (List.mem_of_getElem? (i := 71) (by decide +kernel)), inT3 (List.mem_of_getElem? (i := 72) (by decide +kernel)), inT3 (List.mem_of_getElem? (i := 73) (by decide +kernel)), _, rfl, rfl⟩
theorem vX1_88 : VL RX1 88 yX1_readBox 1 := ⟨inT3 (List.mem_of_getElem? (i := 75) (by decide +kernel)), inT3 (List.mem_of_getElem? (i := 77) (by decide +kernel)), List.mem_of_getElem? (i := 16) (by decide +kernel), _, rfl, rfl⟩
theorem vX1_173 : INL RX1 173 yX2_init := ⟨⟨"FoamArms", inT3 (List.mem_of_getElem? (i := 81) (by decide +kernel))⟩, inT3 (List.mem_of_getElem? (i := 82) (by decide +kernel)), rfl⟩
theorem oX2_3 : Cond.methodLink RX2 3 Lib.objectInit ∈ lw_tbl := inT3 (List.mem_of_getElem? (i := 84) (by decide +kernel))
theorem vX1_181 : VL RX1 181 yX0_addBox 0 := ⟨inT3 (List.mem_of_getElem? (i := 102) (by decide +kernel)), inT3 (List.mem_of_getElem? (i := 103) (by decide +kernel)), inT3 (List.mem_of_getElem? (i := 104) (by decide +kernel)), _, rfl, rfl⟩
theorem vX1_91 : VL RX1 91 yX1_readPad 1 := ⟨inT3 (List.mem_of_getElem? (i := 106) (by decide +kernel)), inT3 (List.mem_of_getElem? (i := 108) (by decide +kernel)), List.mem_of_getElem? (i := 17) (by decide +kernel), _, rfl, rfl⟩
theorem vX1_185 : VL RX1 185 yX1_readToldName 1 := ⟨inT3 (List.mem_of_getElem? (i := 110) (by decide +kernel)), inT3 (List.mem_of_getElem? (i := 112) (by decide +kernel)), List.mem_of_getElem? (i := 18) (by decide +kernel), _, rfl, rfl⟩
theorem vX1_188 : VL RX1 188 yX0_thingAt 0 := ⟨inT3 (List.mem_of_getElem? (i := 114) (by decide +kernel)), inT3 (List.mem_of_getElem? (i := 115) (by decide +kernel)), inT3 (List.mem_of_getElem? (i := 116) (by decide +kernel)), _, rfl, rfl⟩
theorem vX1_192 : VL RX1 192 yX9_foamOn 9 := ⟨inT3 (List.mem_of_getElem? (i := 118) (by decide +kernel)), inT3 (List.mem_of_getElem? (i := 119) (by decide +kernel)), inT3 (List.mem_of_getElem? (i := 120) (by decide +kernel)), _, rfl, rfl⟩
theorem vX9_34 : SNL RX9 34 yX11_isSide := ⟨⟨"FoamArms", inT3 (List.mem_of_getElem? (i := 122) (by decide +kernel))⟩, inT3 (List.mem_of_getElem? (i := 123) (by decide +kernel))⟩
theorem vX1_196 : VL RX1 196 yX0_foamAt 0 := ⟨inT3 (List.mem_of_getElem? (i := 125) (by decide +kernel)), inT3 (List.mem_of_getElem? (i := 126) (by decide +kernel)), inT3 (List.mem_of_getElem? (i := 127) (by decide +kernel)), _, rfl, rfl⟩
theorem vX1_199 : VL RX1 199 yX9_putPad 9 := ⟨inT3 (List.mem_of_getElem? (i := 129) (by decide +kernel)), inT3 (List.mem_of_getElem? (i := 130) (by decide +kernel)), inT3 (List.mem_of_getElem? (i := 131) (by decide +kernel)), _, rfl, rfl⟩
theorem vX1_94 : VL RX1 94 yX1_readDrop 1 := ⟨inT3 (List.mem_of_getElem? (i := 133) (by decide +kernel)), inT3 (List.mem_of_getElem? (i := 135) (by decide +kernel)), List.mem_of_getElem? (i := 19) (by decide +kernel), _, rfl, rfl⟩
theorem vX1_208 : INL RX1 208 yX5_init := ⟨⟨"FoamArms", inT3 (List.mem_of_getElem? (i := 139) (by decide +kernel))⟩, inT3 (List.mem_of_getElem? (i := 140) (by decide +kernel)), rfl⟩
theorem oX5_1 : Cond.methodLink RX5 1 Lib.objectInit ∈ lw_tbl := inT3 (List.mem_of_getElem? (i := 142) (by decide +kernel))
theorem vX1_221 : VL RX1 221 yX0_addDrop 0 := ⟨inT3 (List.mem_of_getElem? (i := 164) (by decide +kernel)), inT3 (List.mem_of_getElem? (i := 165) (by decide +kernel)), inT3 (List.mem_of_getElem? (i := 166) (by decide +kernel)), _, rfl, rfl⟩
theorem vX11_84 : VL RX11 84 yX1_placeOfFault 1 := ⟨inT3 (List.mem_of_getElem? (i := 168) (by decide +kernel)), inT3 (List.mem_of_getElem? (i := 169) (by decide +kernel)), inT3 (List.mem_of_getElem? (i := 170) (by decide +kernel)), _, rfl, rfl⟩
theorem vX1_75 : VL RX1 75 yX10_placeAt 10 := ⟨inT3 (List.mem_of_getElem? (i := 172) (by decide +kernel)), inT3 (List.mem_of_getElem? (i := 173) (by decide +kernel)), inT3 (List.mem_of_getElem? (i := 174) (by decide +kernel)), _, rfl, rfl⟩
theorem vX11_91 : VL RX11 91 yX11_keepBook 11 := ⟨inT3 (List.mem_of_getElem? (i := 176) (by decide +kernel)), inT3 (List.mem_of_getElem? (i := 178) (by decide +kernel)), List.mem_of_getElem? (i := 20) (by decide +kernel), _, rfl, rfl⟩
theorem vL_39 : VL RL 39 yX11_fault 11 := ⟨inT3 (List.mem_of_getElem? (i := 180) (by decide +kernel)), inT3 (List.mem_of_getElem? (i := 181) (by decide +kernel)), inT3 (List.mem_of_getElem? (i := 182) (by decide +kernel)), _, rfl, rfl⟩
theorem vL_43 : VL RL 43 yX11_many 11 := ⟨inT3 (List.mem_of_getElem? (i := 184) (by decide +kernel)), inT3 (List.mem_of_getElem? (i := 185) (by decide +kernel)), inT3 (List.mem_of_getElem? (i := 186) (by decide +kernel)), _, rfl, rfl⟩
theorem vX11_95 : VL RX11 95 yX11_asOf 11 := ⟨inT3 (List.mem_of_getElem? (i := 188) (by decide +kernel)), inT3 (List.mem_of_getElem? (i := 190) (by decide +kernel)), List.mem_of_getElem? (i := 21) (by decide +kernel), _, rfl, rfl⟩
theorem vX11_270 : SL RX11 270 yJ9_min_7cf53 := ⟨inT3 (List.mem_of_getElem? (i := 192) (by decide +kernel)), inT2 (List.mem_of_getElem? (i := 138) (by decide +kernel))⟩
theorem vL_48 : VL RL 48 yX11_push 11 := ⟨inT3 (List.mem_of_getElem? (i := 193) (by decide +kernel)), inT3 (List.mem_of_getElem? (i := 194) (by decide +kernel)), inT3 (List.mem_of_getElem? (i := 195) (by decide +kernel)), _, rfl, rfl⟩
theorem vX11_111 : VL RX11 111 yX0_foamAt 0 := ⟨inT3 (List.mem_of_getElem? (i := 197) (by decide +kernel)), inT3 (List.mem_of_getElem? (i := 126) (by decide +kernel)), inT3 (List.mem_of_getElem? (i := 127) (by decide +kernel)), _, rfl, rfl⟩
theorem vX11_115 : SL RX11 115 yX11_isKept := ⟨inT3 (List.mem_of_getElem? (i := 198) (by decide +kernel)), inT3 (List.mem_of_getElem? (i := 199) (by decide +kernel))⟩
theorem vX11_119 : VL RX11 119 yX6_pushAt 6 := ⟨inT3 (List.mem_of_getElem? (i := 201) (by decide +kernel)), inT3 (List.mem_of_getElem? (i := 202) (by decide +kernel)), inT3 (List.mem_of_getElem? (i := 203) (by decide +kernel)), _, rfl, rfl⟩
theorem vL_53 : VL RL 53 yX11_squeeze 11 := ⟨inT3 (List.mem_of_getElem? (i := 205) (by decide +kernel)), inT3 (List.mem_of_getElem? (i := 206) (by decide +kernel)), inT3 (List.mem_of_getElem? (i := 207) (by decide +kernel)), _, rfl, rfl⟩
theorem vX11_125 : VL RX11 125 yX11_putOnPad 11 := ⟨inT3 (List.mem_of_getElem? (i := 209) (by decide +kernel)), inT3 (List.mem_of_getElem? (i := 211) (by decide +kernel)), List.mem_of_getElem? (i := 22) (by decide +kernel), _, rfl, rfl⟩
theorem vX11_155 : VL RX11 155 yX0_thingAt 0 := ⟨inT3 (List.mem_of_getElem? (i := 213) (by decide +kernel)), inT3 (List.mem_of_getElem? (i := 115) (by decide +kernel)), inT3 (List.mem_of_getElem? (i := 116) (by decide +kernel)), _, rfl, rfl⟩
theorem vX11_213 : SL RX11 213 yX11_isSide := ⟨inT3 (List.mem_of_getElem? (i := 214) (by decide +kernel)), inT3 (List.mem_of_getElem? (i := 123) (by decide +kernel))⟩
theorem vX11_252 : VL RX11 252 yX4_layPad 4 := ⟨inT3 (List.mem_of_getElem? (i := 215) (by decide +kernel)), inT3 (List.mem_of_getElem? (i := 216) (by decide +kernel)), inT3 (List.mem_of_getElem? (i := 217) (by decide +kernel)), _, rfl, rfl⟩
theorem vX4_39 : SNL RX4 39 yX11_isSide := ⟨⟨"FoamArms", inT3 (List.mem_of_getElem? (i := 219) (by decide +kernel))⟩, inT3 (List.mem_of_getElem? (i := 123) (by decide +kernel))⟩
theorem vX4_55 : VL RX4 55 yX4_layFoam 4 := ⟨inT3 (List.mem_of_getElem? (i := 220) (by decide +kernel)), inT3 (List.mem_of_getElem? (i := 221) (by decide +kernel)), inT3 (List.mem_of_getElem? (i := 222) (by decide +kernel)), _, rfl, rfl⟩
theorem vX4_62 : VL RX4 62 yX6_lastPercent 6 := ⟨inT3 (List.mem_of_getElem? (i := 224) (by decide +kernel)), inT3 (List.mem_of_getElem? (i := 225) (by decide +kernel)), inT3 (List.mem_of_getElem? (i := 226) (by decide +kernel)), _, rfl, rfl⟩
theorem vX6_28 : VL RX6 28 yX6_leastPercent 6 := ⟨inT3 (List.mem_of_getElem? (i := 228) (by decide +kernel)), inT3 (List.mem_of_getElem? (i := 2) (by decide +kernel)), inT3 (List.mem_of_getElem? (i := 3) (by decide +kernel)), _, rfl, rfl⟩
theorem vX4_66 : SL RX4 66 yJ9_min_7cf53 := ⟨inT3 (List.mem_of_getElem? (i := 229) (by decide +kernel)), inT2 (List.mem_of_getElem? (i := 138) (by decide +kernel))⟩
theorem vX4_72 : VL RX4 72 yX6_pushAt 6 := ⟨inT3 (List.mem_of_getElem? (i := 230) (by decide +kernel)), inT3 (List.mem_of_getElem? (i := 202) (by decide +kernel)), inT3 (List.mem_of_getElem? (i := 203) (by decide +kernel)), _, rfl, rfl⟩
theorem vX4_76 : VL RX4 76 yX4_wearTo 4 := ⟨inT3 (List.mem_of_getElem? (i := 231) (by decide +kernel)), inT3 (List.mem_of_getElem? (i := 232) (by decide +kernel)), inT3 (List.mem_of_getElem? (i := 233) (by decide +kernel)), _, rfl, rfl⟩
theorem vX11_129 : SL RX11 129 yX11_isHeight := ⟨inT3 (List.mem_of_getElem? (i := 235) (by decide +kernel)), inT3 (List.mem_of_getElem? (i := 236) (by decide +kernel))⟩
theorem vX11_132 : VL RX11 132 yX4_wearTo 4 := ⟨inT3 (List.mem_of_getElem? (i := 238) (by decide +kernel)), inT3 (List.mem_of_getElem? (i := 232) (by decide +kernel)), inT3 (List.mem_of_getElem? (i := 233) (by decide +kernel)), _, rfl, rfl⟩
theorem vX11_140 : VL RX11 140 yX4_squeezeOf 4 := ⟨inT3 (List.mem_of_getElem? (i := 239) (by decide +kernel)), inT4 (List.mem_of_getElem? (i := 0) (by decide +kernel)), inT4 (List.mem_of_getElem? (i := 1) (by decide +kernel)), _, rfl, rfl⟩
theorem vX4_80 : SL RX4 80 yJ9_max_7cf53 := ⟨inT4 (List.mem_of_getElem? (i := 3) (by decide +kernel)), inT4 (List.mem_of_getElem? (i := 4) (by decide +kernel))⟩
theorem vL_57 : VL RL 57 yX11_blow 11 := ⟨inT4 (List.mem_of_getElem? (i := 8) (by decide +kernel)), inT4 (List.mem_of_getElem? (i := 9) (by decide +kernel)), inT4 (List.mem_of_getElem? (i := 10) (by decide +kernel)), _, rfl, rfl⟩
theorem vX11_144 : VL RX11 144 yX4_blowOf 4 := ⟨inT4 (List.mem_of_getElem? (i := 12) (by decide +kernel)), inT4 (List.mem_of_getElem? (i := 13) (by decide +kernel)), inT4 (List.mem_of_getElem? (i := 14) (by decide +kernel)), _, rfl, rfl⟩
theorem vX4_87 : VL RX4 87 yX4_squeezeOf 4 := ⟨inT4 (List.mem_of_getElem? (i := 16) (by decide +kernel)), inT4 (List.mem_of_getElem? (i := 0) (by decide +kernel)), inT4 (List.mem_of_getElem? (i := 1) (by decide +kernel)), _, rfl, rfl⟩
theorem vX4_91 : VL RX4 91 yX4_blowAt 4 := ⟨inT4 (List.mem_of_getElem? (i := 17) (by decide +kernel)), inT4 (List.mem_of_getElem? (i := 18) (by decide +kernel)), inT4 (List.mem_of_getElem? (i := 19) (by decide +kernel)), _, rfl, rfl⟩
theorem vX4_98 : SL RX4 98 yJ9_min_f86c9 := ⟨inT4 (List.mem_of_getElem? (i := 23) (by decide +kernel)), inT4 (List.mem_of_getElem? (i := 24) (by decide +kernel))⟩
theorem vL_61 : VL RL 61 yX11_again 11 := ⟨inT4 (List.mem_of_getElem? (i := 26) (by decide +kernel)), inT4 (List.mem_of_getElem? (i := 27) (by decide +kernel)), inT4 (List.mem_of_getElem? (i := 28) (by decide +kernel)), _, rfl, rfl⟩
theorem vX11_148 : VL RX11 148 yX4_holds 4 := ⟨inT4 (List.mem_of_getElem? (i := 30) (by decide +kernel)), inT4 (List.mem_of_getElem? (i := 31) (by decide +kernel)), inT4 (List.mem_of_getElem? (i := 32) (by decide +kernel)), _, rfl, rfl⟩
theorem vX4_104 : VL RX4 104 yX4_blowOf 4 := ⟨inT4 (List.mem_of_getElem? (i := 34) (by decide +kernel)), inT4 (List.mem_of_getElem? (i := 13) (by decide +kernel)), inT4 (List.mem_of_getElem? (i := 14) (by decide +kernel)), _, rfl, rfl⟩
theorem vX11_152 : VL RX11 152 yX4_wearByBlow 4 := ⟨inT4 (List.mem_of_getElem? (i := 35) (by decide +kernel)), inT4 (List.mem_of_getElem? (i := 36) (by decide +kernel)), inT4 (List.mem_of_getElem? (i := 37) (by decide +kernel)), _, rfl, rfl⟩
theorem vL_65 : VL RL 65 yX11_breaks 11 := ⟨inT4 (List.mem_of_getElem? (i := 39) (by decide +kernel)), inT4 (List.mem_of_getElem? (i := 40) (by decide +kernel)), inT4 (List.mem_of_getElem? (i := 41) (by decide +kernel)), _, rfl, rfl⟩
theorem vX11_159 : VL RX11 159 yX0_dropAt 0 := ⟨inT4 (List.mem_of_getElem? (i := 43) (by decide +kernel)), inT4 (List.mem_of_getElem? (i := 44) (by decide +kernel)), inT4 (List.mem_of_getElem? (i := 45) (by decide +kernel)), _, rfl, rfl⟩
theorem vX11_168 : VL RX11 168 yX11_timeThatBreaks 11 := ⟨inT4 (List.mem_of_getElem? (i := 47) (by decide +kernel)), inT4 (List.mem_of_getElem? (i := 49) (by decide +kernel)), List.mem_of_getElem? (i := 23) (by decide +kernel), _, rfl, rfl⟩
theorem vL_69 : VL RL 69 yX11_breaksAt 11 := ⟨inT4 (List.mem_of_getElem? (i := 51) (by decide +kernel)), inT4 (List.mem_of_getElem? (i := 52) (by decide +kernel)), inT4 (List.mem_of_getElem? (i := 53) (by decide +kernel)), _, rfl, rfl⟩
theorem vL_73 : VL RL 73 yX11_spans 11 := ⟨inT4 (List.mem_of_getElem? (i := 55) (by decide +kernel)), inT4 (List.mem_of_getElem? (i := 56) (by decide +kernel)), inT4 (List.mem_of_getElem? (i := 57) (by decide +kernel)), _, rfl, rfl⟩
theorem vX11_172 : VL RX11 172 yX11_tapeTellsSpans 11 := ⟨inT4 (List.mem_of_getElem? (i := 59) (by decide +kernel)), inT4 (List.mem_of_getElem? (i := 61) (by decide +kernel)), List.mem_of_getElem? (i := 24) (by decide +kernel), _, rfl, rfl⟩
theorem vX11_176 : VL RX11 176 yX8_byteAt 8 := ⟨inT4 (List.mem_of_getElem? (i := 63) (by decide +kernel)), inT2 (List.mem_of_getElem? (i := 141) (by decide +kernel)), inT2 (List.mem_of_getElem? (i := 142) (by decide +kernel)), _, rfl, rfl⟩
theorem vX11_179 : VL RX11 179 yX11_weightsThatHold 11 := ⟨inT4 (List.mem_of_getElem? (i := 64) (by decide +kernel)), inT4 (List.mem_of_getElem? (i := 66) (by decide +kernel)), List.mem_of_getElem? (i := 25) (by decide +kernel), _, rfl, rfl⟩
theorem vX11_287 : SL RX11 287 yJ9_max_7cf53 := ⟨inT4 (List.mem_of_getElem? (i := 68) (by decide +kernel)), inT4 (List.mem_of_getElem? (i := 4) (by decide +kernel))⟩
theorem vX11_290 : VL RX11 290 yX4_blowAt 4 := ⟨inT4 (List.mem_of_getElem? (i := 69) (by decide +kernel)), inT4 (List.mem_of_getElem? (i := 18) (by decide +kernel)), inT4 (List.mem_of_getElem? (i := 19) (by decide +kernel)), _, rfl, rfl⟩
theorem vL_77 : VL RL 77 yX11_highest 11 := ⟨inT4 (List.mem_of_getElem? (i := 70) (by decide +kernel)), inT4 (List.mem_of_getElem? (i := 71) (by decide +kernel)), inT4 (List.mem_of_getElem? (i := 72) (by decide +kernel)), _, rfl, rfl⟩
theorem vX11_186 : VL RX11 186 yX4_greatestHeight 4 := ⟨inT4 (List.mem_of_getElem? (i := 74) (by decide +kernel)), inT4 (List.mem_of_getElem? (i := 75) (by decide +kernel)), inT4 (List.mem_of_getElem? (i := 76) (by decide +kernel)), _, rfl, rfl⟩
theorem vX4_110 : VL RX4 110 yX4_isWithin 4 := ⟨inT4 (List.mem_of_getElem? (i := 78) (by decide +kernel)), inT4 (List.mem_of_getElem? (i := 80) (by decide +kernel)), List.mem_of_getElem? (i := 26) (by decide +kernel), _, rfl, rfl⟩
theorem vL_82 : VL RL 82 yX11_recorded 11 := ⟨inT4 (List.mem_of_getElem? (i := 82) (by decide +kernel)), inT4 (List.mem_of_getElem? (i := 83) (by decide +kernel)), inT4 (List.mem_of_getElem? (i := 84) (by decide +kernel)), _, rfl, rfl⟩
theorem vL_87 : VL RL 87 yX11_pads 11 := ⟨inT4 (List.mem_of_getElem? (i := 86) (by decide +kernel)), inT4 (List.mem_of_getElem? (i := 87) (by decide +kernel)), inT4 (List.mem_of_getElem? (i := 88) (by decide +kernel)), _, rfl, rfl⟩
theorem vX11_190 : VL RX11 190 yX0_boxAt 0 := ⟨inT4 (List.mem_of_getElem? (i := 90) (by decide +kernel)), inT4 (List.mem_of_getElem? (i := 91) (by decide +kernel)), inT4 (List.mem_of_getElem? (i := 92) (by decide +kernel)), _, rfl, rfl⟩
theorem vX11_194 : VL RX11 194 yX7_readKinds 7 := ⟨inT4 (List.mem_of_getElem? (i := 94) (by decide +kernel)), inT4 (List.mem_of_getElem? (i := 95) (by decide +kernel)), inT4 (List.mem_of_getElem? (i := 96) (by decide +kernel)), _, rfl, rfl⟩
theorem vX7_39 : VL RX7 39 yX8_byteAt 8 := ⟨inT4 (List.mem_of_getElem? (i := 98) (by decide +kernel)), inT2 (List.mem_of_getElem? (i := 141) (by decide +kernel)), inT2 (List.mem_of_getElem? (i := 142) (by decide +kernel)), _, rfl, rfl⟩
theorem vX7_43 : VL RX7 43 yX0_foamAt 0 := ⟨inT4 (List.mem_of_getElem? (i := 99) (by decide +kernel)), inT3 (List.mem_of_getElem? (i := 126) (by decide +kernel)), inT3 (List.mem_of_getElem? (i := 127) (by decide +kernel)), _, rfl, rfl⟩
theorem vX11_201 : VL RX11 201 yX11_layKind 11 := ⟨inT4 (List.mem_of_getElem? (i := 100) (by decide +kernel)), inT4 (List.mem_of_getElem? (i := 102) (by decide +kernel)), List.mem_of_getElem? (i := 27) (by decide +kernel), _, rfl, rfl⟩
theorem vX11_293 : VL RX11 293 yX7_foamOf 7 := ⟨inT4 (List.mem_of_getElem? (i := 104) (by decide +kernel)), inT4 (List.mem_of_getElem? (i := 105) (by decide +kernel)), inT4 (List.mem_of_getElem? (i := 106) (by decide +kernel)), _, rfl, rfl⟩
theorem vX11_296 : VL RX11 296 yX7_thickOf 7 := ⟨inT4 (List.mem_of_getElem? (i := 108) (by decide +kernel)), inT4 (List.mem_of_getElem? (i := 109) (by decide +kernel)), inT4 (List.mem_of_getElem? (i := 110) (by decide +kernel)), _, rfl, rfl⟩
theorem vX11_299 : VL RX11 299 yX4_layFoam 4 := ⟨inT4 (List.mem_of_getElem? (i := 112) (by decide +kernel)), inT3 (List.mem_of_getElem? (i := 221) (by decide +kernel)), inT3 (List.mem_of_getElem? (i := 222) (by decide +kernel)), _, rfl, rfl⟩
theorem vX11_205 : VL RX11 205 yX7_judge 7 := ⟨inT4 (List.mem_of_getElem? (i := 113) (by decide +kernel)), inT4 (List.mem_of_getElem? (i := 114) (by decide +kernel)), inT4 (List.mem_of_getElem? (i := 115) (by decide +kernel)), _, rfl, rfl⟩
theorem vX11_209 : VL RX11 209 yX7_choose 7 := ⟨inT4 (List.mem_of_getElem? (i := 117) (by decide +kernel)), inT4 (List.mem_of_getElem? (i := 118) (by decide +kernel)), inT4 (List.mem_of_getElem? (i := 119) (by decide +kernel)), _, rfl, rfl⟩
theorem vX7_64 : VL RX7 64 yX7_choosePair 7 := ⟨inT4 (List.mem_of_getElem? (i := 121) (by decide +kernel)), inT4 (List.mem_of_getElem? (i := 123) (by decide +kernel)), List.mem_of_getElem? (i := 28) (by decide +kernel), _, rfl, rfl⟩
theorem vL_91 : VL RL 91 yX11_padAt 11 := ⟨inT4 (List.mem_of_getElem? (i := 125) (by decide +kernel)), inT4 (List.mem_of_getElem? (i := 126) (by decide +kernel)), inT4 (List.mem_of_getElem? (i := 127) (by decide +kernel)), _, rfl, rfl⟩
theorem vL_95 : VL RL 95 yX11_boxes 11 := ⟨inT4 (List.mem_of_getElem? (i := 129) (by decide +kernel)), inT4 (List.mem_of_getElem? (i := 130) (by decide +kernel)), inT4 (List.mem_of_getElem? (i := 131) (by decide +kernel)), _, rfl, rfl⟩
theorem vX11_219 : VL RX11 219 yX3_take 3 := ⟨inT4 (List.mem_of_getElem? (i := 133) (by decide +kernel)), inT4 (List.mem_of_getElem? (i := 134) (by decide +kernel)), inT4 (List.mem_of_getElem? (i := 135) (by decide +kernel)), _, rfl, rfl⟩
theorem vX3_31 : SL RX3 31 yJ9_min_7cf53 := ⟨inT4 (List.mem_of_getElem? (i := 137) (by decide +kernel)), inT2 (List.mem_of_getElem? (i := 138) (by decide +kernel))⟩
theorem vX3_38 : VL RX3 38 yX0_boxAt 0 := ⟨inT4 (List.mem_of_getElem? (i := 138) (by decide +kernel)), inT4 (List.mem_of_getElem? (i := 91) (by decide +kernel)), inT4 (List.mem_of_getElem? (i := 92) (by decide +kernel)), _, rfl, rfl⟩
theorem vX3_47 : VL RX3 47 yX0_thingAt 0 := ⟨inT4 (List.mem_of_getElem? (i := 139) (by decide +kernel)), inT3 (List.mem_of_getElem? (i := 115) (by decide +kernel)), inT3 (List.mem_of_getElem? (i := 116) (by decide +kernel)), _, rfl, rfl⟩
theorem vX3_51 : VL RX3 51 yX9_goesInto 9 := ⟨inT4 (List.mem_of_getElem? (i := 140) (by decide +kernel)), inT4 (List.mem_of_getElem? (i := 141) (by decide +kernel)), inT4 (List.mem_of_getElem? (i := 142) (by decide +kernel)), _, rfl, rfl⟩
theorem vX9_43 : VL RX9 43 yX9_fits 9 := ⟨inT4 (List.mem_of_getElem? (i := 144) (by decide +kernel)), inT4 (List.mem_of_getElem? (i := 146) (by decide +kernel)), List.mem_of_getElem? (i := 29) (by decide +kernel), _, rfl, rfl⟩
theorem vX11_223 : VL RX11 223 yX3_choose 3 := ⟨inT4 (List.mem_of_getElem? (i := 148) (by decide +kernel)), inT4 (List.mem_of_getElem? (i := 149) (by decide +kernel)), inT4 (List.mem_of_getElem? (i := 150) (by decide +kernel)), _, rfl, rfl⟩
theorem vX3_57 : SL RX3 57 yJ6_bitCount_0f7a4 := ⟨inT4 (List.mem_of_getElem? (i := 152) (by decide +kernel)), inT4 (List.mem_of_getElem? (i := 153) (by decide +kernel))⟩
theorem vX3_63 : VL RX3 63 yX3_costOf 3 := ⟨inT4 (List.mem_of_getElem? (i := 158) (by decide +kernel)), inT4 (List.mem_of_getElem? (i := 160) (by decide +kernel)), List.mem_of_getElem? (i := 30) (by decide +kernel), _, rfl, rfl⟩
theorem vX3_66 : VL RX3 66 yX3_cheapestOf 3 := ⟨inT4 (List.mem_of_getElem? (i := 162) (by decide +kernel)), inT4 (List.mem_of_getElem? (i := 164) (by decide +kernel)), List.mem_of_getElem? (i := 31) (by decide +kernel), _, rfl, rfl⟩
theorem vL_99 : VL RL 99 yX11_boxSet 11 := ⟨inT4 (List.mem_of_getElem? (i := 166) (by decide +kernel)), inT4 (List.mem_of_getElem? (i := 167) (by decide +kernel)), inT4 (List.mem_of_getElem? (i := 168) (by decide +kernel)), _, rfl, rfl⟩
theorem vL_103 : VL RL 103 yX11_stack 11 := ⟨inT4 (List.mem_of_getElem? (i := 170) (by decide +kernel)), inT4 (List.mem_of_getElem? (i := 171) (by decide +kernel)), inT4 (List.mem_of_getElem? (i := 172) (by decide +kernel)), _, rfl, rfl⟩
theorem vX11_234 : VL RX11 234 yX11_dayOfFall 11 := ⟨inT4 (List.mem_of_getElem? (i := 175) (by decide +kernel)), inT4 (List.mem_of_getElem? (i := 177) (by decide +kernel)), List.mem_of_getElem? (i := 32) (by decide +kernel), _, rfl, rfl⟩
theorem vL_116 : VL RL 116 yX11_proved 11 := ⟨inT4 (List.mem_of_getElem? (i := 179) (by decide +kernel)), inT4 (List.mem_of_getElem? (i := 180) (by decide +kernel)), inT4 (List.mem_of_getElem? (i := 181) (by decide +kernel)), _, rfl, rfl⟩
theorem vX11_262 : SL RX11 262 yX11_power := ⟨inT4 (List.mem_of_getElem? (i := 184) (by decide +kernel)), inT4 (List.mem_of_getElem? (i := 185) (by decide +kernel))⟩
theorem vL_120 : VL RL 120 yX11_needed 11 := ⟨inT4 (List.mem_of_getElem? (i := 187) (by decide +kernel)), inT4 (List.mem_of_getElem? (i := 188) (by decide +kernel)), inT4 (List.mem_of_getElem? (i := 189) (by decide +kernel)), _, rfl, rfl⟩
theorem vL_124 : VL RL 124 yX11_count 11 := ⟨inT4 (List.mem_of_getElem? (i := 193) (by decide +kernel)), inT4 (List.mem_of_getElem? (i := 194) (by decide +kernel)), inT4 (List.mem_of_getElem? (i := 195) (by decide +kernel)), _, rfl, rfl⟩
theorem vL_107 : SL RL 107 yL_journey := ⟨inT4 (List.mem_of_getElem? (i := 197) (by decide +kernel)), inT4 (List.mem_of_getElem? (i := 198) (by decide +kernel))⟩
theorem vL_7 : VL RL 7 yX11_journey 11 := ⟨inT4 (List.mem_of_getElem? (i := 201) (by decide +kernel)), inT4 (List.mem_of_getElem? (i := 202) (by decide +kernel)), inT4 (List.mem_of_getElem? (i := 203) (by decide +kernel)), _, rfl, rfl⟩
theorem vX11_237 : VL RX11 237 yX11_tapeTellsLegs 11 := ⟨inT4 (List.mem_of_getElem? (i := 205) (by decide +kernel)), inT4 (List.mem_of_getElem? (i := 207) (by decide +kernel)), List.mem_of_getElem? (i := 33) (by decide +kernel), _, rfl, rfl⟩
theorem vX11_249 : VL RX11 249 yX11_sharesOfLeg 11 := ⟨inT4 (List.mem_of_getElem? (i := 209) (by decide +kernel)), inT4 (List.mem_of_getElem? (i := 211) (by decide +kernel)), List.mem_of_getElem? (i := 34) (by decide +kernel), _, rfl, rfl⟩
theorem vX11_306 : VL RX11 306 yX11_shareOfLeg 11 := ⟨inT4 (List.mem_of_getElem? (i := 213) (by decide +kernel)), inT4 (List.mem_of_getElem? (i := 215) (by decide +kernel)), List.mem_of_getElem? (i := 35) (by decide +kernel), _, rfl, rfl⟩
theorem vX11_303 : VL RX11 303 yX11_heightOfLeg 11 := ⟨inT4 (List.mem_of_getElem? (i := 217) (by decide +kernel)), inT4 (List.mem_of_getElem? (i := 219) (by decide +kernel)), List.mem_of_getElem? (i := 36) (by decide +kernel), _, rfl, rfl⟩
theorem vX11_256 : VL RX11 256 yX11_heldSharesOfLeg 11 := ⟨inT5 (List.mem_of_getElem? (i := 46) (by decide +kernel)), inT5 (List.mem_of_getElem? (i := 48) (by decide +kernel)), List.mem_of_getElem? (i := 38) (by decide +kernel), _, rfl, rfl⟩
theorem vL_18 : IL RL 18 yX12_init := ⟨inT5 (List.mem_of_getElem? (i := 52) (by decide +kernel)), inT5 (List.mem_of_getElem? (i := 53) (by decide +kernel)), rfl⟩
theorem oX12_1 : Cond.methodLink RX12 1 Lib.objectInit ∈ lw_tbl := inT5 (List.mem_of_getElem? (i := 55) (by decide +kernel))
theorem vL_113 : VL RL 113 yX12_thrown 12 := ⟨inT5 (List.mem_of_getElem? (i := 163) (by decide +kernel)), inT5 (List.mem_of_getElem? (i := 164) (by decide +kernel)), inT5 (List.mem_of_getElem? (i := 165) (by decide +kernel)), _, rfl, rfl⟩
theorem vL_23 : VL RL 23 yX12_feed 12 := ⟨inT5 (List.mem_of_getElem? (i := 167) (by decide +kernel)), inT5 (List.mem_of_getElem? (i := 168) (by decide +kernel)), inT5 (List.mem_of_getElem? (i := 169) (by decide +kernel)), _, rfl, rfl⟩
theorem vX12_61 : VL RX12 61 yX12_come 12 := ⟨inT5 (List.mem_of_getElem? (i := 171) (by decide +kernel)), inT5 (List.mem_of_getElem? (i := 173) (by decide +kernel)), List.mem_of_getElem? (i := 39) (by decide +kernel), _, rfl, rfl⟩
theorem vL_28 : VL RL 28 yX12_end 12 := ⟨inT5 (List.mem_of_getElem? (i := 175) (by decide +kernel)), inT5 (List.mem_of_getElem? (i := 176) (by decide +kernel)), inT5 (List.mem_of_getElem? (i := 177) (by decide +kernel)), _, rfl, rfl⟩
theorem vL_33 : VL RL 33 yX12_next 12 := ⟨inT5 (List.mem_of_getElem? (i := 179) (by decide +kernel)), inT5 (List.mem_of_getElem? (i := 180) (by decide +kernel)), inT5 (List.mem_of_getElem? (i := 181) (by decide +kernel)), _, rfl, rfl⟩
theorem vX12_65 : SL RX12 65 yX12_isIn := ⟨inT5 (List.mem_of_getElem? (i := 183) (by decide +kernel)), inT5 (List.mem_of_getElem? (i := 184) (by decide +kernel))⟩
theorem vL_38 : VL RL 38 yX12_book 12 := ⟨inT5 (List.mem_of_getElem? (i := 186) (by decide +kernel)), inT5 (List.mem_of_getElem? (i := 187) (by decide +kernel)), inT5 (List.mem_of_getElem? (i := 188) (by decide +kernel)), _, rfl, rfl⟩
theorem vX12_201 : VL RX12 201 yX12_take 12 := ⟨inT5 (List.mem_of_getElem? (i := 190) (by decide +kernel)), inT5 (List.mem_of_getElem? (i := 192) (by decide +kernel)), List.mem_of_getElem? (i := 40) (by decide +kernel), _, rfl, rfl⟩
theorem vX12_154 : SL RX12 154 yX12_at := ⟨inT5 (List.mem_of_getElem? (i := 194) (by decide +kernel)), inT5 (List.mem_of_getElem? (i := 195) (by decide +kernel))⟩
theorem vX12_148 : VL RX12 148 yX12_go 12 := ⟨inT5 (List.mem_of_getElem? (i := 197) (by decide +kernel)), inT5 (List.mem_of_getElem? (i := 199) (by decide +kernel)), List.mem_of_getElem? (i := 41) (by decide +kernel), _, rfl, rfl⟩
theorem vX12_84 : SL RX12 84 yX12_isLetter := ⟨inT5 (List.mem_of_getElem? (i := 201) (by decide +kernel)), inT5 (List.mem_of_getElem? (i := 202) (by decide +kernel))⟩
theorem vX12_88 : SL RX12 88 yX12_isDigit := ⟨inT5 (List.mem_of_getElem? (i := 204) (by decide +kernel)), inT5 (List.mem_of_getElem? (i := 205) (by decide +kernel))⟩
theorem vX12_101 : VL RX12 101 yX12_byteAt 12 := ⟨inT5 (List.mem_of_getElem? (i := 207) (by decide +kernel)), inT5 (List.mem_of_getElem? (i := 209) (by decide +kernel)), List.mem_of_getElem? (i := 42) (by decide +kernel), _, rfl, rfl⟩
theorem vX12_208 : VL RX12 208 yX12_readLine 12 := ⟨inT5 (List.mem_of_getElem? (i := 213) (by decide +kernel)), inT5 (List.mem_of_getElem? (i := 215) (by decide +kernel)), List.mem_of_getElem? (i := 43) (by decide +kernel), _, rfl, rfl⟩
theorem vX12_119 : VL RX12 119 yX12_isFoam 12 := ⟨inT5 (List.mem_of_getElem? (i := 217) (by decide +kernel)), inT5 (List.mem_of_getElem? (i := 219) (by decide +kernel)), List.mem_of_getElem? (i := 44) (by decide +kernel), _, rfl, rfl⟩
theorem vX12_109 : SL RX12 109 yX12_spelt := ⟨inT5 (List.mem_of_getElem? (i := 221) (by decide +kernel)), inT5 (List.mem_of_getElem? (i := 222) (by decide +kernel))⟩
theorem vX12_113 : VL RX12 113 yX12_isKey 12 := ⟨inT5 (List.mem_of_getElem? (i := 224) (by decide +kernel)), inT5 (List.mem_of_getElem? (i := 226) (by decide +kernel)), List.mem_of_getElem? (i := 45) (by decide +kernel), _, rfl, rfl⟩
theorem vX12_186 : VL RX12 186 yX12_readFoam 12 := ⟨inT5 (List.mem_of_getElem? (i := 228) (by decide +kernel)), inT5 (List.mem_of_getElem? (i := 230) (by decide +kernel)), List.mem_of_getElem? (i := 46) (by decide +kernel), _, rfl, rfl⟩
theorem vX12_145 : VL RX12 145 yX12_bad 12 := ⟨inT5 (List.mem_of_getElem? (i := 232) (by decide +kernel)), inT5 (List.mem_of_getElem? (i := 234) (by decide +kernel)), List.mem_of_getElem? (i := 47) (by decide +kernel), _, rfl, rfl⟩
theorem vX12_174 : VL RX12 174 yX12_readName 12 := ⟨inT5 (List.mem_of_getElem? (i := 236) (by decide +kernel)), inT5 (List.mem_of_getElem? (i := 238) (by decide +kernel)), List.mem_of_getElem? (i := 48) (by decide +kernel), _, rfl, rfl⟩
theorem vX12_157 : VL RX12 157 yX12_isTaken 12 := ⟨inT6 (List.mem_of_getElem? (i := 0) (by decide +kernel)), inT6 (List.mem_of_getElem? (i := 2) (by decide +kernel)), List.mem_of_getElem? (i := 49) (by decide +kernel), _, rfl, rfl⟩
theorem vX12_123 : VL RX12 123 yX12_isThing 12 := ⟨inT6 (List.mem_of_getElem? (i := 4) (by decide +kernel)), inT6 (List.mem_of_getElem? (i := 6) (by decide +kernel)), List.mem_of_getElem? (i := 50) (by decide +kernel), _, rfl, rfl⟩
theorem vX12_126 : VL RX12 126 yX12_isBox 12 := ⟨inT6 (List.mem_of_getElem? (i := 8) (by decide +kernel)), inT6 (List.mem_of_getElem? (i := 10) (by decide +kernel)), List.mem_of_getElem? (i := 51) (by decide +kernel), _, rfl, rfl⟩
theorem vX12_129 : VL RX12 129 yX12_isPad 12 := ⟨inT6 (List.mem_of_getElem? (i := 12) (by decide +kernel)), inT6 (List.mem_of_getElem? (i := 14) (by decide +kernel)), List.mem_of_getElem? (i := 52) (by decide +kernel), _, rfl, rfl⟩
theorem vX12_132 : VL RX12 132 yX12_isDrop 12 := ⟨inT6 (List.mem_of_getElem? (i := 16) (by decide +kernel)), inT6 (List.mem_of_getElem? (i := 18) (by decide +kernel)), List.mem_of_getElem? (i := 53) (by decide +kernel), _, rfl, rfl⟩
theorem vX12_135 : SL RX12 135 yX12_weighs := ⟨inT6 (List.mem_of_getElem? (i := 20) (by decide +kernel)), inT6 (List.mem_of_getElem? (i := 21) (by decide +kernel))⟩
theorem vX12_160 : VL RX12 160 yX12_find 12 := ⟨inT6 (List.mem_of_getElem? (i := 24) (by decide +kernel)), inT6 (List.mem_of_getElem? (i := 26) (by decide +kernel)), List.mem_of_getElem? (i := 54) (by decide +kernel), _, rfl, rfl⟩
theorem vX12_177 : VL RX12 177 yX12_readPoint 12 := ⟨inT6 (List.mem_of_getElem? (i := 28) (by decide +kernel)), inT6 (List.mem_of_getElem? (i := 30) (by decide +kernel)), List.mem_of_getElem? (i := 55) (by decide +kernel), _, rfl, rfl⟩
theorem vX12_163 : VL RX12 163 yX12_readNumber 12 := ⟨inT6 (List.mem_of_getElem? (i := 32) (by decide +kernel)), inT6 (List.mem_of_getElem? (i := 34) (by decide +kernel)), List.mem_of_getElem? (i := 56) (by decide +kernel), _, rfl, rfl⟩
theorem vX12_167 : VL RX12 167 yX12_readInto 12 := ⟨inT6 (List.mem_of_getElem? (i := 36) (by decide +kernel)), inT6 (List.mem_of_getElem? (i := 38) (by decide +kernel)), List.mem_of_getElem? (i := 57) (by decide +kernel), _, rfl, rfl⟩
theorem vX12_170 : VL RX12 170 yX12_isSign 12 := ⟨inT6 (List.mem_of_getElem? (i := 40) (by decide +kernel)), inT6 (List.mem_of_getElem? (i := 42) (by decide +kernel)), List.mem_of_getElem? (i := 58) (by decide +kernel), _, rfl, rfl⟩
theorem vX12_180 : VL RX12 180 yX12_readKey 12 := ⟨inT6 (List.mem_of_getElem? (i := 45) (by decide +kernel)), inT6 (List.mem_of_getElem? (i := 47) (by decide +kernel)), List.mem_of_getElem? (i := 59) (by decide +kernel), _, rfl, rfl⟩
theorem vX12_189 : VL RX12 189 yX12_readThing 12 := ⟨inT6 (List.mem_of_getElem? (i := 49) (by decide +kernel)), inT6 (List.mem_of_getElem? (i := 51) (by decide +kernel)), List.mem_of_getElem? (i := 60) (by decide +kernel), _, rfl, rfl⟩
theorem vX12_192 : VL RX12 192 yX12_readBox 12 := ⟨inT6 (List.mem_of_getElem? (i := 53) (by decide +kernel)), inT6 (List.mem_of_getElem? (i := 55) (by decide +kernel)), List.mem_of_getElem? (i := 61) (by decide +kernel), _, rfl, rfl⟩
theorem vX12_195 : VL RX12 195 yX12_readPad 12 := ⟨inT6 (List.mem_of_getElem? (i := 57) (by decide +kernel)), inT6 (List.mem_of_getElem? (i := 59) (by decide +kernel)), List.mem_of_getElem? (i := 62) (by decide +kernel), _, rfl, rfl⟩
theorem vX12_183 : VL RX12 183 yX12_readTold 12 := ⟨inT6 (List.mem_of_getElem? (i := 61) (by decide +kernel)), inT6 (List.mem_of_getElem? (i := 63) (by decide +kernel)), List.mem_of_getElem? (i := 63) (by decide +kernel), _, rfl, rfl⟩
theorem vX12_198 : VL RX12 198 yX12_readDrop 12 := ⟨inT6 (List.mem_of_getElem? (i := 65) (by decide +kernel)), inT6 (List.mem_of_getElem? (i := 67) (by decide +kernel)), List.mem_of_getElem? (i := 64) (by decide +kernel), _, rfl, rfl⟩
theorem vL_42 : VL RL 42 yX12_fault 12 := ⟨inT6 (List.mem_of_getElem? (i := 69) (by decide +kernel)), inT6 (List.mem_of_getElem? (i := 70) (by decide +kernel)), inT6 (List.mem_of_getElem? (i := 71) (by decide +kernel)), _, rfl, rfl⟩
theorem vL_47 : VL RL 47 yX12_many 12 := ⟨inT6 (List.mem_of_getElem? (i := 73) (by decide +kernel)), inT6 (List.mem_of_getElem? (i := 74) (by decide +kernel)), inT6 (List.mem_of_getElem? (i := 75) (by decide +kernel)), _, rfl, rfl⟩
theorem vX12_214 : VL RX12 214 yX12_isBooked 12 := ⟨inT6 (List.mem_of_getElem? (i := 77) (by decide +kernel)), inT6 (List.mem_of_getElem? (i := 79) (by decide +kernel)), List.mem_of_getElem? (i := 65) (by decide +kernel), _, rfl, rfl⟩
theorem vX12_217 : VL RX12 217 yX12_of 12 := ⟨inT6 (List.mem_of_getElem? (i := 81) (by decide +kernel)), inT6 (List.mem_of_getElem? (i := 83) (by decide +kernel)), List.mem_of_getElem? (i := 66) (by decide +kernel), _, rfl, rfl⟩
theorem vL_52 : VL RL 52 yX12_push 12 := ⟨inT6 (List.mem_of_getElem? (i := 85) (by decide +kernel)), inT6 (List.mem_of_getElem? (i := 86) (by decide +kernel)), inT6 (List.mem_of_getElem? (i := 87) (by decide +kernel)), _, rfl, rfl⟩
theorem vX12_223 : VL RX12 223 yX12_has 12 := ⟨inT6 (List.mem_of_getElem? (i := 89) (by decide +kernel)), inT6 (List.mem_of_getElem? (i := 91) (by decide +kernel)), List.mem_of_getElem? (i := 67) (by decide +kernel), _, rfl, rfl⟩
theorem vX12_226 : VL RX12 226 yX12_lay 12 := ⟨inT6 (List.mem_of_getElem? (i := 93) (by decide +kernel)), inT6 (List.mem_of_getElem? (i := 95) (by decide +kernel)), List.mem_of_getElem? (i := 68) (by decide +kernel), _, rfl, rfl⟩
theorem vL_56 : VL RL 56 yX12_squeeze 12 := ⟨inT6 (List.mem_of_getElem? (i := 97) (by decide +kernel)), inT6 (List.mem_of_getElem? (i := 98) (by decide +kernel)), inT6 (List.mem_of_getElem? (i := 99) (by decide +kernel)), _, rfl, rfl⟩
theorem vX12_248 : VL RX12 248 yX12_isDropped 12 := ⟨inT6 (List.mem_of_getElem? (i := 101) (by decide +kernel)), inT6 (List.mem_of_getElem? (i := 103) (by decide +kernel)), List.mem_of_getElem? (i := 69) (by decide +kernel), _, rfl, rfl⟩
theorem vX12_252 : VL RX12 252 yX12_takePad 12 := ⟨inT6 (List.mem_of_getElem? (i := 105) (by decide +kernel)), inT6 (List.mem_of_getElem? (i := 107) (by decide +kernel)), List.mem_of_getElem? (i := 70) (by decide +kernel), _, rfl, rfl⟩
theorem vX12_255 : VL RX12 255 yX12_weightOf 12 := ⟨inT6 (List.mem_of_getElem? (i := 109) (by decide +kernel)), inT6 (List.mem_of_getElem? (i := 111) (by decide +kernel)), List.mem_of_getElem? (i := 71) (by decide +kernel), _, rfl, rfl⟩
theorem vX12_258 : VL RX12 258 yX12_squeezed 12 := ⟨inT6 (List.mem_of_getElem? (i := 113) (by decide +kernel)), inT6 (List.mem_of_getElem? (i := 115) (by decide +kernel)), List.mem_of_getElem? (i := 72) (by decide +kernel), _, rfl, rfl⟩
theorem vL_60 : VL RL 60 yX12_blow 12 := ⟨inT6 (List.mem_of_getElem? (i := 119) (by decide +kernel)), inT6 (List.mem_of_getElem? (i := 120) (by decide +kernel)), inT6 (List.mem_of_getElem? (i := 121) (by decide +kernel)), _, rfl, rfl⟩
theorem vX12_262 : VL RX12 262 yX12_squeeze 12 := ⟨inT6 (List.mem_of_getElem? (i := 123) (by decide +kernel)), inT6 (List.mem_of_getElem? (i := 98) (by decide +kernel)), inT6 (List.mem_of_getElem? (i := 99) (by decide +kernel)), _, rfl, rfl⟩
theorem vX12_266 : VL RX12 266 yX12_blowAt 12 := ⟨inT6 (List.mem_of_getElem? (i := 124) (by decide +kernel)), inT6 (List.mem_of_getElem? (i := 126) (by decide +kernel)), List.mem_of_getElem? (i := 73) (by decide +kernel), _, rfl, rfl⟩
theorem vL_64 : VL RL 64 yX12_again 12 := ⟨inT6 (List.mem_of_getElem? (i := 131) (by decide +kernel)), inT6 (List.mem_of_getElem? (i := 132) (by decide +kernel)), inT6 (List.mem_of_getElem? (i := 133) (by decide +kernel)), _, rfl, rfl⟩
theorem vX12_270 : VL RX12 270 yX12_markOf 12 := ⟨inT6 (List.mem_of_getElem? (i := 135) (by decide +kernel)), inT6 (List.mem_of_getElem? (i := 137) (by decide +kernel)), List.mem_of_getElem? (i := 74) (by decide +kernel), _, rfl, rfl⟩
theorem vX12_273 : VL RX12 273 yX12_holds 12 := ⟨inT6 (List.mem_of_getElem? (i := 139) (by decide +kernel)), inT6 (List.mem_of_getElem? (i := 141) (by decide +kernel)), List.mem_of_getElem? (i := 75) (by decide +kernel), _, rfl, rfl⟩
theorem vX12_276 : VL RX12 276 yX12_keepsOf 12 := ⟨inT6 (List.mem_of_getElem? (i := 143) (by decide +kernel)), inT6 (List.mem_of_getElem? (i := 145) (by decide +kernel)), List.mem_of_getElem? (i := 76) (by decide +kernel), _, rfl, rfl⟩
theorem vL_68 : VL RL 68 yX12_breaks 12 := ⟨inT6 (List.mem_of_getElem? (i := 147) (by decide +kernel)), inT6 (List.mem_of_getElem? (i := 148) (by decide +kernel)), inT6 (List.mem_of_getElem? (i := 149) (by decide +kernel)), _, rfl, rfl⟩
theorem vL_72 : VL RL 72 yX12_breaksAt 12 := ⟨inT6 (List.mem_of_getElem? (i := 151) (by decide +kernel)), inT6 (List.mem_of_getElem? (i := 152) (by decide +kernel)), inT6 (List.mem_of_getElem? (i := 153) (by decide +kernel)), _, rfl, rfl⟩
theorem vL_76 : VL RL 76 yX12_spans 12 := ⟨inT6 (List.mem_of_getElem? (i := 155) (by decide +kernel)), inT6 (List.mem_of_getElem? (i := 156) (by decide +kernel)), inT6 (List.mem_of_getElem? (i := 157) (by decide +kernel)), _, rfl, rfl⟩
theorem vL_81 : VL RL 81 yX12_highest 12 := ⟨inT6 (List.mem_of_getElem? (i := 159) (by decide +kernel)), inT6 (List.mem_of_getElem? (i := 160) (by decide +kernel)), inT6 (List.mem_of_getElem? (i := 161) (by decide +kernel)), _, rfl, rfl⟩
theorem vL_86 : VL RL 86 yX12_recorded 12 := ⟨inT6 (List.mem_of_getElem? (i := 163) (by decide +kernel)), inT6 (List.mem_of_getElem? (i := 164) (by decide +kernel)), inT6 (List.mem_of_getElem? (i := 165) (by decide +kernel)), _, rfl, rfl⟩
theorem vX12_279 : VL RX12 279 yX12_above 12 := ⟨inT6 (List.mem_of_getElem? (i := 167) (by decide +kernel)), inT6 (List.mem_of_getElem? (i := 169) (by decide +kernel)), List.mem_of_getElem? (i := 77) (by decide +kernel), _, rfl, rfl⟩
theorem vL_90 : VL RL 90 yX12_pads 12 := ⟨inT6 (List.mem_of_getElem? (i := 171) (by decide +kernel)), inT6 (List.mem_of_getElem? (i := 172) (by decide +kernel)), inT6 (List.mem_of_getElem? (i := 173) (by decide +kernel)), _, rfl, rfl⟩
theorem vL_94 : VL RL 94 yX12_padAt 12 := ⟨inT6 (List.mem_of_getElem? (i := 175) (by decide +kernel)), inT6 (List.mem_of_getElem? (i := 176) (by decide +kernel)), inT6 (List.mem_of_getElem? (i := 177) (by decide +kernel)), _, rfl, rfl⟩
theorem vL_98 : VL RL 98 yX12_boxes 12 := ⟨inT6 (List.mem_of_getElem? (i := 179) (by decide +kernel)), inT6 (List.mem_of_getElem? (i := 180) (by decide +kernel)), inT6 (List.mem_of_getElem? (i := 181) (by decide +kernel)), _, rfl, rfl⟩
theorem vX12_290 : VL RX12 290 yX12_costOf 12 := ⟨inT6 (List.mem_of_getElem? (i := 183) (by decide +kernel)), inT6 (List.mem_of_getElem? (i := 185) (by decide +kernel)), List.mem_of_getElem? (i := 78) (by decide +kernel), _, rfl, rfl⟩
theorem vX12_296 : VL RX12 296 yX12_goesInto 12 := ⟨inT6 (List.mem_of_getElem? (i := 187) (by decide +kernel)), inT6 (List.mem_of_getElem? (i := 189) (by decide +kernel)), List.mem_of_getElem? (i := 79) (by decide +kernel), _, rfl, rfl⟩
theorem vX12_287 : VL RX12 287 yX12_fits 12 := ⟨inT6 (List.mem_of_getElem? (i := 191) (by decide +kernel)), inT6 (List.mem_of_getElem? (i := 193) (by decide +kernel)), List.mem_of_getElem? (i := 80) (by decide +kernel), _, rfl, rfl⟩
theorem vL_102 : VL RL 102 yX12_boxSet 12 := ⟨inT6 (List.mem_of_getElem? (i := 195) (by decide +kernel)), inT6 (List.mem_of_getElem? (i := 196) (by decide +kernel)), inT6 (List.mem_of_getElem? (i := 197) (by decide +kernel)), _, rfl, rfl⟩
theorem vL_106 : VL RL 106 yX12_stack 12 := ⟨inT6 (List.mem_of_getElem? (i := 199) (by decide +kernel)), inT6 (List.mem_of_getElem? (i := 200) (by decide +kernel)), inT6 (List.mem_of_getElem? (i := 201) (by decide +kernel)), _, rfl, rfl⟩
theorem vL_112 : VL RL 112 yX12_journey 12 := ⟨inT6 (List.mem_of_getElem? (i := 203) (by decide +kernel)), inT6 (List.mem_of_getElem? (i := 204) (by decide +kernel)), inT6 (List.mem_of_getElem? (i := 205) (by decide +kernel)), _, rfl, rfl⟩
theorem vX12_299 : VL RX12 299 yX12_heightAt 12 := ⟨inT6 (List.mem_of_getElem? (i := 207) (by decide +kernel)), inT6 (List.mem_of_getElem? (i := 209) (by decide +kernel)), List.mem_of_getElem? (i := 81) (by decide +kernel), _, rfl, rfl⟩
theorem vL_119 : VL RL 119 yX12_proved 12 := ⟨inT6 (List.mem_of_getElem? (i := 212) (by decide +kernel)), inT6 (List.mem_of_getElem? (i := 213) (by decide +kernel)), inT6 (List.mem_of_getElem? (i := 214) (by decide +kernel)), _, rfl, rfl⟩
theorem vX12_304 : SL RX12 304 yX12_power := ⟨inT6 (List.mem_of_getElem? (i := 216) (by decide +kernel)), inT6 (List.mem_of_getElem? (i := 217) (by decide +kernel))⟩
theorem vL_123 : VL RL 123 yX12_needed 12 := ⟨inT6 (List.mem_of_getElem? (i := 219) (by decide +kernel)), inT6 (List.mem_of_getElem? (i := 220) (by decide +kernel)), inT6 (List.mem_of_getElem? (i := 221) (by decide +kernel)), _, rfl, rfl⟩
theorem vL_127 : VL RL 127 yX12_count 12 := ⟨inT6 (List.mem_of_getElem? (i := 224) (by decide +kernel)), inT6 (List.mem_of_getElem? (i := 225) (by decide +kernel)), inT6 (List.mem_of_getElem? (i := 226) (by decide +kernel)), _, rfl, rfl⟩
theorem oI_inst : Cond.instanceMethod Lib.objectInit ∈ lw_tbl := inT1 (List.mem_of_getElem? (i := 30) (by decide +kernel))
theorem oI_code : Cond.code Lib.objectInit ⟨#[0xb1]⟩ 1 none ∈ lw_tbl := inT1 (List.mem_of_getElem? (i := 31) (by decide +kernel))
theorem nL_8 : NL RL 8 11 12 [.null, .null, .null, .null, .null, .null, .null, .null, .int 0, .int 0, .int 0, .int 0] := ⟨RX11, TX11, tyX11, rfl, layX11, tyX11_ok, inT1 (List.mem_of_getElem? (i := 24) (by decide +kernel)), inT1 (List.mem_of_getElem? (i := 25) (by decide +kernel)), inT1 (List.mem_of_getElem? (i := 1) (by decide +kernel)), rfl, by decide +kernel, rfl⟩
theorem nX11_7 : NL RX11 7 8 2 [.null, .int 0] := ⟨RX8, TX8, tyX8, rfl, layX8, tyX8_ok, inT1 (List.mem_of_getElem? (i := 32) (by decide +kernel)), inT1 (List.mem_of_getElem? (i := 33) (by decide +kernel)), inT1 (List.mem_of_getElem? (i := 2) (by decide +kernel)), rfl, by decide +kernel, rfl⟩
theorem nX11_16 : NL RX11 16 1 9 [.null, .null, .null, .null, .int 0, .int 0, .int 0, .int 0, .int 0] := ⟨RX1, TX1, tyX1, rfl, layX1, tyX1_ok, inT1 (List.mem_of_getElem? (i := 50) (by decide +kernel)), inT1 (List.mem_of_getElem? (i := 51) (by decide +kernel)), inT1 (List.mem_of_getElem? (i := 3) (by decide +kernel)), rfl, by decide +kernel, rfl⟩
theorem nX1_11 : NL RX1 11 10 6 [.null, .null, .null, .null, .int 0, .int 0] := ⟨RX10, TX10, tyX10, rfl, layX10, tyX10_ok, inT1 (List.mem_of_getElem? (i := 56) (by decide +kernel)), inT1 (List.mem_of_getElem? (i := 57) (by decide +kernel)), inT1 (List.mem_of_getElem? (i := 4) (by decide +kernel)), rfl, by decide +kernel, rfl⟩
theorem nX11_23 : NL RX11 23 0 10 [.null, .null, .null, .null, .int 0, .int 0, .int 0, .int 0, .int 0, .int 0] := ⟨RX0, TX0, tyX0, rfl, layX0, tyX0_ok, inT1 (List.mem_of_getElem? (i := 166) (by decide +kernel)), inT1 (List.mem_of_getElem? (i := 168) (by decide +kernel)), inT1 (List.mem_of_getElem? (i := 9) (by decide +kernel)), rfl, by decide +kernel, rfl⟩
theorem qX11_23 : Cond.classLink RX11 23 "FoamArms$Book" ∈ lw_tbl := inT1 (List.mem_of_getElem? (i := 166) (by decide +kernel))
theorem qX0_9 : Cond.classLink RX0 9 "FoamArms$Foam" ∈ lw_tbl := inT1 (List.mem_of_getElem? (i := 173) (by decide +kernel))
theorem qX0_15 : Cond.classLink RX0 15 "FoamArms$Thing" ∈ lw_tbl := inT1 (List.mem_of_getElem? (i := 175) (by decide +kernel))
theorem qX0_21 : Cond.classLink RX0 21 "FoamArms$Box" ∈ lw_tbl := inT1 (List.mem_of_getElem? (i := 177) (by decide +kernel))
theorem qX0_27 : Cond.classLink RX0 27 "FoamArms$Drop" ∈ lw_tbl := inT1 (List.mem_of_getElem? (i := 179) (by decide +kernel))
theorem nX11_34 : NL RX11 34 4 8 [.null, .null, .null, .int 0, .long 0, .long 0, .int 0, .int 0] := ⟨RX4, TX4, tyX4, rfl, layX4, tyX4_ok, inT1 (List.mem_of_getElem? (i := 225) (by decide +kernel)), inT1 (List.mem_of_getElem? (i := 226) (by decide +kernel)), inT1 (List.mem_of_getElem? (i := 10) (by decide +kernel)), rfl, by decide +kernel, rfl⟩
theorem nX11_41 : NL RX11 41 7 7 [.null, .null, .null, .null, .null, .null, .int 0] := ⟨RX7, TX7, tyX7, rfl, layX7, tyX7_ok, inT2 (List.mem_of_getElem? (i := 17) (by decide +kernel)), inT2 (List.mem_of_getElem? (i := 18) (by decide +kernel)), inT1 (List.mem_of_getElem? (i := 11) (by decide +kernel)), rfl, by decide +kernel, rfl⟩
theorem nX11_48 : NL RX11 48 3 5 [.null, .null, .int 0, .int 0, .int 0] := ⟨RX3, TX3, tyX3, rfl, layX3, tyX3_ok, inT2 (List.mem_of_getElem? (i := 47) (by decide +kernel)), inT2 (List.mem_of_getElem? (i := 48) (by decide +kernel)), inT1 (List.mem_of_getElem? (i := 12) (by decide +kernel)), rfl, by decide +kernel, rfl⟩
theorem nX1_1 : NL RX1 1 0 10 [.null, .null, .null, .null, .int 0, .int 0, .int 0, .int 0, .int 0, .int 0] := ⟨RX0, TX0, tyX0, rfl, layX0, tyX0_ok, inT2 (List.mem_of_getElem? (i := 131) (by decide +kernel)), inT1 (List.mem_of_getElem? (i := 168) (by decide +kernel)), inT1 (List.mem_of_getElem? (i := 9) (by decide +kernel)), rfl, by decide +kernel, rfl⟩
theorem nX1_106 : NL RX1 106 6 5 [.null, .null, .int 0, .int 0, .int 0] := ⟨RX6, TX6, tyX6, rfl, layX6, tyX6_ok, inT2 (List.mem_of_getElem? (i := 210) (by decide +kernel)), inT2 (List.mem_of_getElem? (i := 211) (by decide +kernel)), inT1 (List.mem_of_getElem? (i := 15) (by decide +kernel)), rfl, by decide +kernel, rfl⟩
theorem nX1_148 : NL RX1 148 9 6 [.null, .null, .null, .null, .int 0, .int 0] := ⟨RX9, TX9, tyX9, rfl, layX9, tyX9_ok, inT3 (List.mem_of_getElem? (i := 30) (by decide +kernel)), inT3 (List.mem_of_getElem? (i := 31) (by decide +kernel)), inT1 (List.mem_of_getElem? (i := 16) (by decide +kernel)), rfl, by decide +kernel, rfl⟩
theorem qX9_15 : Cond.classLink RX9 15 "FoamArms$Foam" ∈ lw_tbl := inT3 (List.mem_of_getElem? (i := 36) (by decide +kernel))
theorem nX1_171 : NL RX1 171 2 3 [.null, .int 0, .int 0] := ⟨RX2, TX2, tyX2, rfl, layX2, tyX2_ok, inT3 (List.mem_of_getElem? (i := 79) (by decide +kernel)), inT3 (List.mem_of_getElem? (i := 80) (by decide +kernel)), inT1 (List.mem_of_getElem? (i := 17) (by decide +kernel)), rfl, by decide +kernel, rfl⟩
theorem nX1_206 : NL RX1 206 5 4 [.int 0, .int 0, .int 0, .int 0] := ⟨RX5, TX5, tyX5, rfl, layX5, tyX5_ok, inT3 (List.mem_of_getElem? (i := 137) (by decide +kernel)), inT3 (List.mem_of_getElem? (i := 138) (by decide +kernel)), inT1 (List.mem_of_getElem? (i := 18) (by decide +kernel)), rfl, by decide +kernel, rfl⟩
theorem nL_16 : NL RL 16 12 35 [.int 0, .null, .null, .null, .int 0, .int 0, .int 0, .int 0, .int 0, .int 0, .int 0, .int 0, .int 0, .int 0, .int 0, .long 0, .int 0, .null, .int 0, .null, .null, .int 0, .int 0, .int 0, .int 0, .int 0, .null, .null, .null, .null, .null, .null, .null, .int 0, .int 0] := ⟨RX12, TX12, tyX12, rfl, layX12, tyX12_ok, inT5 (List.mem_of_getElem? (i := 50) (by decide +kernel)), inT5 (List.mem_of_getElem? (i := 51) (by decide +kernel)), inT1 (List.mem_of_getElem? (i := 13) (by decide +kernel)), rfl, by decide +kernel, rfl⟩
theorem ao_4 : Cond.arrayOver (.object "FoamArms$Foam") ∈ lw_tbl := inT1 (List.mem_of_getElem? (i := 174) (by decide +kernel))
theorem ao_5 : Cond.arrayOver (.object "FoamArms$Thing") ∈ lw_tbl := inT1 (List.mem_of_getElem? (i := 176) (by decide +kernel))
theorem ao_6 : Cond.arrayOver (.object "FoamArms$Box") ∈ lw_tbl := inT1 (List.mem_of_getElem? (i := 178) (by decide +kernel))
theorem ao_7 : Cond.arrayOver (.object "FoamArms$Drop") ∈ lw_tbl := inT1 (List.mem_of_getElem? (i := 180) (by decide +kernel))
theorem ao_8 : Cond.arrayOver (.object "FoamArms$Book") ∈ lw_tbl := inT1 (List.mem_of_getElem? (i := 167) (by decide +kernel))
theorem ac_byte : Cond.arrayClass .byte ∈ lw_tbl := inT1 (List.mem_of_getElem? (i := 49) (by decide +kernel))
theorem ac_long : Cond.arrayClass .long ∈ lw_tbl := inT1 (List.mem_of_getElem? (i := 135) (by decide +kernel))
theorem ac_int : Cond.arrayClass .int ∈ lw_tbl := inT1 (List.mem_of_getElem? (i := 136) (by decide +kernel))
theorem ac_boolean : Cond.arrayClass .boolean ∈ lw_tbl := inT5 (List.mem_of_getElem? (i := 162) (by decide +kernel))
theorem kX10_87 : Cond.constantLong RX10 87 (32) ∈ lw_tbl := inT1 (List.mem_of_getElem? (i := 114) (by decide +kernel))
theorem kX10_89 : Cond.constantLong RX10 89 (97) ∈ lw_tbl := inT1 (List.mem_of_getElem? (i := 115) (by decide +kernel))
theorem kX10_79 : Cond.constantLong RX10 79 (10) ∈ lw_tbl := inT2 (List.mem_of_getElem? (i := 154) (by decide +kernel))
theorem kX10_81 : Cond.constantLong RX10 81 (48) ∈ lw_tbl := inT2 (List.mem_of_getElem? (i := 155) (by decide +kernel))
theorem kX1_140 : Cond.constant RX1 140 (60000) ∈ lw_tbl := inT3 (List.mem_of_getElem? (i := 13) (by decide +kernel))
theorem kX4_83 : Cond.constantLong RX4 83 (2) ∈ lw_tbl := inT4 (List.mem_of_getElem? (i := 6) (by decide +kernel))
theorem kX4_85 : Cond.constantLong RX4 85 (100) ∈ lw_tbl := inT4 (List.mem_of_getElem? (i := 7) (by decide +kernel))
theorem kX4_94 : Cond.constantLong RX4 94 (2000000000) ∈ lw_tbl := inT4 (List.mem_of_getElem? (i := 21) (by decide +kernel))
theorem kX4_96 : Cond.constantLong RX4 96 (10) ∈ lw_tbl := inT4 (List.mem_of_getElem? (i := 22) (by decide +kernel))
theorem kJ6_265 : Cond.constant RJ6 265 (1431655765) ∈ lw_tbl := inT4 (List.mem_of_getElem? (i := 155) (by decide +kernel))
theorem kJ6_266 : Cond.constant RJ6 266 (858993459) ∈ lw_tbl := inT4 (List.mem_of_getElem? (i := 156) (by decide +kernel))
theorem kJ6_267 : Cond.constant RJ6 267 (252645135) ∈ lw_tbl := inT4 (List.mem_of_getElem? (i := 157) (by decide +kernel))
theorem kX11_228 : Cond.constant RX11 228 (60000) ∈ lw_tbl := inT4 (List.mem_of_getElem? (i := 174) (by decide +kernel))
theorem kX11_260 : Cond.constantLong RX11 260 (100) ∈ lw_tbl := inT4 (List.mem_of_getElem? (i := 183) (by decide +kernel))
theorem kX11_266 : Cond.constant RX11 266 (1000000) ∈ lw_tbl := inT4 (List.mem_of_getElem? (i := 191) (by decide +kernel))
theorem kX11_247 : Cond.constantLong RX11 247 (1000000000000000) ∈ lw_tbl := inT4 (List.mem_of_getElem? (i := 192) (by decide +kernel))
theorem kX12_105 : Cond.constantLong RX12 105 (27) ∈ lw_tbl := inT5 (List.mem_of_getElem? (i := 211) (by decide +kernel))
theorem kX12_107 : Cond.constantLong RX12 107 (96) ∈ lw_tbl := inT5 (List.mem_of_getElem? (i := 212) (by decide +kernel))
theorem kX12_117 : Cond.constantLong RX12 117 (19) ∈ lw_tbl := inT6 (List.mem_of_getElem? (i := 23) (by decide +kernel))
theorem kX12_173 : Cond.constant RX12 173 (60000) ∈ lw_tbl := inT6 (List.mem_of_getElem? (i := 44) (by decide +kernel))
theorem kX12_230 : Cond.constantLong RX12 230 (2) ∈ lw_tbl := inT6 (List.mem_of_getElem? (i := 117) (by decide +kernel))
theorem kX12_232 : Cond.constantLong RX12 232 (100) ∈ lw_tbl := inT6 (List.mem_of_getElem? (i := 118) (by decide +kernel))
theorem kX12_234 : Cond.constantLong RX12 234 (10) ∈ lw_tbl := inT6 (List.mem_of_getElem? (i := 128) (by decide +kernel))
theorem kX12_236 : Cond.constantLong RX12 236 (2000000000) ∈ lw_tbl := inT6 (List.mem_of_getElem? (i := 129) (by decide +kernel))
theorem kX12_238 : Cond.constant RX12 238 (2000000000) ∈ lw_tbl := inT6 (List.mem_of_getElem? (i := 130) (by decide +kernel))
theorem kX12_302 : Cond.constantLong RX12 302 (1000000000000000) ∈ lw_tbl := inT6 (List.mem_of_getElem? (i := 211) (by decide +kernel))
theorem kX12_308 : Cond.constant RX12 308 (1000000) ∈ lw_tbl := inT6 (List.mem_of_getElem? (i := 223) (by decide +kernel))
end
